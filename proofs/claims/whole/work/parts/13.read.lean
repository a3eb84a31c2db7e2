def zpf (Z : ZT) (k : Nat) (F : Nat → Nat → Int32) (fs : List Nat) : ZT := fun a b => if b ∈ fs ∧ 11 ≤ a ∧ a < 11 + 4 * k ∧ (a - 11) % 4 = 0 then F ((a - 11) / 4) b else Z a b
theorem zpf_at {Z : ZT} {k i b : Nat} {F : Nat → Nat → Int32} {fs : List Nat} (h : i < k) (hb : b ∈ fs) : zpf Z k F fs (11 + 4 * i) b = F i b := by
  have h1 : 11 ≤ 11 + 4 * i := by omega
  have h2 : 11 + 4 * i < 11 + 4 * k := by omega
  have h3 : (11 + 4 * i - 11) % 4 = 0 := by omega
  have h4 : (11 + 4 * i - 11) / 4 = i := by omega
  simp only [zpf, hb, h1, h2, h3, h4, and_self, if_true]
theorem zpf_o {Z : ZT} {k a b : Nat} {F : Nat → Nat → Int32} {fs : List Nat} (h : a < 11 ∨ 11 + 4 * k ≤ a ∨ (a - 11) % 4 ≠ 0) : zpf Z k F fs a b = Z a b := by
  have : ¬ (b ∈ fs ∧ 11 ≤ a ∧ a < 11 + 4 * k ∧ (a - 11) % 4 = 0) := by omega
  simp only [zpf, this, if_false]
theorem zpf_f {Z : ZT} {k a b : Nat} {F : Nat → Nat → Int32} {fs : List Nat} (h : b ∉ fs) : zpf Z k F fs a b = Z a b := by
  simp only [zpf, h, false_and, if_false]
theorem zpf_0 {Z : ZT} {F : Nat → Nat → Int32} {fs : List Nat} : zpf Z 0 F fs = Z := by
  funext a b
  exact zpf_o (by omega)
theorem zpf_s {Z Z1 : ZT} {k : Nat} {F : Nat → Nat → Int32} {fs : List Nat} (h1 : ∀ a b, a ≠ 11 + 4 * k → Z1 a b = zpf Z k F fs a b) (h2 : ∀ b, b ∈ fs → Z1 (11 + 4 * k) b = F k b) (h3 : ∀ b, b ∉ fs → Z1 (11 + 4 * k) b = Z (11 + 4 * k) b) : Z1 = zpf Z (k + 1) F fs := by
  funext a b
  by_cases ha : a = 11 + 4 * k
  · rw [ha]
    by_cases hb : b ∈ fs
    · rw [h2 b hb, zpf_at (by omega) hb]
    · rw [h3 b hb, zpf_f hb]
  · rw [h1 a b ha]
    by_cases hc : b ∈ fs ∧ 11 ≤ a ∧ a < 11 + 4 * k ∧ (a - 11) % 4 = 0
    · have hc2 : b ∈ fs ∧ 11 ≤ a ∧ a < 11 + 4 * (k + 1) ∧ (a - 11) % 4 = 0 := ⟨hc.1, hc.2.1, by omega, hc.2.2.2⟩
      simp only [zpf, hc, hc2, if_true, and_self]
    · have hc2 : ¬ (b ∈ fs ∧ 11 ≤ a ∧ a < 11 + 4 * (k + 1) ∧ (a - 11) % 4 = 0) := fun q => hc ⟨q.1, q.2.1, by omega, q.2.2.2⟩
      simp only [zpf, hc, hc2, if_false]
theorem zpf_n {Z : ZT} {k : Nat} {F : Nat → Nat → Int32} {fs : List Nat} (h : ∀ b, b ∈ fs → F k b = Z (11 + 4 * k) b) : zpf Z k F fs = zpf Z (k + 1) F fs :=
  zpf_s (fun _ _ _ => rfl) (fun b hb => by rw [zpf_o (by omega), h b hb]) (fun b hb => zpf_f hb)
def rtz (re po rc t : Int32) : Bool := decide (re.toInt = t.toInt ∧ po.toInt < rc.toInt)
abbrev rtC (Z : ZT) (t : Int32) (i : Nat) : Bool := rtz (Z (11 + 4 * i) 9) (Z (11 + 4 * i) 5) (Z (11 + 4 * i) 3) t
def ncC (Z : ZT) (t : Int32) (i : Nat) : Int32 := if rtC Z t i = true then Z (11 + 4 * i) 7 + Z (11 + 4 * i) 8 else Z (11 + 4 * i) 7
def nxb (rd : Nat → Bool) (nc : Nat → Int32) : Nat → Option Nat
  | 0 => none
  | n + 1 => if rd n = true then (match nxb rd nc n with
    | none => some n
    | some c => if (nc n).toInt ≤ (nc c).toInt then some c else some n) else nxb rd nc n
def nxs (rd : Nat → Bool) (sh : Nat → Int32) : Nat → Int32
  | 0 => 0
  | n + 1 => if rd n = true then nxs rd sh n + sh n else nxs rd sh n
def oiz : Option Nat → Int32
  | none => -1
  | some c => nI c
theorem nxb_spec {rd : Nat → Bool} {nc : Nat → Int32} : ∀ {n c : Nat}, nxb rd nc n = some c → c < n ∧ rd c = true := by
  intro n
  induction n with
  | zero => intro c h; cases h
  | succ n ih =>
    intro c h
    by_cases hr : rd n = true
    · cases hb : nxb rd nc n with
      | none =>
        simp only [nxb, hr, hb, if_true] at h
        cases h
        exact ⟨by omega, hr⟩
      | some d =>
        simp only [nxb, hr, hb, if_true] at h
        by_cases hc : (nc n).toInt ≤ (nc d).toInt
        · simp only [hc, if_true] at h
          cases h
          have := ih hb
          exact ⟨by omega, this.2⟩
        · simp only [hc, if_false] at h
          cases h
          exact ⟨by omega, hr⟩
    · simp only [nxb, hr, if_false] at h
      have := ih h
      exact ⟨by omega, this.2⟩
theorem nxb_congr {rd rd' : Nat → Bool} {nc nc' : Nat → Int32} : ∀ {n : Nat}, (∀ i, i < n → rd i = rd' i) → (∀ i, i < n → nc i = nc' i) → nxb rd nc n = nxb rd' nc' n := by
  intro n
  induction n with
  | zero => intro _ _; rfl
  | succ n ih =>
    intro h1 h2
    have e := ih (fun i hi => h1 i (by omega)) (fun i hi => h2 i (by omega))
    have e1 := h1 n (by omega)
    have e2 := h2 n (by omega)
    cases hb : nxb rd' nc' n with
    | none => rw [hb] at e; simp only [nxb, e, e1, hb]
    | some d =>
      rw [hb] at e
      have e3 := h2 d (by have := nxb_spec hb; omega)
      simp only [nxb, e, e1, e2, e3, hb]
theorem nxs_congr {rd rd' : Nat → Bool} {sh sh' : Nat → Int32} : ∀ {n : Nat}, (∀ i, i < n → rd i = rd' i) → (∀ i, i < n → sh i = sh' i) → nxs rd sh n = nxs rd' sh' n := by
  intro n
  induction n with
  | zero => intro _ _; rfl
  | succ n ih => intro h1 h2; simp only [nxs, h1 n (by omega), h2 n (by omega), ih (fun i hi => h1 i (by omega)) (fun i hi => h2 i (by omega))]
theorem nxb_f {rd : Nat → Bool} {nc : Nat → Int32} {n : Nat} (h : rd n = false) : nxb rd nc (n + 1) = nxb rd nc n := by simp [nxb, h]
theorem nxb_0 {rd : Nat → Bool} {nc : Nat → Int32} {n : Nat} (h : rd n = true) (hb : nxb rd nc n = none) : nxb rd nc (n + 1) = some n := by simp [nxb, h, hb]
theorem nxb_1 {rd : Nat → Bool} {nc : Nat → Int32} {n c : Nat} (h : rd n = true) (hb : nxb rd nc n = some c) (hc : (nc n).toInt ≤ (nc c).toInt) : nxb rd nc (n + 1) = some c := by simp [nxb, h, hb, hc]
theorem nxb_2 {rd : Nat → Bool} {nc : Nat → Int32} {n c : Nat} (h : rd n = true) (hb : nxb rd nc n = some c) (hc : (nc c).toInt < (nc n).toInt) : nxb rd nc (n + 1) = some n := by simp [nxb, h, hb, show ¬ (nc n).toInt ≤ (nc c).toInt by omega]
theorem nxs_t {rd : Nat → Bool} {sh : Nat → Int32} {n : Nat} (h : rd n = true) : nxs rd sh (n + 1) = nxs rd sh n + sh n := by simp [nxs, h]
theorem nxs_f {rd : Nat → Bool} {sh : Nat → Int32} {n : Nat} (h : rd n = false) : nxs rd sh (n + 1) = nxs rd sh n := by simp [nxs, h]
abbrev shC (Z : ZT) (i : Nat) : Int32 := Z (11 + 4 * i) 8
set_option maxRecDepth 100000 in
set_option maxHeartbeats 4000000 in
theorem kX4_chooseByCredit {l : Launch} {D : va_G} {Y : YT} {b0 : Nat} {G : GT} (hD : GD b0 G) (hG : Gok 113 G) {Z : ZT} {np : Nat} (hnp : Z 0 5 = nI np) (hnp12 : np ≤ 12) (hpo : ∀ i, i < np → 0 ≤ (Z (11 + 4 * i) 5).toInt) (p0 : Int32) : CI l D Y b0 G yX4_chooseByCredit cX4_chooseByCredit 6 (some .int) 3 [.ref (G.2.1 (0)), .int (p0)] Z (fun r Z' => (nxb (rtC Z p0) (ncC Z p0) np = none ∧ r = (-1) ∧ Z' = zpf Z np (fun i _ => ncC Z p0 i) [7]) ∨ ∃ c, nxb (rtC Z p0) (ncC Z p0) np = some c ∧ r = nI c ∧ Z' = zu (zpf Z np (fun i _ => ncC Z p0 i) [7]) (11 + 4 * c) 7 (ncC Z p0 c - nxs (rtC Z p0) (shC Z) np)) := by
  refine ci_start (lv0 := [(0, .ref (G.2.1 (0))), (1, .int (p0))]) hD rfl rfl (Nat.le_of_ble_eq_true rfl) rfl ?_
  intro E C R hR hD hN
  have L7 : ∀ (n : Nat) (k : Nat) (o : Option Nat), np + 1 ≤ k + n → k ≤ np → nxb (rtC Z p0) (ncC Z p0) k = o → J E 0 0 G 7 [(4, .int (nI k)), (2, .int (oiz o)), (3, .int (nxs (rtC Z p0) (shC Z) k)), (0, .ref (G.2.1 (0))), (1, .int (p0))] [] (zpf Z (k) (fun i _ => ncC Z p0 i) [7]) := by
    intro n
    induction n with
    | zero => intro k o hn hk ho; exact absurd hn (by omega)
    | succ n ih =>
      intro k o hn hk ho
      rcases o with _ | c
      ·
        refine j_iload C 0 dX4_chooseByCredit_7 rfl ?_
        refine j_aload_n C 3 dX4_chooseByCredit_9 rfl rfl ?_
        refine j_getI C zK4 (zb_X hG) (zs_X hG) (f := 5) (by decide) rfl zk_X4_44 rfl (nI np) ((zpf_o (by omega)).trans (hnp)) dX4_chooseByCredit_10 ?_
        refine j_icmp_ge (tgt := 88) (a := ((k : Nat) : Int)) (b := ((np : Nat) : Int)) C (nI_toInt (by omega)) (nI_toInt (by omega)) dX4_chooseByCredit_13 (by decide) (fun c13 => ?_) (fun c13 => ?_)
        ·
          have e9 : k = np := by omega
          subst e9
          refine j_iload_n C 1 dX4_chooseByCredit_88 rfl rfl ?_
          refine j_iconst C (-1) dX4_chooseByCredit_89 (by decide) ?_
          refine j_icmp_eq (tgt := 108) (a := -1) (b := -1) C (show ((-1 : Int32)).toInt = -1 by decide) (show ((-1 : Int32)).toInt = -1 by decide) dX4_chooseByCredit_90 (by decide) (fun c90 => ?_) (fun c90 => absurd c90 (by omega))
          refine j_iload_n C 1 dX4_chooseByCredit_108 rfl rfl ?_
          refine j_iret C R dX4_chooseByCredit_109 ?_
          exact Or.inl ⟨ho, rfl, rfl⟩
        ·
          refine j_aload_n C 3 dX4_chooseByCredit_16 rfl rfl ?_
          refine j_getR C zK4 (zb_X hG) (zs_X hG) (f := 0) (by decide) rfl zk_X4_11 rfl (zf_X_0 hG) dX4_chooseByCredit_17 ?_
          refine j_iload C 0 dX4_chooseByCredit_20 rfl ?_
          refine j_aldP C (zb_Pts hG) (zs_Pts hG) (zl_Pts hG) rfl (by omega) (by decide) (zf_Pts hG (by omega)) dX4_chooseByCredit_22 ?_
          refine j_astore (lv' := [(5, .ref (G.2.1 (11 + 4 * k))), (4, .int (nI k)), (2, .int (-1)), (3, .int (nxs (rtC Z p0) (shC Z) k)), (0, .ref (G.2.1 (0))), (1, .int (p0))]) C dX4_chooseByCredit_23 (by rw [hN]; decide) rfl ?_
          refine j_aload C 0 dX4_chooseByCredit_25 rfl ?_
          refine j_iload_n C 5 dX4_chooseByCredit_27 rfl rfl ?_
          refine j_callIN C hR (kX3_isReadyFor hD hG (i := k)  (by omega) (rc := Z (11 + 4 * k) (3)) (rcI := (Z (11 + 4 * k) (3)).toInt) (zpf_o (by omega)) rfl (po := Z (11 + 4 * k) (5)) (poI := (Z (11 + 4 * k) (5)).toInt) (zpf_o (by omega)) rfl (re := Z (11 + 4 * k) (9)) (reI := (Z (11 + 4 * k) (9)).toInt) (zpf_o (by omega)) rfl (p0 := p0) (b := (p0).toInt) rfl) [] zmX3_isReadyFor zk_X4_178 zK3 (zb_Part hG (by omega)) (zs_Part hG (by omega)) (by decide) rfl rfl (Nat.le_of_ble_eq_true rfl) dX4_chooseByCredit_28 (fun r28 Z28 h28 => ?_)
          obtain ⟨e28, ⟨rfl, h28⟩ | ⟨rfl, h28⟩⟩ := h28
          ·
            refine j_Z e28 ?_
            have hrt : rtC Z p0 k = true := decide_eq_true (by have := hpo k (by omega); omega)
            have hnc : Z (11 + 4 * k) 7 + Z (11 + 4 * k) 8 = ncC Z p0 k := by simp only [ncC, hrt, if_true]
            refine j_if_eq (tgt := 82) (a := ((1 : Nat) : Int)) C (nI_toInt (by omega)) dX4_chooseByCredit_31 (by decide) (fun c31 => absurd c31 (by omega)) (fun c31 => ?_)
            refine j_aload C 0 dX4_chooseByCredit_34 rfl ?_
            refine j_dup C dX4_chooseByCredit_36 rfl ?_
            refine j_getIN C zK3 (zb_Part hG (by omega)) (zs_Part hG (by omega)) (f := 7) (by decide) rfl zk_X4_142 rfl (Z (11 + 4 * k) (7)) (zpf_o (by omega)) dX4_chooseByCredit_37 ?_
            refine j_aload C 0 dX4_chooseByCredit_40 rfl ?_
            refine j_getIN C zK3 (zb_Part hG (by omega)) (zs_Part hG (by omega)) (f := 8) (by decide) rfl zk_X4_79 rfl (Z (11 + 4 * k) (8)) (zpf_o (by omega)) dX4_chooseByCredit_42 ?_
            refine j_iadd C (ncC Z p0 k) dX4_chooseByCredit_45 hnc ?_
            refine j_putIN C hD zK3 (zb_Part hG (by omega)) (zs_Part hG (by omega)) (f := 7) (by decide) rfl zk_X4_142 rfl rfl rfl rfl dX4_chooseByCredit_46 ?_
            refine j_iload_n C 3 dX4_chooseByCredit_49 rfl rfl ?_
            refine j_aload C 0 dX4_chooseByCredit_50 rfl ?_
            refine j_getIN C zK3 (zb_Part hG (by omega)) (zs_Part hG (by omega)) (f := 8) (by decide) rfl zk_X4_79 rfl (Z (11 + 4 * k) (8)) ((zu_o (by omega)).trans ((zpf_o (by omega)))) dX4_chooseByCredit_52 ?_
            refine j_iadd C ((nxs (rtC Z p0) (shC Z) k) + (Z (11 + 4 * k) (8))) dX4_chooseByCredit_55 rfl ?_
            refine j_istore_n (lv' := [(3, .int ((nxs (rtC Z p0) (shC Z) k) + (Z (11 + 4 * k) (8)))), (5, .ref (G.2.1 (11 + 4 * k))), (4, .int (nI k)), (2, .int (-1)), (0, .ref (G.2.1 (0))), (1, .int (p0))]) C dX4_chooseByCredit_56 rfl (by rw [hN]; decide) rfl ?_
            refine j_iload_n C 3 dX4_chooseByCredit_57 rfl rfl ?_
            refine j_iconst C (-1) dX4_chooseByCredit_58 (by decide) ?_
            refine j_icmp_eq (tgt := 79) (a := -1) (b := -1) C (show ((-1 : Int32)).toInt = -1 by decide) (show ((-1 : Int32)).toInt = -1 by decide) dX4_chooseByCredit_59 (by decide) (fun c59 => ?_) (fun c59 => absurd c59 (by omega))
            refine j_iload C 2 dX4_chooseByCredit_79 rfl ?_
            refine j_istore_n (lv' := [(2, .int (nI k)), (3, .int ((nxs (rtC Z p0) (shC Z) k) + (Z (11 + 4 * k) (8)))), (5, .ref (G.2.1 (11 + 4 * k))), (4, .int (nI k)), (0, .ref (G.2.1 (0))), (1, .int (p0))]) C dX4_chooseByCredit_81 rfl (by rw [hN]; decide) rfl ?_
            refine j_iinc (v := nI (k + 1)) (lv' := [(4, .int (nI (k + 1))), (2, .int (nI k)), (3, .int ((nxs (rtC Z p0) (shC Z) k) + (Z (11 + 4 * k) (8)))), (5, .ref (G.2.1 (11 + 4 * k))), (0, .ref (G.2.1 (0))), (1, .int (p0))]) C 3 dX4_chooseByCredit_82 rfl (nI_add k 1) (by rw [hN]; decide) rfl ?_
            refine j_goto (tgt := 7) C dX4_chooseByCredit_85 (by decide) ?_
            refine j_sub (lv' := [(4, .int (nI (k + 1))), (2, .int (nI k)), (3, .int ((nxs (rtC Z p0) (shC Z) k) + (Z (11 + 4 * k) (8)))), (0, .ref (G.2.1 (0))), (1, .int (p0))]) [0, 1, 2, 4, 5] rfl ?_
            refine j_lv (lv' := [(4, .int (nI (k + 1))), (2, .int (oiz (some k))), (3, .int (nxs (rtC Z p0) (shC Z) (k + 1))), (0, .ref (G.2.1 (0))), (1, .int (p0))]) (by rw [nxs_t hrt]; rfl) ?_
            refine j_Z (Z' := (zpf Z (k + 1) (fun i _ => ncC Z p0 i) [7])) (zpf_s (fun a b ha => zu_o (by omega)) (fun b hb => by rw [List.mem_singleton.mp hb, zu_s]; try exact hnc) (fun b hb => by rw [zu_o (Or.inr (fun q => hb (by rw [q]; decide))), zpf_o (by omega)])) ?_
            exact ih (k + 1) (some k) (by omega) (by omega) (by first | exact nxb_0 hrt ho | exact nxb_2 hrt ho (by omega))
          ·
            refine j_Z e28 ?_
            have hrt : rtC Z p0 k = false := decide_eq_false (by have := hpo k (by omega); omega)
            have hnc : ncC Z p0 k = Z (11 + 4 * k) 7 := by simp only [ncC, hrt]; rfl
            refine j_if_eq (tgt := 82) (a := ((0 : Nat) : Int)) C (nI_toInt (by omega)) dX4_chooseByCredit_31 (by decide) (fun c31 => ?_) (fun c31 => absurd c31 (by omega))
            refine j_iinc (v := nI (k + 1)) (lv' := [(4, .int (nI (k + 1))), (5, .ref (G.2.1 (11 + 4 * k))), (2, .int (-1)), (3, .int (nxs (rtC Z p0) (shC Z) k)), (0, .ref (G.2.1 (0))), (1, .int (p0))]) C 1 dX4_chooseByCredit_82 rfl (nI_add k 1) (by rw [hN]; decide) rfl ?_
            refine j_goto (tgt := 7) C dX4_chooseByCredit_85 (by decide) ?_
            refine j_sub (lv' := [(4, .int (nI (k + 1))), (2, .int (-1)), (3, .int (nxs (rtC Z p0) (shC Z) k)), (0, .ref (G.2.1 (0))), (1, .int (p0))]) [0, 2, 3, 4, 5] rfl ?_
            refine j_lv (lv' := [(4, .int (nI (k + 1))), (2, .int (oiz none)), (3, .int (nxs (rtC Z p0) (shC Z) (k + 1))), (0, .ref (G.2.1 (0))), (1, .int (p0))]) (by rw [nxs_f hrt]; rfl) ?_
            refine j_Z (Z' := (zpf Z (k + 1) (fun i _ => ncC Z p0 i) [7])) (zpf_n (fun b hb => by rw [List.mem_singleton.mp hb]; exact hnc)) ?_
            exact ih (k + 1) none (by omega) (by omega) (by rw [nxb_f hrt]; exact ho)
      ·
        have hc : c < k := (nxb_spec ho).1
        refine j_iload C 0 dX4_chooseByCredit_7 rfl ?_
        refine j_aload_n C 3 dX4_chooseByCredit_9 rfl rfl ?_
        refine j_getI C zK4 (zb_X hG) (zs_X hG) (f := 5) (by decide) rfl zk_X4_44 rfl (nI np) ((zpf_o (by omega)).trans (hnp)) dX4_chooseByCredit_10 ?_
        refine j_icmp_ge (tgt := 88) (a := ((k : Nat) : Int)) (b := ((np : Nat) : Int)) C (nI_toInt (by omega)) (nI_toInt (by omega)) dX4_chooseByCredit_13 (by decide) (fun c13 => ?_) (fun c13 => ?_)
        ·
          have e9 : k = np := by omega
          subst e9
          refine j_iload_n C 1 dX4_chooseByCredit_88 rfl rfl ?_
          refine j_iconst C (-1) dX4_chooseByCredit_89 (by decide) ?_
          refine j_icmp_eq (tgt := 108) (a := ((c : Nat) : Int)) (b := -1) C (nI_toInt (by omega)) (show ((-1 : Int32)).toInt = -1 by decide) dX4_chooseByCredit_90 (by decide) (fun c90 => ?_) (fun c90 => ?_)
          ·
            refine j_iload_n C 1 dX4_chooseByCredit_108 rfl rfl ?_
            refine j_iret C R dX4_chooseByCredit_109 ?_
            exact absurd c90 (by omega)
          ·
            refine j_aload_n C 3 dX4_chooseByCredit_93 rfl rfl ?_
            refine j_getR C zK4 (zb_X hG) (zs_X hG) (f := 0) (by decide) rfl zk_X4_11 rfl (zf_X_0 hG) dX4_chooseByCredit_94 ?_
            refine j_iload_n C 1 dX4_chooseByCredit_97 rfl rfl ?_
            refine j_aldP C (zb_Pts hG) (zs_Pts hG) (zl_Pts hG) rfl (by omega) (by decide) (zf_Pts hG (by omega)) dX4_chooseByCredit_98 ?_
            refine j_dup C dX4_chooseByCredit_99 rfl ?_
            refine j_getIN C zK3 (zb_Part hG (by omega)) (zs_Part hG (by omega)) (f := 7) (by decide) rfl zk_X4_142 rfl (ncC Z p0 c) (zpf_at (by omega) (by decide)) dX4_chooseByCredit_100 ?_
            refine j_iload_n C 2 dX4_chooseByCredit_103 rfl rfl ?_
            refine j_isub C ((ncC Z p0 c) - (nxs (rtC Z p0) (shC Z) k)) dX4_chooseByCredit_104 rfl ?_
            refine j_putIN C hD zK3 (zb_Part hG (by omega)) (zs_Part hG (by omega)) (f := 7) (by decide) rfl zk_X4_142 rfl rfl rfl rfl dX4_chooseByCredit_105 ?_
            refine j_iload_n C 1 dX4_chooseByCredit_108 rfl rfl ?_
            refine j_iret C R dX4_chooseByCredit_109 ?_
            exact Or.inr ⟨c, ho, rfl, rfl⟩
        ·
          refine j_aload_n C 3 dX4_chooseByCredit_16 rfl rfl ?_
          refine j_getR C zK4 (zb_X hG) (zs_X hG) (f := 0) (by decide) rfl zk_X4_11 rfl (zf_X_0 hG) dX4_chooseByCredit_17 ?_
          refine j_iload C 0 dX4_chooseByCredit_20 rfl ?_
          refine j_aldP C (zb_Pts hG) (zs_Pts hG) (zl_Pts hG) rfl (by omega) (by decide) (zf_Pts hG (by omega)) dX4_chooseByCredit_22 ?_
          refine j_astore (lv' := [(5, .ref (G.2.1 (11 + 4 * k))), (4, .int (nI k)), (2, .int (nI c)), (3, .int (nxs (rtC Z p0) (shC Z) k)), (0, .ref (G.2.1 (0))), (1, .int (p0))]) C dX4_chooseByCredit_23 (by rw [hN]; decide) rfl ?_
          refine j_aload C 0 dX4_chooseByCredit_25 rfl ?_
          refine j_iload_n C 5 dX4_chooseByCredit_27 rfl rfl ?_
          refine j_callIN C hR (kX3_isReadyFor hD hG (i := k)  (by omega) (rc := Z (11 + 4 * k) (3)) (rcI := (Z (11 + 4 * k) (3)).toInt) (zpf_o (by omega)) rfl (po := Z (11 + 4 * k) (5)) (poI := (Z (11 + 4 * k) (5)).toInt) (zpf_o (by omega)) rfl (re := Z (11 + 4 * k) (9)) (reI := (Z (11 + 4 * k) (9)).toInt) (zpf_o (by omega)) rfl (p0 := p0) (b := (p0).toInt) rfl) [] zmX3_isReadyFor zk_X4_178 zK3 (zb_Part hG (by omega)) (zs_Part hG (by omega)) (by decide) rfl rfl (Nat.le_of_ble_eq_true rfl) dX4_chooseByCredit_28 (fun r28 Z28 h28 => ?_)
          obtain ⟨e28, ⟨rfl, h28⟩ | ⟨rfl, h28⟩⟩ := h28
          ·
            refine j_Z e28 ?_
            have hrt : rtC Z p0 k = true := decide_eq_true (by have := hpo k (by omega); omega)
            have hnc : Z (11 + 4 * k) 7 + Z (11 + 4 * k) 8 = ncC Z p0 k := by simp only [ncC, hrt, if_true]
            refine j_if_eq (tgt := 82) (a := ((1 : Nat) : Int)) C (nI_toInt (by omega)) dX4_chooseByCredit_31 (by decide) (fun c31 => absurd c31 (by omega)) (fun c31 => ?_)
            refine j_aload C 0 dX4_chooseByCredit_34 rfl ?_
            refine j_dup C dX4_chooseByCredit_36 rfl ?_
            refine j_getIN C zK3 (zb_Part hG (by omega)) (zs_Part hG (by omega)) (f := 7) (by decide) rfl zk_X4_142 rfl (Z (11 + 4 * k) (7)) (zpf_o (by omega)) dX4_chooseByCredit_37 ?_
            refine j_aload C 0 dX4_chooseByCredit_40 rfl ?_
            refine j_getIN C zK3 (zb_Part hG (by omega)) (zs_Part hG (by omega)) (f := 8) (by decide) rfl zk_X4_79 rfl (Z (11 + 4 * k) (8)) (zpf_o (by omega)) dX4_chooseByCredit_42 ?_
            refine j_iadd C (ncC Z p0 k) dX4_chooseByCredit_45 hnc ?_
            refine j_putIN C hD zK3 (zb_Part hG (by omega)) (zs_Part hG (by omega)) (f := 7) (by decide) rfl zk_X4_142 rfl rfl rfl rfl dX4_chooseByCredit_46 ?_
            refine j_iload_n C 3 dX4_chooseByCredit_49 rfl rfl ?_
            refine j_aload C 0 dX4_chooseByCredit_50 rfl ?_
            refine j_getIN C zK3 (zb_Part hG (by omega)) (zs_Part hG (by omega)) (f := 8) (by decide) rfl zk_X4_79 rfl (Z (11 + 4 * k) (8)) ((zu_o (by omega)).trans ((zpf_o (by omega)))) dX4_chooseByCredit_52 ?_
            refine j_iadd C ((nxs (rtC Z p0) (shC Z) k) + (Z (11 + 4 * k) (8))) dX4_chooseByCredit_55 rfl ?_
            refine j_istore_n (lv' := [(3, .int ((nxs (rtC Z p0) (shC Z) k) + (Z (11 + 4 * k) (8)))), (5, .ref (G.2.1 (11 + 4 * k))), (4, .int (nI k)), (2, .int (nI c)), (0, .ref (G.2.1 (0))), (1, .int (p0))]) C dX4_chooseByCredit_56 rfl (by rw [hN]; decide) rfl ?_
            refine j_iload_n C 3 dX4_chooseByCredit_57 rfl rfl ?_
            refine j_iconst C (-1) dX4_chooseByCredit_58 (by decide) ?_
            refine j_icmp_eq (tgt := 79) (a := ((c : Nat) : Int)) (b := -1) C (nI_toInt (by omega)) (show ((-1 : Int32)).toInt = -1 by decide) dX4_chooseByCredit_59 (by decide) (fun c59 => ?_) (fun c59 => ?_)
            ·
              refine j_iload C 2 dX4_chooseByCredit_79 rfl ?_
              refine j_istore_n (lv' := [(2, .int (nI k)), (3, .int ((nxs (rtC Z p0) (shC Z) k) + (Z (11 + 4 * k) (8)))), (5, .ref (G.2.1 (11 + 4 * k))), (4, .int (nI k)), (0, .ref (G.2.1 (0))), (1, .int (p0))]) C dX4_chooseByCredit_81 rfl (by rw [hN]; decide) rfl ?_
              refine j_iinc (v := nI (k + 1)) (lv' := [(4, .int (nI (k + 1))), (2, .int (nI k)), (3, .int ((nxs (rtC Z p0) (shC Z) k) + (Z (11 + 4 * k) (8)))), (5, .ref (G.2.1 (11 + 4 * k))), (0, .ref (G.2.1 (0))), (1, .int (p0))]) C 3 dX4_chooseByCredit_82 rfl (nI_add k 1) (by rw [hN]; decide) rfl ?_
              refine j_goto (tgt := 7) C dX4_chooseByCredit_85 (by decide) ?_
              refine j_sub (lv' := [(4, .int (nI (k + 1))), (2, .int (nI k)), (3, .int ((nxs (rtC Z p0) (shC Z) k) + (Z (11 + 4 * k) (8)))), (0, .ref (G.2.1 (0))), (1, .int (p0))]) [0, 1, 2, 4, 5] rfl ?_
              refine j_lv (lv' := [(4, .int (nI (k + 1))), (2, .int (oiz (some k))), (3, .int (nxs (rtC Z p0) (shC Z) (k + 1))), (0, .ref (G.2.1 (0))), (1, .int (p0))]) (by rw [nxs_t hrt]; rfl) ?_
              refine j_Z (Z' := (zpf Z (k + 1) (fun i _ => ncC Z p0 i) [7])) (zpf_s (fun a b ha => zu_o (by omega)) (fun b hb => by rw [List.mem_singleton.mp hb, zu_s]; try exact hnc) (fun b hb => by rw [zu_o (Or.inr (fun q => hb (by rw [q]; decide))), zpf_o (by omega)])) ?_
              exact ih (k + 1) (some k) (by omega) (by omega) (by first | exact nxb_0 hrt ho | exact nxb_2 hrt ho (by omega))
            ·
              refine j_aload C 1 dX4_chooseByCredit_62 rfl ?_
              refine j_getIN C zK3 (zb_Part hG (by omega)) (zs_Part hG (by omega)) (f := 7) (by decide) rfl zk_X4_142 rfl (ncC Z p0 k) zu_s dX4_chooseByCredit_64 ?_
              refine j_aload_n C 4 dX4_chooseByCredit_67 rfl rfl ?_
              refine j_getR C zK4 (zb_X hG) (zs_X hG) (f := 0) (by decide) rfl zk_X4_11 rfl (zf_X_0 hG) dX4_chooseByCredit_68 ?_
              refine j_iload_n C 3 dX4_chooseByCredit_71 rfl rfl ?_
              refine j_aldP C (zb_Pts hG) (zs_Pts hG) (zl_Pts hG) rfl (by omega) (by decide) (zf_Pts hG (by omega)) dX4_chooseByCredit_72 ?_
              refine j_getIN C zK3 (zb_Part hG (by omega)) (zs_Part hG (by omega)) (f := 7) (by decide) rfl zk_X4_142 rfl (ncC Z p0 c) ((zu_o (by omega)).trans ((zpf_at (by omega) (by decide)))) dX4_chooseByCredit_73 ?_
              refine j_icmp_le (tgt := 82) (a := (ncC Z p0 k).toInt) (b := (ncC Z p0 c).toInt) C rfl rfl dX4_chooseByCredit_76 (by decide) (fun c76 => ?_) (fun c76 => ?_)
              ·
                refine j_iinc (v := nI (k + 1)) (lv' := [(4, .int (nI (k + 1))), (3, .int ((nxs (rtC Z p0) (shC Z) k) + (Z (11 + 4 * k) (8)))), (5, .ref (G.2.1 (11 + 4 * k))), (2, .int (nI c)), (0, .ref (G.2.1 (0))), (1, .int (p0))]) C 2 dX4_chooseByCredit_82 rfl (nI_add k 1) (by rw [hN]; decide) rfl ?_
                refine j_goto (tgt := 7) C dX4_chooseByCredit_85 (by decide) ?_
                refine j_sub (lv' := [(4, .int (nI (k + 1))), (2, .int (nI c)), (3, .int ((nxs (rtC Z p0) (shC Z) k) + (Z (11 + 4 * k) (8)))), (0, .ref (G.2.1 (0))), (1, .int (p0))]) [0, 3, 1, 4, 5] rfl ?_
                refine j_lv (lv' := [(4, .int (nI (k + 1))), (2, .int (oiz (some c))), (3, .int (nxs (rtC Z p0) (shC Z) (k + 1))), (0, .ref (G.2.1 (0))), (1, .int (p0))]) (by rw [nxs_t hrt]; rfl) ?_
                refine j_Z (Z' := (zpf Z (k + 1) (fun i _ => ncC Z p0 i) [7])) (zpf_s (fun a b ha => zu_o (by omega)) (fun b hb => by rw [List.mem_singleton.mp hb, zu_s]; try exact hnc) (fun b hb => by rw [zu_o (Or.inr (fun q => hb (by rw [q]; decide))), zpf_o (by omega)])) ?_
                exact ih (k + 1) (some c) (by omega) (by omega) (nxb_1 hrt ho (by omega))
              ·
                refine j_iload C 2 dX4_chooseByCredit_79 rfl ?_
                refine j_istore_n (lv' := [(2, .int (nI k)), (3, .int ((nxs (rtC Z p0) (shC Z) k) + (Z (11 + 4 * k) (8)))), (5, .ref (G.2.1 (11 + 4 * k))), (4, .int (nI k)), (0, .ref (G.2.1 (0))), (1, .int (p0))]) C dX4_chooseByCredit_81 rfl (by rw [hN]; decide) rfl ?_
                refine j_iinc (v := nI (k + 1)) (lv' := [(4, .int (nI (k + 1))), (2, .int (nI k)), (3, .int ((nxs (rtC Z p0) (shC Z) k) + (Z (11 + 4 * k) (8)))), (5, .ref (G.2.1 (11 + 4 * k))), (0, .ref (G.2.1 (0))), (1, .int (p0))]) C 3 dX4_chooseByCredit_82 rfl (nI_add k 1) (by rw [hN]; decide) rfl ?_
                refine j_goto (tgt := 7) C dX4_chooseByCredit_85 (by decide) ?_
                refine j_sub (lv' := [(4, .int (nI (k + 1))), (2, .int (nI k)), (3, .int ((nxs (rtC Z p0) (shC Z) k) + (Z (11 + 4 * k) (8)))), (0, .ref (G.2.1 (0))), (1, .int (p0))]) [0, 1, 2, 4, 5] rfl ?_
                refine j_lv (lv' := [(4, .int (nI (k + 1))), (2, .int (oiz (some k))), (3, .int (nxs (rtC Z p0) (shC Z) (k + 1))), (0, .ref (G.2.1 (0))), (1, .int (p0))]) (by rw [nxs_t hrt]; rfl) ?_
                refine j_Z (Z' := (zpf Z (k + 1) (fun i _ => ncC Z p0 i) [7])) (zpf_s (fun a b ha => zu_o (by omega)) (fun b hb => by rw [List.mem_singleton.mp hb, zu_s]; try exact hnc) (fun b hb => by rw [zu_o (Or.inr (fun q => hb (by rw [q]; decide))), zpf_o (by omega)])) ?_
                exact ih (k + 1) (some k) (by omega) (by omega) (by first | exact nxb_0 hrt ho | exact nxb_2 hrt ho (by omega))
          ·
            refine j_Z e28 ?_
            have hrt : rtC Z p0 k = false := decide_eq_false (by have := hpo k (by omega); omega)
            have hnc : ncC Z p0 k = Z (11 + 4 * k) 7 := by simp only [ncC, hrt]; rfl
            refine j_if_eq (tgt := 82) (a := ((0 : Nat) : Int)) C (nI_toInt (by omega)) dX4_chooseByCredit_31 (by decide) (fun c31 => ?_) (fun c31 => absurd c31 (by omega))
            refine j_iinc (v := nI (k + 1)) (lv' := [(4, .int (nI (k + 1))), (5, .ref (G.2.1 (11 + 4 * k))), (2, .int (nI c)), (3, .int (nxs (rtC Z p0) (shC Z) k)), (0, .ref (G.2.1 (0))), (1, .int (p0))]) C 1 dX4_chooseByCredit_82 rfl (nI_add k 1) (by rw [hN]; decide) rfl ?_
            refine j_goto (tgt := 7) C dX4_chooseByCredit_85 (by decide) ?_
            refine j_sub (lv' := [(4, .int (nI (k + 1))), (2, .int (nI c)), (3, .int (nxs (rtC Z p0) (shC Z) k)), (0, .ref (G.2.1 (0))), (1, .int (p0))]) [0, 2, 3, 4, 5] rfl ?_
            refine j_lv (lv' := [(4, .int (nI (k + 1))), (2, .int (oiz (some c))), (3, .int (nxs (rtC Z p0) (shC Z) (k + 1))), (0, .ref (G.2.1 (0))), (1, .int (p0))]) (by rw [nxs_f hrt]; rfl) ?_
            refine j_Z (Z' := (zpf Z (k + 1) (fun i _ => ncC Z p0 i) [7])) (zpf_n (fun b hb => by rw [List.mem_singleton.mp hb]; exact hnc)) ?_
            exact ih (k + 1) (some c) (by omega) (by omega) (by rw [nxb_f hrt]; exact ho)
  refine j_iconst C (-1) dX4_chooseByCredit_0 (by decide) ?_
  refine j_istore_n (lv' := [(2, .int (-1)), (0, .ref (G.2.1 (0))), (1, .int (p0))]) C dX4_chooseByCredit_1 rfl (by rw [hN]; decide) rfl ?_
  refine j_iconst C (nI 0) dX4_chooseByCredit_2 (by decide) ?_
  refine j_istore_n (lv' := [(3, .int (nI 0)), (2, .int (-1)), (0, .ref (G.2.1 (0))), (1, .int (p0))]) C dX4_chooseByCredit_3 rfl (by rw [hN]; decide) rfl ?_
  refine j_iconst C (nI 0) dX4_chooseByCredit_4 (by decide) ?_
  refine j_istore (lv' := [(4, .int (nI 0)), (3, .int (nI 0)), (2, .int (-1)), (0, .ref (G.2.1 (0))), (1, .int (p0))]) C dX4_chooseByCredit_5 (by rw [hN]; decide) rfl ?_
  refine j_sub (lv' := [(4, .int (nI 0)), (2, .int (-1)), (3, .int (nI 0)), (0, .ref (G.2.1 (0))), (1, .int (p0))]) [0, 2, 1, 3, 4] rfl ?_
  refine j_lv (lv' := [(4, .int (nI 0)), (2, .int (oiz none)), (3, .int (nxs (rtC Z p0) (shC Z) 0)), (0, .ref (G.2.1 (0))), (1, .int (p0))]) rfl ?_
  refine j_Z (Z' := (zpf Z (0) (fun i _ => ncC Z p0 i) [7])) (zpf_0).symm ?_
  exact L7 (np + 1) 0 none (by omega) (by omega) rfl
set_option maxRecDepth 100000 in
set_option maxHeartbeats 4000000 in
theorem kX4_noteLatest {l : Launch} {D : va_G} {Y : YT} {b0 : Nat} {G : GT} (hD : GD b0 G) (hG : Gok 113 G) {Z : ZT} {c pl : Nat} (hc : c < 12) (hpl : pl < 40) {t md cr : Int32} (ht : Z (13 + 4 * c) pl = t) (hmd : Z 7 2 = md) (hcr : Z (11 + 4 * c) 7 = cr) : CV l D Y b0 G yX4_noteLatest cX4_noteLatest 3 0 [.ref (G.2.1 (0)), .int (nI c), .int (nI pl)] Z (fun Z' => Z' = (zu (zu (zu (zu (zu Z (10) (0) (nI c)) (10) (1) (nI pl)) (10) (2) (t)) (10) (3) (md)) (10) (4) (cr))) := by
  refine cv_start (lv0 := [(0, .ref (G.2.1 (0))), (1, .int (nI c)), (2, .int (nI pl))]) hD rfl (Nat.le_of_ble_eq_true rfl) rfl ?_
  intro E C R hR hD hN
  refine j_aload_n C 0 dX4_noteLatest_0 rfl rfl ?_
  refine j_getR C zK4 (zb_X hG) (zs_X hG) (f := 4) (by decide) rfl zk_X4_35 rfl (zf_X_4 hG) dX4_noteLatest_1 ?_
  refine j_iconst C (nI 0) dX4_noteLatest_4 (by decide) ?_
  refine j_iload_n C 1 dX4_noteLatest_5 rfl rfl ?_
  refine j_iast C hD (zb_Lat hG) (zs_Lat hG) (zl_Lat hG) rfl (by omega) (by decide) dX4_noteLatest_6 ?_
  refine j_aload_n C 0 dX4_noteLatest_7 rfl rfl ?_
  refine j_getR C zK4 (zb_X hG) (zs_X hG) (f := 4) (by decide) rfl zk_X4_35 rfl (zf_X_4 hG) dX4_noteLatest_8 ?_
  refine j_iconst C (nI 1) dX4_noteLatest_11 (by decide) ?_
  refine j_iload_n C 2 dX4_noteLatest_12 rfl rfl ?_
  refine j_iast C hD (zb_Lat hG) (zs_Lat hG) (zl_Lat hG) rfl (by omega) (by decide) dX4_noteLatest_13 ?_
  refine j_aload_n C 0 dX4_noteLatest_14 rfl rfl ?_
  refine j_getR C zK4 (zb_X hG) (zs_X hG) (f := 4) (by decide) rfl zk_X4_35 rfl (zf_X_4 hG) dX4_noteLatest_15 ?_
  refine j_iconst C (nI 2) dX4_noteLatest_18 (by decide) ?_
  refine j_aload_n C 0 dX4_noteLatest_19 rfl rfl ?_
  refine j_getR C zK4 (zb_X hG) (zs_X hG) (f := 0) (by decide) rfl zk_X4_11 rfl (zf_X_0 hG) dX4_noteLatest_20 ?_
  refine j_iload_n C 1 dX4_noteLatest_23 rfl rfl ?_
  refine j_aldP C (zb_Pts hG) (zs_Pts hG) (zl_Pts hG) rfl (by omega) (by decide) (zf_Pts hG hc) dX4_noteLatest_24 ?_
  refine j_getRN C zK3 (zb_Part hG hc) (zs_Part hG hc) (f := 1) (by decide) rfl zk_X4_241 rfl (zf_Part_1 hG hc) dX4_noteLatest_25 ?_
  refine j_iload_n C 2 dX4_noteLatest_28 rfl rfl ?_
  refine j_iald C (zb_Tim hG hc) (zs_Tim hG hc) (zl_Tim hG hc) rfl (by omega) (by decide) (t) ((zu_o (by omega)).trans ((zu_o (by omega)).trans (ht))) dX4_noteLatest_29 ?_
  refine j_iast C hD (zb_Lat hG) (zs_Lat hG) (zl_Lat hG) rfl (by omega) (by decide) dX4_noteLatest_30 ?_
  refine j_aload_n C 0 dX4_noteLatest_31 rfl rfl ?_
  refine j_getR C zK4 (zb_X hG) (zs_X hG) (f := 4) (by decide) rfl zk_X4_35 rfl (zf_X_4 hG) dX4_noteLatest_32 ?_
  refine j_iconst C (nI 3) dX4_noteLatest_35 (by decide) ?_
  refine j_aload_n C 0 dX4_noteLatest_36 rfl rfl ?_
  refine j_getR C zK4 (zb_X hG) (zs_X hG) (f := 3) (by decide) rfl zk_X4_31 rfl (zf_X_3 hG) dX4_noteLatest_37 ?_
  refine j_getIN C zK0 (zb_Del hG) (zs_Del hG) (f := 2) (by decide) rfl zk_X4_189 rfl (md) ((zu_o (by omega)).trans ((zu_o (by omega)).trans ((zu_o (by omega)).trans (hmd)))) dX4_noteLatest_40 ?_
  refine j_iast C hD (zb_Lat hG) (zs_Lat hG) (zl_Lat hG) rfl (by omega) (by decide) dX4_noteLatest_43 ?_
  refine j_aload_n C 0 dX4_noteLatest_44 rfl rfl ?_
  refine j_getR C zK4 (zb_X hG) (zs_X hG) (f := 4) (by decide) rfl zk_X4_35 rfl (zf_X_4 hG) dX4_noteLatest_45 ?_
  refine j_iconst C (nI 4) dX4_noteLatest_48 (by decide) ?_
  refine j_aload_n C 0 dX4_noteLatest_49 rfl rfl ?_
  refine j_getR C zK4 (zb_X hG) (zs_X hG) (f := 0) (by decide) rfl zk_X4_11 rfl (zf_X_0 hG) dX4_noteLatest_50 ?_
  refine j_iload_n C 1 dX4_noteLatest_53 rfl rfl ?_
  refine j_aldP C (zb_Pts hG) (zs_Pts hG) (zl_Pts hG) rfl (by omega) (by decide) (zf_Pts hG hc) dX4_noteLatest_54 ?_
  refine j_getIN C zK3 (zb_Part hG hc) (zs_Part hG hc) (f := 7) (by decide) rfl zk_X4_142 rfl (cr) ((zu_o (by omega)).trans ((zu_o (by omega)).trans ((zu_o (by omega)).trans ((zu_o (by omega)).trans (hcr))))) dX4_noteLatest_55 ?_
  refine j_iast C hD (zb_Lat hG) (zs_Lat hG) (zl_Lat hG) rfl (by omega) (by decide) dX4_noteLatest_58 ?_
  refine j_ret C R dX4_noteLatest_59 ?_
  exact rfl
set_option maxRecDepth 100000 in
set_option maxHeartbeats 4000000 in
theorem kX4_deliverFrom {l : Launch} {D : va_G} {Y : YT} {b0 : Nat} {G : GT} (hD : GD b0 G) (hG : Gok 113 G) {Z : ZT} {c : Nat} (hc : c < 12) {rc : Nat} (hrc : Z (11 + 4 * c) 3 = nI rc) (hrc40 : rc ≤ 40) {po : Nat} (hpo : Z (11 + 4 * c) 5 = nI po) (hporc : po < rc) {w : Int32} (hw : Z (11 + 4 * c) 6 = w) {t : Int32} (ht : Z (13 + 4 * c) po = t) {cr : Int32} (hcr : Z (11 + 4 * c) 7 = cr) {nu : Nat} (hnu : Z (12 + 4 * c) po = nI nu) (hnu256 : nu < 256) {sd : Int32} {sdI : Int} (hsd : Z (14 + 4 * c) po = sd) (hsdI : sd.toInt = sdI) {md : Nat} (hmd : Z 7 2 = nI md) (hmd9 : md < 2 ^ 19) {lo : Int32} (hlo : Z 7 3 = lo) {du : Int32} (hdu : Z 7 4 = du) {td : Int32} (htd : Z 7 5 = td) {tv8 : Int32} {tv8I : Int} (htv8 : Z 8 ((md + 1) % 64) = tv8) (htv8I : tv8.toInt = tv8I) {tv9 : Int32} {tv9I : Int} (htv9 : Z 9 ((md + 1) % 64) = tv9) (htv9I : tv9.toInt = tv9I) {gv : Int32} {gvI : Int} (hgv : Z 4 nu = gv) (hgvI : gv.toInt = gvI) {gc : Int32} (hgc : Z 3 3 = gc) {ac : Nat} (hac : Z 3 4 = nI ac) (hac100 : ac ≤ 100) : CI l D Y b0 G yX4_deliverFrom cX4_deliverFrom 7 (some .int) 3 [.ref (G.2.1 (0)), .int (nI c)] Z (fun r Z' => ((tv8I ≠ 0) ∧ r = (-2) ∧ Z' = (zu (zu (zu (zu (zu (zu (zu (zu (zu (zu (zu Z (7) (2) (nI (md + 1))) (10) (0) (nI c)) (10) (1) (nI po)) (10) (2) (t)) (10) (3) (nI (md + 1))) (10) (4) (cr)) (8) ((md + 1) % 64) (nI 0)) (7) (5) (td - tbz tv8)) (9) ((md + 1) % 64) (nI 0)) (7) (5) ((td - tbz tv8) - tbz tv9)) (7) (3) (lo + nI 1))) ∨ ((tv8I = 0 ∧ sdI = 0 ∧ ac < 100) ∧ r = (-3) ∧ Z' = (zu (zu (zu (zu (zu (zu (zu (zu (zu (zu (zu (zu (zu (zu (zu Z (7) (2) (nI (md + 1))) (10) (0) (nI c)) (10) (1) (nI po)) (10) (2) (t)) (10) (3) (nI (md + 1))) (10) (4) (cr)) (8) ((md + 1) % 64) (nI 0)) (7) (5) (td - tbz tv8)) (9) ((md + 1) % 64) (nI 0)) (7) (5) ((td - tbz tv8) - tbz tv9)) (5) (ac) (nI c)) (6) (ac) (nI po)) (3) (4) (nI (ac + 1))) (11 + 4 * c) (6) (if w < t then t else w)) (11 + 4 * c) (5) (nI (po + 1)))) ∨ ((tv8I = 0 ∧ sdI = 0 ∧ 100 ≤ ac) ∧ r = (-3) ∧ Z' = (zu (zu (zu (zu (zu (zu (zu (zu (zu (zu (zu (zu Z (7) (2) (nI (md + 1))) (10) (0) (nI c)) (10) (1) (nI po)) (10) (2) (t)) (10) (3) (nI (md + 1))) (10) (4) (cr)) (8) ((md + 1) % 64) (nI 0)) (7) (5) (td - tbz tv8)) (9) ((md + 1) % 64) (nI 0)) (7) (5) ((td - tbz tv8) - tbz tv9)) (11 + 4 * c) (6) (if w < t then t else w)) (11 + 4 * c) (5) (nI (po + 1)))) ∨ ((tv8I = 0 ∧ sdI ≠ 0 ∧ gvI ≠ 0) ∧ r = (-4) ∧ Z' = (zu (zu (zu (zu (zu (zu (zu (zu (zu (zu (zu (zu (zu Z (7) (2) (nI (md + 1))) (10) (0) (nI c)) (10) (1) (nI po)) (10) (2) (t)) (10) (3) (nI (md + 1))) (10) (4) (cr)) (8) ((md + 1) % 64) (nI 0)) (7) (5) (td - tbz tv8)) (9) ((md + 1) % 64) (nI 0)) (7) (5) ((td - tbz tv8) - tbz tv9)) (7) (4) (du + nI 1)) (11 + 4 * c) (6) (if w < t then t else w)) (11 + 4 * c) (5) (nI (po + 1)))) ∨ ((tv8I = 0 ∧ sdI ≠ 0 ∧ gvI = 0 ∧ tv9I = 0) ∧ r = nI nu ∧ Z' = (zu (zu (zu (zu (zu (zu (zu (zu (zu (zu (zu (zu (zu (zu Z (7) (2) (nI (md + 1))) (10) (0) (nI c)) (10) (1) (nI po)) (10) (2) (t)) (10) (3) (nI (md + 1))) (10) (4) (cr)) (8) ((md + 1) % 64) (nI 0)) (7) (5) (td - tbz tv8)) (9) ((md + 1) % 64) (nI 0)) (7) (5) ((td - tbz tv8) - tbz tv9)) (4) (nu) (nI 1)) (3) (3) (gc + nI 1)) (11 + 4 * c) (6) (if w < t then t else w)) (11 + 4 * c) (5) (nI (po + 1)))) ∨ ((tv8I = 0 ∧ sdI ≠ 0 ∧ gvI = 0 ∧ tv9I ≠ 0) ∧ r = nI nu ∧ Z' = (zu (zu (zu (zu (zu (zu (zu (zu (zu (zu (zu (zu Z (7) (2) (nI (md + 1))) (10) (0) (nI c)) (10) (1) (nI po)) (10) (2) (t)) (10) (3) (nI (md + 1))) (10) (4) (cr)) (8) ((md + 1) % 64) (nI 0)) (7) (5) (td - tbz tv8)) (9) ((md + 1) % 64) (nI 0)) (7) (5) ((td - tbz tv8) - tbz tv9)) (4) (nu) (nI 1)) (3) (3) (gc + nI 1)))) := by
  refine ci_start (lv0 := [(0, .ref (G.2.1 (0))), (1, .int (nI c))]) hD rfl rfl (Nat.le_of_ble_eq_true rfl) rfl ?_
  intro E C R hR hD hN
  refine j_aload_n C 0 dX4_deliverFrom_0 rfl rfl ?_
  refine j_getR C zK4 (zb_X hG) (zs_X hG) (f := 0) (by decide) rfl zk_X4_11 rfl (zf_X_0 hG) dX4_deliverFrom_1 ?_
  refine j_iload_n C 1 dX4_deliverFrom_4 rfl rfl ?_
  refine j_aldP C (zb_Pts hG) (zs_Pts hG) (zl_Pts hG) rfl (by omega) (by decide) (zf_Pts hG hc) dX4_deliverFrom_5 ?_
  refine j_astore_n (lv' := [(2, .ref (G.2.1 (11 + 4 * c))), (0, .ref (G.2.1 (0))), (1, .int (nI c))]) C dX4_deliverFrom_6 rfl (by rw [hN]; decide) rfl ?_
  refine j_aload_n C 0 dX4_deliverFrom_7 rfl rfl ?_
  refine j_callIN C hR (kX3_isReady hD hG (i := c)  hc (rc := nI rc) (rcI := ((rc : Nat) : Int)) hrc (nI_toInt (by omega)) (po := nI po) (poI := ((po : Nat) : Int)) hpo (nI_toInt (by omega))) [] zmX3_isReady zk_X4_136 zK3 (zb_Part hG hc) (zs_Part hG hc) (by decide) rfl rfl (Nat.le_of_ble_eq_true rfl) dX4_deliverFrom_8 (fun r8 Z8 h8 => ?_)
  obtain ⟨e8, ⟨rfl, h8⟩ | ⟨rfl, h8⟩⟩ := h8
  ·
    refine j_Z e8 ?_
    refine j_if_ne (tgt := 16) (a := ((1 : Nat) : Int)) C (nI_toInt (by omega)) dX4_deliverFrom_11 (by decide) (fun c11 => ?_) (fun c11 => absurd c11 (by omega))
    refine j_aload_n C 0 dX4_deliverFrom_16 rfl rfl ?_
    refine j_getIN C zK3 (zb_Part hG hc) (zs_Part hG hc) (f := 5) (by decide) rfl zk_X4_76 rfl (nI po) hpo dX4_deliverFrom_17 ?_
    refine j_istore_n (lv' := [(3, .int (nI po)), (2, .ref (G.2.1 (11 + 4 * c))), (0, .ref (G.2.1 (0))), (1, .int (nI c))]) C dX4_deliverFrom_20 rfl (by rw [hN]; decide) rfl ?_
    refine j_aload_n C 1 dX4_deliverFrom_21 rfl rfl ?_
    refine j_getRN C zK3 (zb_Part hG hc) (zs_Part hG hc) (f := 0) (by decide) rfl zk_X4_164 rfl (zf_Part_0 hG hc) dX4_deliverFrom_22 ?_
    refine j_iload_n C 0 dX4_deliverFrom_25 rfl rfl ?_
    refine j_iald C (zb_Num hG hc) (zs_Num hG hc) (zl_Num hG hc) rfl (by omega) (by decide) (nI nu) hnu dX4_deliverFrom_26 ?_
    refine j_istore (lv' := [(4, .int (nI nu)), (3, .int (nI po)), (2, .ref (G.2.1 (11 + 4 * c))), (0, .ref (G.2.1 (0))), (1, .int (nI c))]) C dX4_deliverFrom_27 (by rw [hN]; decide) rfl ?_
    refine j_aload_n C 3 dX4_deliverFrom_29 rfl rfl ?_
    refine j_getR C zK4 (zb_X hG) (zs_X hG) (f := 3) (by decide) rfl zk_X4_31 rfl (zf_X_3 hG) dX4_deliverFrom_30 ?_
    refine j_dup C dX4_deliverFrom_33 rfl ?_
    refine j_getIN C zK0 (zb_Del hG) (zs_Del hG) (f := 2) (by decide) rfl zk_X4_189 rfl (nI md) hmd dX4_deliverFrom_34 ?_
    refine j_iconst C (nI 1) dX4_deliverFrom_37 (by decide) ?_
    refine j_iadd C (nI (md + 1)) dX4_deliverFrom_38 (nI_add md 1) ?_
    refine j_putIN C hD zK0 (zb_Del hG) (zs_Del hG) (f := 2) (by decide) rfl zk_X4_189 rfl rfl rfl rfl dX4_deliverFrom_39 ?_
    refine j_aload_n C 3 dX4_deliverFrom_42 rfl rfl ?_
    refine j_iload_n C 4 dX4_deliverFrom_43 rfl rfl ?_
    refine j_iload_n C 1 dX4_deliverFrom_44 rfl rfl ?_
    refine j_callV C hR (kX4_noteLatest hD hG (c := c) (pl := po) (by omega) (by omega) (t := t) (md := nI (md + 1)) (cr := cr) ((zu_o (by omega)).trans (ht)) zu_s ((zu_o (by omega)).trans (hcr))) [] zmX4_noteLatest zk_X4_214 zK4 (zb_X hG) (zs_X hG) (by decide) rfl rfl (Nat.le_of_ble_eq_true rfl) dX4_deliverFrom_45 (fun Z45 h45 => ?_)
    refine j_Z (Z' := (zu (zu (zu (zu (zu (zu Z (7) (2) (nI (md + 1))) (10) (0) (nI c)) (10) (1) (nI po)) (10) (2) (t)) (10) (3) (nI (md + 1))) (10) (4) (cr))) h45 ?_
    refine j_aload_n C 3 dX4_deliverFrom_48 rfl rfl ?_
    refine j_getR C zK4 (zb_X hG) (zs_X hG) (f := 3) (by decide) rfl zk_X4_31 rfl (zf_X_3 hG) dX4_deliverFrom_49 ?_
    refine j_aload_n C 3 dX4_deliverFrom_52 rfl rfl ?_
    refine j_getR C zK4 (zb_X hG) (zs_X hG) (f := 3) (by decide) rfl zk_X4_31 rfl (zf_X_3 hG) dX4_deliverFrom_53 ?_
    refine j_getRN C zK0 (zb_Del hG) (zs_Del hG) (f := 0) (by decide) rfl zk_X4_217 rfl (zf_Del_0 hG) dX4_deliverFrom_56 ?_
    refine j_callIN C hR (kX0_take8 hD hG (md := md + 1) ((zu_o (by omega)).trans ((zu_o (by omega)).trans ((zu_o (by omega)).trans ((zu_o (by omega)).trans ((zu_o (by omega)).trans (zu_s)))))) (by omega) (td := td) ((zu_o (by omega)).trans ((zu_o (by omega)).trans ((zu_o (by omega)).trans ((zu_o (by omega)).trans ((zu_o (by omega)).trans ((zu_o (by omega)).trans (htd))))))) (tv := tv8) (tvI := tv8I) ((zu_o (by omega)).trans ((zu_o (by omega)).trans ((zu_o (by omega)).trans ((zu_o (by omega)).trans ((zu_o (by omega)).trans ((zu_o (by omega)).trans (htv8))))))) htv8I) [] zmX0_take zk_X4_221 zK0 (zb_Del hG) (zs_Del hG) (by decide) rfl rfl (Nat.le_of_ble_eq_true rfl) dX4_deliverFrom_59 (fun r59 Z59 h59 => ?_)
    obtain ⟨e59, ⟨rfl, h59⟩ | ⟨rfl, h59⟩⟩ := h59
    ·
      refine j_Z (Z' := (zu (zu (zu (zu (zu (zu (zu (zu Z (7) (2) (nI (md + 1))) (10) (0) (nI c)) (10) (1) (nI po)) (10) (2) (t)) (10) (3) (nI (md + 1))) (10) (4) (cr)) (8) ((md + 1) % 64) (nI 0)) (7) (5) (td - tbz tv8))) e59 ?_
      refine j_istore (lv' := [(5, .int (nI 1)), (4, .int (nI nu)), (3, .int (nI po)), (2, .ref (G.2.1 (11 + 4 * c))), (0, .ref (G.2.1 (0))), (1, .int (nI c))]) C dX4_deliverFrom_62 (by rw [hN]; decide) rfl ?_
      refine j_aload_n C 4 dX4_deliverFrom_64 rfl rfl ?_
      refine j_getR C zK4 (zb_X hG) (zs_X hG) (f := 3) (by decide) rfl zk_X4_31 rfl (zf_X_3 hG) dX4_deliverFrom_65 ?_
      refine j_aload_n C 4 dX4_deliverFrom_68 rfl rfl ?_
      refine j_getR C zK4 (zb_X hG) (zs_X hG) (f := 3) (by decide) rfl zk_X4_31 rfl (zf_X_3 hG) dX4_deliverFrom_69 ?_
      refine j_getRN C zK0 (zb_Del hG) (zs_Del hG) (f := 1) (by decide) rfl zk_X4_225 rfl (zf_Del_1 hG) dX4_deliverFrom_72 ?_
      refine j_callIN C hR (kX0_take9 hD hG (md := md + 1) ((zu_o (by omega)).trans ((zu_o (by omega)).trans ((zu_o (by omega)).trans ((zu_o (by omega)).trans ((zu_o (by omega)).trans ((zu_o (by omega)).trans ((zu_o (by omega)).trans (zu_s)))))))) (by omega) (td := td - tbz tv8) zu_s (tv := tv9) (tvI := tv9I) ((zu_o (by omega)).trans ((zu_o (by omega)).trans ((zu_o (by omega)).trans ((zu_o (by omega)).trans ((zu_o (by omega)).trans ((zu_o (by omega)).trans ((zu_o (by omega)).trans ((zu_o (by omega)).trans (htv9))))))))) htv9I) [] zmX0_take zk_X4_221 zK0 (zb_Del hG) (zs_Del hG) (by decide) rfl rfl (Nat.le_of_ble_eq_true rfl) dX4_deliverFrom_75 (fun r75 Z75 h75 => ?_)
      obtain ⟨e75, ⟨rfl, h75⟩ | ⟨rfl, h75⟩⟩ := h75
      ·
        refine j_Z (Z' := (zu (zu (zu (zu (zu (zu (zu (zu (zu (zu Z (7) (2) (nI (md + 1))) (10) (0) (nI c)) (10) (1) (nI po)) (10) (2) (t)) (10) (3) (nI (md + 1))) (10) (4) (cr)) (8) ((md + 1) % 64) (nI 0)) (7) (5) (td - tbz tv8)) (9) ((md + 1) % 64) (nI 0)) (7) (5) ((td - tbz tv8) - tbz tv9))) e75 ?_
        refine j_istore (lv' := [(6, .int (nI 1)), (5, .int (nI 1)), (4, .int (nI nu)), (3, .int (nI po)), (2, .ref (G.2.1 (11 + 4 * c))), (0, .ref (G.2.1 (0))), (1, .int (nI c))]) C dX4_deliverFrom_78 (by rw [hN]; decide) rfl ?_
        refine j_iload C 1 dX4_deliverFrom_80 rfl ?_
        refine j_if_eq (tgt := 101) (a := ((1 : Nat) : Int)) C (nI_toInt (by omega)) dX4_deliverFrom_82 (by decide) (fun c82 => absurd c82 (by omega)) (fun c82 => ?_)
        refine j_aload_n C 5 dX4_deliverFrom_85 rfl rfl ?_
        refine j_getR C zK4 (zb_X hG) (zs_X hG) (f := 3) (by decide) rfl zk_X4_31 rfl (zf_X_3 hG) dX4_deliverFrom_86 ?_
        refine j_dup C dX4_deliverFrom_89 rfl ?_
        refine j_getIN C zK0 (zb_Del hG) (zs_Del hG) (f := 3) (by decide) rfl zk_X4_199 rfl (lo) ((zu_o (by omega)).trans ((zu_o (by omega)).trans ((zu_o (by omega)).trans ((zu_o (by omega)).trans ((zu_o (by omega)).trans ((zu_o (by omega)).trans ((zu_o (by omega)).trans ((zu_o (by omega)).trans ((zu_o (by omega)).trans ((zu_o (by omega)).trans (hlo))))))))))) dX4_deliverFrom_90 ?_
        refine j_iconst C (nI 1) dX4_deliverFrom_93 (by decide) ?_
        refine j_iadd C (lo + (nI 1)) dX4_deliverFrom_94 rfl ?_
        refine j_putIN C hD zK0 (zb_Del hG) (zs_Del hG) (f := 3) (by decide) rfl zk_X4_199 rfl rfl rfl rfl dX4_deliverFrom_95 ?_
        refine j_bipush C (-2) dX4_deliverFrom_98 (by decide) ?_
        refine j_iret C R dX4_deliverFrom_100 ?_
        first | exact Or.inl ⟨by omega, rfl, rfl⟩ | exact Or.inr (Or.inl ⟨by omega, rfl, rfl⟩) | exact Or.inr (Or.inr (Or.inl ⟨by omega, rfl, rfl⟩)) | exact Or.inr (Or.inr (Or.inr (Or.inl ⟨by omega, rfl, rfl⟩))) | exact Or.inr (Or.inr (Or.inr (Or.inr (Or.inl ⟨by omega, rfl, rfl⟩)))) | exact Or.inr (Or.inr (Or.inr (Or.inr (Or.inr (⟨by omega, rfl, rfl⟩)))))
      ·
        refine j_Z (Z' := (zu (zu (zu (zu (zu (zu (zu (zu (zu (zu Z (7) (2) (nI (md + 1))) (10) (0) (nI c)) (10) (1) (nI po)) (10) (2) (t)) (10) (3) (nI (md + 1))) (10) (4) (cr)) (8) ((md + 1) % 64) (nI 0)) (7) (5) (td - tbz tv8)) (9) ((md + 1) % 64) (nI 0)) (7) (5) ((td - tbz tv8) - tbz tv9))) e75 ?_
        refine j_istore (lv' := [(6, .int (nI 0)), (5, .int (nI 1)), (4, .int (nI nu)), (3, .int (nI po)), (2, .ref (G.2.1 (11 + 4 * c))), (0, .ref (G.2.1 (0))), (1, .int (nI c))]) C dX4_deliverFrom_78 (by rw [hN]; decide) rfl ?_
        refine j_iload C 1 dX4_deliverFrom_80 rfl ?_
        refine j_if_eq (tgt := 101) (a := ((1 : Nat) : Int)) C (nI_toInt (by omega)) dX4_deliverFrom_82 (by decide) (fun c82 => absurd c82 (by omega)) (fun c82 => ?_)
        refine j_aload_n C 5 dX4_deliverFrom_85 rfl rfl ?_
        refine j_getR C zK4 (zb_X hG) (zs_X hG) (f := 3) (by decide) rfl zk_X4_31 rfl (zf_X_3 hG) dX4_deliverFrom_86 ?_
        refine j_dup C dX4_deliverFrom_89 rfl ?_
        refine j_getIN C zK0 (zb_Del hG) (zs_Del hG) (f := 3) (by decide) rfl zk_X4_199 rfl (lo) ((zu_o (by omega)).trans ((zu_o (by omega)).trans ((zu_o (by omega)).trans ((zu_o (by omega)).trans ((zu_o (by omega)).trans ((zu_o (by omega)).trans ((zu_o (by omega)).trans ((zu_o (by omega)).trans ((zu_o (by omega)).trans ((zu_o (by omega)).trans (hlo))))))))))) dX4_deliverFrom_90 ?_
        refine j_iconst C (nI 1) dX4_deliverFrom_93 (by decide) ?_
        refine j_iadd C (lo + (nI 1)) dX4_deliverFrom_94 rfl ?_
        refine j_putIN C hD zK0 (zb_Del hG) (zs_Del hG) (f := 3) (by decide) rfl zk_X4_199 rfl rfl rfl rfl dX4_deliverFrom_95 ?_
        refine j_bipush C (-2) dX4_deliverFrom_98 (by decide) ?_
        refine j_iret C R dX4_deliverFrom_100 ?_
        first | exact Or.inl ⟨by omega, rfl, rfl⟩ | exact Or.inr (Or.inl ⟨by omega, rfl, rfl⟩) | exact Or.inr (Or.inr (Or.inl ⟨by omega, rfl, rfl⟩)) | exact Or.inr (Or.inr (Or.inr (Or.inl ⟨by omega, rfl, rfl⟩))) | exact Or.inr (Or.inr (Or.inr (Or.inr (Or.inl ⟨by omega, rfl, rfl⟩)))) | exact Or.inr (Or.inr (Or.inr (Or.inr (Or.inr (⟨by omega, rfl, rfl⟩)))))
    ·
      refine j_Z (Z' := (zu (zu (zu (zu (zu (zu (zu (zu Z (7) (2) (nI (md + 1))) (10) (0) (nI c)) (10) (1) (nI po)) (10) (2) (t)) (10) (3) (nI (md + 1))) (10) (4) (cr)) (8) ((md + 1) % 64) (nI 0)) (7) (5) (td - tbz tv8))) e59 ?_
      refine j_istore (lv' := [(5, .int (nI 0)), (4, .int (nI nu)), (3, .int (nI po)), (2, .ref (G.2.1 (11 + 4 * c))), (0, .ref (G.2.1 (0))), (1, .int (nI c))]) C dX4_deliverFrom_62 (by rw [hN]; decide) rfl ?_
      refine j_aload_n C 4 dX4_deliverFrom_64 rfl rfl ?_
      refine j_getR C zK4 (zb_X hG) (zs_X hG) (f := 3) (by decide) rfl zk_X4_31 rfl (zf_X_3 hG) dX4_deliverFrom_65 ?_
      refine j_aload_n C 4 dX4_deliverFrom_68 rfl rfl ?_
      refine j_getR C zK4 (zb_X hG) (zs_X hG) (f := 3) (by decide) rfl zk_X4_31 rfl (zf_X_3 hG) dX4_deliverFrom_69 ?_
      refine j_getRN C zK0 (zb_Del hG) (zs_Del hG) (f := 1) (by decide) rfl zk_X4_225 rfl (zf_Del_1 hG) dX4_deliverFrom_72 ?_
      refine j_callIN C hR (kX0_take9 hD hG (md := md + 1) ((zu_o (by omega)).trans ((zu_o (by omega)).trans ((zu_o (by omega)).trans ((zu_o (by omega)).trans ((zu_o (by omega)).trans ((zu_o (by omega)).trans ((zu_o (by omega)).trans (zu_s)))))))) (by omega) (td := td - tbz tv8) zu_s (tv := tv9) (tvI := tv9I) ((zu_o (by omega)).trans ((zu_o (by omega)).trans ((zu_o (by omega)).trans ((zu_o (by omega)).trans ((zu_o (by omega)).trans ((zu_o (by omega)).trans ((zu_o (by omega)).trans ((zu_o (by omega)).trans (htv9))))))))) htv9I) [] zmX0_take zk_X4_221 zK0 (zb_Del hG) (zs_Del hG) (by decide) rfl rfl (Nat.le_of_ble_eq_true rfl) dX4_deliverFrom_75 (fun r75 Z75 h75 => ?_)
      obtain ⟨e75, ⟨rfl, h75⟩ | ⟨rfl, h75⟩⟩ := h75
      ·
        refine j_Z (Z' := (zu (zu (zu (zu (zu (zu (zu (zu (zu (zu Z (7) (2) (nI (md + 1))) (10) (0) (nI c)) (10) (1) (nI po)) (10) (2) (t)) (10) (3) (nI (md + 1))) (10) (4) (cr)) (8) ((md + 1) % 64) (nI 0)) (7) (5) (td - tbz tv8)) (9) ((md + 1) % 64) (nI 0)) (7) (5) ((td - tbz tv8) - tbz tv9))) e75 ?_
        refine j_istore (lv' := [(6, .int (nI 1)), (5, .int (nI 0)), (4, .int (nI nu)), (3, .int (nI po)), (2, .ref (G.2.1 (11 + 4 * c))), (0, .ref (G.2.1 (0))), (1, .int (nI c))]) C dX4_deliverFrom_78 (by rw [hN]; decide) rfl ?_
        refine j_iload C 1 dX4_deliverFrom_80 rfl ?_
        refine j_if_eq (tgt := 101) (a := ((0 : Nat) : Int)) C (nI_toInt (by omega)) dX4_deliverFrom_82 (by decide) (fun c82 => ?_) (fun c82 => absurd c82 (by omega))
        refine j_aload_n C 4 dX4_deliverFrom_101 rfl rfl ?_
        refine j_getRN C zK3 (zb_Part hG hc) (zs_Part hG hc) (f := 2) (by decide) rfl zk_X4_228 rfl (zf_Part_2 hG hc) dX4_deliverFrom_102 ?_
        refine j_iload_n C 3 dX4_deliverFrom_105 rfl rfl ?_
        refine j_zald C (zb_Snd hG hc) (zs_Snd hG hc) (zl_Snd hG hc) rfl (by omega) (by decide) (sd) ((zu_o (by omega)).trans ((zu_o (by omega)).trans ((zu_o (by omega)).trans ((zu_o (by omega)).trans ((zu_o (by omega)).trans ((zu_o (by omega)).trans ((zu_o (by omega)).trans ((zu_o (by omega)).trans ((zu_o (by omega)).trans ((zu_o (by omega)).trans (hsd))))))))))) dX4_deliverFrom_106 ?_
        refine j_if_ne (tgt := 126) (a := sdI) C hsdI dX4_deliverFrom_107 (by decide) (fun c107 => ?_) (fun c107 => ?_)
        ·
          refine j_aload_n C 5 dX4_deliverFrom_126 rfl rfl ?_
          refine j_getR C zK4 (zb_X hG) (zs_X hG) (f := 2) (by decide) rfl zk_X4_24 rfl (zf_X_2 hG) dX4_deliverFrom_127 ?_
          refine j_iload C 2 dX4_deliverFrom_130 rfl ?_
          refine j_callIN C hR (kX1_wasGiven hD hG (a := nu) (by omega) (gv := gv) (gvI := gvI) ((zu_o (by omega)).trans ((zu_o (by omega)).trans ((zu_o (by omega)).trans ((zu_o (by omega)).trans ((zu_o (by omega)).trans ((zu_o (by omega)).trans ((zu_o (by omega)).trans ((zu_o (by omega)).trans ((zu_o (by omega)).trans ((zu_o (by omega)).trans (hgv))))))))))) hgvI) [] zmX1_wasGiven zk_X4_149 zK1 (zb_Fin hG) (zs_Fin hG) (by decide) rfl rfl (Nat.le_of_ble_eq_true rfl) dX4_deliverFrom_132 (fun r132 Z132 h132 => ?_)
          obtain ⟨e132, ⟨rfl, h132⟩ | ⟨rfl, h132⟩⟩ := h132
          ·
            refine j_Z e132 ?_
            refine j_if_eq (tgt := 158) (a := ((1 : Nat) : Int)) C (nI_toInt (by omega)) dX4_deliverFrom_135 (by decide) (fun c135 => absurd c135 (by omega)) (fun c135 => ?_)
            refine j_aload_n C 5 dX4_deliverFrom_138 rfl rfl ?_
            refine j_getR C zK4 (zb_X hG) (zs_X hG) (f := 3) (by decide) rfl zk_X4_31 rfl (zf_X_3 hG) dX4_deliverFrom_139 ?_
            refine j_dup C dX4_deliverFrom_142 rfl ?_
            refine j_getIN C zK0 (zb_Del hG) (zs_Del hG) (f := 4) (by decide) rfl zk_X4_202 rfl (du) ((zu_o (by omega)).trans ((zu_o (by omega)).trans ((zu_o (by omega)).trans ((zu_o (by omega)).trans ((zu_o (by omega)).trans ((zu_o (by omega)).trans ((zu_o (by omega)).trans ((zu_o (by omega)).trans ((zu_o (by omega)).trans ((zu_o (by omega)).trans (hdu))))))))))) dX4_deliverFrom_143 ?_
            refine j_iconst C (nI 1) dX4_deliverFrom_146 (by decide) ?_
            refine j_iadd C (du + (nI 1)) dX4_deliverFrom_147 rfl ?_
            refine j_putIN C hD zK0 (zb_Del hG) (zs_Del hG) (f := 4) (by decide) rfl zk_X4_202 rfl rfl rfl rfl dX4_deliverFrom_148 ?_
            refine j_aload_n C 4 dX4_deliverFrom_151 rfl rfl ?_
            refine j_callVN C hR (kX3_pass hD hG (i := c)  hc (rc := nI rc) (rcI := ((rc : Nat) : Int)) (((zu_o (by omega)).trans ((zu_o (by omega)).trans ((zu_o (by omega)).trans ((zu_o (by omega)).trans ((zu_o (by omega)).trans ((zu_o (by omega)).trans ((zu_o (by omega)).trans ((zu_o (by omega)).trans ((zu_o (by omega)).trans ((zu_o (by omega)).trans ((zu_o (by omega)).trans (hrc))))))))))))) (nI_toInt (by omega)) (po := po) ((zu_o (by omega)).trans ((zu_o (by omega)).trans ((zu_o (by omega)).trans ((zu_o (by omega)).trans ((zu_o (by omega)).trans ((zu_o (by omega)).trans ((zu_o (by omega)).trans ((zu_o (by omega)).trans ((zu_o (by omega)).trans ((zu_o (by omega)).trans ((zu_o (by omega)).trans (hpo)))))))))))) (by omega) (by omega) (w := w) (((zu_o (by omega)).trans ((zu_o (by omega)).trans ((zu_o (by omega)).trans ((zu_o (by omega)).trans ((zu_o (by omega)).trans ((zu_o (by omega)).trans ((zu_o (by omega)).trans ((zu_o (by omega)).trans ((zu_o (by omega)).trans ((zu_o (by omega)).trans ((zu_o (by omega)).trans (hw))))))))))))) (t := t) (((zu_o (by omega)).trans ((zu_o (by omega)).trans ((zu_o (by omega)).trans ((zu_o (by omega)).trans ((zu_o (by omega)).trans ((zu_o (by omega)).trans ((zu_o (by omega)).trans ((zu_o (by omega)).trans ((zu_o (by omega)).trans ((zu_o (by omega)).trans ((zu_o (by omega)).trans (ht)))))))))))))) [] zmX3_pass zk_X4_234 zK3 (zb_Part hG hc) (zs_Part hG hc) (by decide) rfl rfl (Nat.le_of_ble_eq_true rfl) dX4_deliverFrom_152 (fun Z152 h152 => ?_)
            refine j_Z (Z' := (zu (zu (zu (zu (zu (zu (zu (zu (zu (zu (zu (zu (zu Z (7) (2) (nI (md + 1))) (10) (0) (nI c)) (10) (1) (nI po)) (10) (2) (t)) (10) (3) (nI (md + 1))) (10) (4) (cr)) (8) ((md + 1) % 64) (nI 0)) (7) (5) (td - tbz tv8)) (9) ((md + 1) % 64) (nI 0)) (7) (5) ((td - tbz tv8) - tbz tv9)) (7) (4) (du + (nI 1))) (11 + 4 * c) (6) (if w < t then t else w)) (11 + 4 * c) (5) (nI (po + 1)))) h152 ?_
            refine j_bipush C (-4) dX4_deliverFrom_155 (by decide) ?_
            refine j_iret C R dX4_deliverFrom_157 ?_
            first | exact Or.inl ⟨by omega, rfl, rfl⟩ | exact Or.inr (Or.inl ⟨by omega, rfl, rfl⟩) | exact Or.inr (Or.inr (Or.inl ⟨by omega, rfl, rfl⟩)) | exact Or.inr (Or.inr (Or.inr (Or.inl ⟨by omega, rfl, rfl⟩))) | exact Or.inr (Or.inr (Or.inr (Or.inr (Or.inl ⟨by omega, rfl, rfl⟩)))) | exact Or.inr (Or.inr (Or.inr (Or.inr (Or.inr (⟨by omega, rfl, rfl⟩)))))
          ·
            refine j_Z e132 ?_
            refine j_if_eq (tgt := 158) (a := ((0 : Nat) : Int)) C (nI_toInt (by omega)) dX4_deliverFrom_135 (by decide) (fun c135 => ?_) (fun c135 => absurd c135 (by omega))
            refine j_aload_n C 5 dX4_deliverFrom_158 rfl rfl ?_
            refine j_getR C zK4 (zb_X hG) (zs_X hG) (f := 2) (by decide) rfl zk_X4_24 rfl (zf_X_2 hG) dX4_deliverFrom_159 ?_
            refine j_iload C 2 dX4_deliverFrom_162 rfl ?_
            refine j_callVN C hR (kX1_addGiven hD hG (a := nu) (by omega) (gv := gv) (gvI := gvI) ((zu_o (by omega)).trans ((zu_o (by omega)).trans ((zu_o (by omega)).trans ((zu_o (by omega)).trans ((zu_o (by omega)).trans ((zu_o (by omega)).trans ((zu_o (by omega)).trans ((zu_o (by omega)).trans ((zu_o (by omega)).trans ((zu_o (by omega)).trans (hgv))))))))))) hgvI (by omega) (gc := gc) ((zu_o (by omega)).trans ((zu_o (by omega)).trans ((zu_o (by omega)).trans ((zu_o (by omega)).trans ((zu_o (by omega)).trans ((zu_o (by omega)).trans ((zu_o (by omega)).trans ((zu_o (by omega)).trans ((zu_o (by omega)).trans ((zu_o (by omega)).trans (hgc)))))))))))) [] zmX1_addGiven zk_X4_237 zK1 (zb_Fin hG) (zs_Fin hG) (by decide) rfl rfl (Nat.le_of_ble_eq_true rfl) dX4_deliverFrom_164 (fun Z164 h164 => ?_)
            refine j_Z (Z' := (zu (zu (zu (zu (zu (zu (zu (zu (zu (zu (zu (zu Z (7) (2) (nI (md + 1))) (10) (0) (nI c)) (10) (1) (nI po)) (10) (2) (t)) (10) (3) (nI (md + 1))) (10) (4) (cr)) (8) ((md + 1) % 64) (nI 0)) (7) (5) (td - tbz tv8)) (9) ((md + 1) % 64) (nI 0)) (7) (5) ((td - tbz tv8) - tbz tv9)) (4) (nu) (nI 1)) (3) (3) (gc + nI 1))) h164 ?_
            refine j_iload C 0 dX4_deliverFrom_167 rfl ?_
            refine j_if_ne (tgt := 176) (a := ((1 : Nat) : Int)) C (nI_toInt (by omega)) dX4_deliverFrom_169 (by decide) (fun c169 => ?_) (fun c169 => absurd c169 (by omega))
            refine j_iload C 2 dX4_deliverFrom_176 rfl ?_
            refine j_iret C R dX4_deliverFrom_178 ?_
            first | exact Or.inl ⟨by omega, rfl, rfl⟩ | exact Or.inr (Or.inl ⟨by omega, rfl, rfl⟩) | exact Or.inr (Or.inr (Or.inl ⟨by omega, rfl, rfl⟩)) | exact Or.inr (Or.inr (Or.inr (Or.inl ⟨by omega, rfl, rfl⟩))) | exact Or.inr (Or.inr (Or.inr (Or.inr (Or.inl ⟨by omega, rfl, rfl⟩)))) | exact Or.inr (Or.inr (Or.inr (Or.inr (Or.inr (⟨by omega, rfl, rfl⟩)))))
        ·
          refine j_aload_n C 5 dX4_deliverFrom_110 rfl rfl ?_
          refine j_getR C zK4 (zb_X hG) (zs_X hG) (f := 2) (by decide) rfl zk_X4_24 rfl (zf_X_2 hG) dX4_deliverFrom_111 ?_
          refine j_iload_n C 6 dX4_deliverFrom_114 rfl rfl ?_
          refine j_iload_n C 3 dX4_deliverFrom_115 rfl rfl ?_
          refine j_callVN C hR (kX1_setAside hD hG (ac := ac) ((zu_o (by omega)).trans ((zu_o (by omega)).trans ((zu_o (by omega)).trans ((zu_o (by omega)).trans ((zu_o (by omega)).trans ((zu_o (by omega)).trans ((zu_o (by omega)).trans ((zu_o (by omega)).trans ((zu_o (by omega)).trans ((zu_o (by omega)).trans (hac))))))))))) (by omega) (nI c) (nI po)) [] zmX1_setAside zk_X4_231 zK1 (zb_Fin hG) (zs_Fin hG) (by decide) rfl rfl (Nat.le_of_ble_eq_true rfl) dX4_deliverFrom_116 (fun Z116 h116 => ?_)
          rcases h116 with ⟨h116, e116⟩ | ⟨h116, e116⟩
          ·
            refine j_Z (Z' := (zu (zu (zu (zu (zu (zu (zu (zu (zu (zu (zu (zu (zu Z (7) (2) (nI (md + 1))) (10) (0) (nI c)) (10) (1) (nI po)) (10) (2) (t)) (10) (3) (nI (md + 1))) (10) (4) (cr)) (8) ((md + 1) % 64) (nI 0)) (7) (5) (td - tbz tv8)) (9) ((md + 1) % 64) (nI 0)) (7) (5) ((td - tbz tv8) - tbz tv9)) (5) (ac) (nI c)) (6) (ac) (nI po)) (3) (4) (nI (ac + 1)))) e116 ?_
            refine j_aload_n C 4 dX4_deliverFrom_119 rfl rfl ?_
            refine j_callVN C hR (kX3_pass hD hG (i := c)  hc (rc := nI rc) (rcI := ((rc : Nat) : Int)) (((zu_o (by omega)).trans ((zu_o (by omega)).trans ((zu_o (by omega)).trans ((zu_o (by omega)).trans ((zu_o (by omega)).trans ((zu_o (by omega)).trans ((zu_o (by omega)).trans ((zu_o (by omega)).trans ((zu_o (by omega)).trans ((zu_o (by omega)).trans ((zu_o (by omega)).trans ((zu_o (by omega)).trans ((zu_o (by omega)).trans (hrc))))))))))))))) (nI_toInt (by omega)) (po := po) ((zu_o (by omega)).trans ((zu_o (by omega)).trans ((zu_o (by omega)).trans ((zu_o (by omega)).trans ((zu_o (by omega)).trans ((zu_o (by omega)).trans ((zu_o (by omega)).trans ((zu_o (by omega)).trans ((zu_o (by omega)).trans ((zu_o (by omega)).trans ((zu_o (by omega)).trans ((zu_o (by omega)).trans ((zu_o (by omega)).trans (hpo)))))))))))))) (by omega) (by omega) (w := w) (((zu_o (by omega)).trans ((zu_o (by omega)).trans ((zu_o (by omega)).trans ((zu_o (by omega)).trans ((zu_o (by omega)).trans ((zu_o (by omega)).trans ((zu_o (by omega)).trans ((zu_o (by omega)).trans ((zu_o (by omega)).trans ((zu_o (by omega)).trans ((zu_o (by omega)).trans ((zu_o (by omega)).trans ((zu_o (by omega)).trans (hw))))))))))))))) (t := t) (((zu_o (by omega)).trans ((zu_o (by omega)).trans ((zu_o (by omega)).trans ((zu_o (by omega)).trans ((zu_o (by omega)).trans ((zu_o (by omega)).trans ((zu_o (by omega)).trans ((zu_o (by omega)).trans ((zu_o (by omega)).trans ((zu_o (by omega)).trans ((zu_o (by omega)).trans ((zu_o (by omega)).trans ((zu_o (by omega)).trans (ht)))))))))))))))) [] zmX3_pass zk_X4_234 zK3 (zb_Part hG hc) (zs_Part hG hc) (by decide) rfl rfl (Nat.le_of_ble_eq_true rfl) dX4_deliverFrom_120 (fun Z120 h120 => ?_)
            refine j_Z (Z' := (zu (zu (zu (zu (zu (zu (zu (zu (zu (zu (zu (zu (zu (zu (zu Z (7) (2) (nI (md + 1))) (10) (0) (nI c)) (10) (1) (nI po)) (10) (2) (t)) (10) (3) (nI (md + 1))) (10) (4) (cr)) (8) ((md + 1) % 64) (nI 0)) (7) (5) (td - tbz tv8)) (9) ((md + 1) % 64) (nI 0)) (7) (5) ((td - tbz tv8) - tbz tv9)) (5) (ac) (nI c)) (6) (ac) (nI po)) (3) (4) (nI (ac + 1))) (11 + 4 * c) (6) (if w < t then t else w)) (11 + 4 * c) (5) (nI (po + 1)))) h120 ?_
            refine j_bipush C (-3) dX4_deliverFrom_123 (by decide) ?_
            refine j_iret C R dX4_deliverFrom_125 ?_
            first | exact Or.inl ⟨by omega, rfl, rfl⟩ | exact Or.inr (Or.inl ⟨by omega, rfl, rfl⟩) | exact Or.inr (Or.inr (Or.inl ⟨by omega, rfl, rfl⟩)) | exact Or.inr (Or.inr (Or.inr (Or.inl ⟨by omega, rfl, rfl⟩))) | exact Or.inr (Or.inr (Or.inr (Or.inr (Or.inl ⟨by omega, rfl, rfl⟩)))) | exact Or.inr (Or.inr (Or.inr (Or.inr (Or.inr (⟨by omega, rfl, rfl⟩)))))
          ·
            refine j_Z (Z' := (zu (zu (zu (zu (zu (zu (zu (zu (zu (zu Z (7) (2) (nI (md + 1))) (10) (0) (nI c)) (10) (1) (nI po)) (10) (2) (t)) (10) (3) (nI (md + 1))) (10) (4) (cr)) (8) ((md + 1) % 64) (nI 0)) (7) (5) (td - tbz tv8)) (9) ((md + 1) % 64) (nI 0)) (7) (5) ((td - tbz tv8) - tbz tv9))) e116 ?_
            refine j_aload_n C 4 dX4_deliverFrom_119 rfl rfl ?_
            refine j_callVN C hR (kX3_pass hD hG (i := c)  hc (rc := nI rc) (rcI := ((rc : Nat) : Int)) (((zu_o (by omega)).trans ((zu_o (by omega)).trans ((zu_o (by omega)).trans ((zu_o (by omega)).trans ((zu_o (by omega)).trans ((zu_o (by omega)).trans ((zu_o (by omega)).trans ((zu_o (by omega)).trans ((zu_o (by omega)).trans ((zu_o (by omega)).trans (hrc)))))))))))) (nI_toInt (by omega)) (po := po) ((zu_o (by omega)).trans ((zu_o (by omega)).trans ((zu_o (by omega)).trans ((zu_o (by omega)).trans ((zu_o (by omega)).trans ((zu_o (by omega)).trans ((zu_o (by omega)).trans ((zu_o (by omega)).trans ((zu_o (by omega)).trans ((zu_o (by omega)).trans (hpo))))))))))) (by omega) (by omega) (w := w) (((zu_o (by omega)).trans ((zu_o (by omega)).trans ((zu_o (by omega)).trans ((zu_o (by omega)).trans ((zu_o (by omega)).trans ((zu_o (by omega)).trans ((zu_o (by omega)).trans ((zu_o (by omega)).trans ((zu_o (by omega)).trans ((zu_o (by omega)).trans (hw)))))))))))) (t := t) (((zu_o (by omega)).trans ((zu_o (by omega)).trans ((zu_o (by omega)).trans ((zu_o (by omega)).trans ((zu_o (by omega)).trans ((zu_o (by omega)).trans ((zu_o (by omega)).trans ((zu_o (by omega)).trans ((zu_o (by omega)).trans ((zu_o (by omega)).trans (ht))))))))))))) [] zmX3_pass zk_X4_234 zK3 (zb_Part hG hc) (zs_Part hG hc) (by decide) rfl rfl (Nat.le_of_ble_eq_true rfl) dX4_deliverFrom_120 (fun Z120 h120 => ?_)
            refine j_Z (Z' := (zu (zu (zu (zu (zu (zu (zu (zu (zu (zu (zu (zu Z (7) (2) (nI (md + 1))) (10) (0) (nI c)) (10) (1) (nI po)) (10) (2) (t)) (10) (3) (nI (md + 1))) (10) (4) (cr)) (8) ((md + 1) % 64) (nI 0)) (7) (5) (td - tbz tv8)) (9) ((md + 1) % 64) (nI 0)) (7) (5) ((td - tbz tv8) - tbz tv9)) (11 + 4 * c) (6) (if w < t then t else w)) (11 + 4 * c) (5) (nI (po + 1)))) h120 ?_
            refine j_bipush C (-3) dX4_deliverFrom_123 (by decide) ?_
            refine j_iret C R dX4_deliverFrom_125 ?_
            first | exact Or.inl ⟨by omega, rfl, rfl⟩ | exact Or.inr (Or.inl ⟨by omega, rfl, rfl⟩) | exact Or.inr (Or.inr (Or.inl ⟨by omega, rfl, rfl⟩)) | exact Or.inr (Or.inr (Or.inr (Or.inl ⟨by omega, rfl, rfl⟩))) | exact Or.inr (Or.inr (Or.inr (Or.inr (Or.inl ⟨by omega, rfl, rfl⟩)))) | exact Or.inr (Or.inr (Or.inr (Or.inr (Or.inr (⟨by omega, rfl, rfl⟩)))))
      ·
        refine j_Z (Z' := (zu (zu (zu (zu (zu (zu (zu (zu (zu (zu Z (7) (2) (nI (md + 1))) (10) (0) (nI c)) (10) (1) (nI po)) (10) (2) (t)) (10) (3) (nI (md + 1))) (10) (4) (cr)) (8) ((md + 1) % 64) (nI 0)) (7) (5) (td - tbz tv8)) (9) ((md + 1) % 64) (nI 0)) (7) (5) ((td - tbz tv8) - tbz tv9))) e75 ?_
        refine j_istore (lv' := [(6, .int (nI 0)), (5, .int (nI 0)), (4, .int (nI nu)), (3, .int (nI po)), (2, .ref (G.2.1 (11 + 4 * c))), (0, .ref (G.2.1 (0))), (1, .int (nI c))]) C dX4_deliverFrom_78 (by rw [hN]; decide) rfl ?_
        refine j_iload C 1 dX4_deliverFrom_80 rfl ?_
        refine j_if_eq (tgt := 101) (a := ((0 : Nat) : Int)) C (nI_toInt (by omega)) dX4_deliverFrom_82 (by decide) (fun c82 => ?_) (fun c82 => absurd c82 (by omega))
        refine j_aload_n C 4 dX4_deliverFrom_101 rfl rfl ?_
        refine j_getRN C zK3 (zb_Part hG hc) (zs_Part hG hc) (f := 2) (by decide) rfl zk_X4_228 rfl (zf_Part_2 hG hc) dX4_deliverFrom_102 ?_
        refine j_iload_n C 3 dX4_deliverFrom_105 rfl rfl ?_
        refine j_zald C (zb_Snd hG hc) (zs_Snd hG hc) (zl_Snd hG hc) rfl (by omega) (by decide) (sd) ((zu_o (by omega)).trans ((zu_o (by omega)).trans ((zu_o (by omega)).trans ((zu_o (by omega)).trans ((zu_o (by omega)).trans ((zu_o (by omega)).trans ((zu_o (by omega)).trans ((zu_o (by omega)).trans ((zu_o (by omega)).trans ((zu_o (by omega)).trans (hsd))))))))))) dX4_deliverFrom_106 ?_
        refine j_if_ne (tgt := 126) (a := sdI) C hsdI dX4_deliverFrom_107 (by decide) (fun c107 => ?_) (fun c107 => ?_)
        ·
          refine j_aload_n C 5 dX4_deliverFrom_126 rfl rfl ?_
          refine j_getR C zK4 (zb_X hG) (zs_X hG) (f := 2) (by decide) rfl zk_X4_24 rfl (zf_X_2 hG) dX4_deliverFrom_127 ?_
          refine j_iload C 2 dX4_deliverFrom_130 rfl ?_
          refine j_callIN C hR (kX1_wasGiven hD hG (a := nu) (by omega) (gv := gv) (gvI := gvI) ((zu_o (by omega)).trans ((zu_o (by omega)).trans ((zu_o (by omega)).trans ((zu_o (by omega)).trans ((zu_o (by omega)).trans ((zu_o (by omega)).trans ((zu_o (by omega)).trans ((zu_o (by omega)).trans ((zu_o (by omega)).trans ((zu_o (by omega)).trans (hgv))))))))))) hgvI) [] zmX1_wasGiven zk_X4_149 zK1 (zb_Fin hG) (zs_Fin hG) (by decide) rfl rfl (Nat.le_of_ble_eq_true rfl) dX4_deliverFrom_132 (fun r132 Z132 h132 => ?_)
          obtain ⟨e132, ⟨rfl, h132⟩ | ⟨rfl, h132⟩⟩ := h132
          ·
            refine j_Z e132 ?_
            refine j_if_eq (tgt := 158) (a := ((1 : Nat) : Int)) C (nI_toInt (by omega)) dX4_deliverFrom_135 (by decide) (fun c135 => absurd c135 (by omega)) (fun c135 => ?_)
            refine j_aload_n C 5 dX4_deliverFrom_138 rfl rfl ?_
            refine j_getR C zK4 (zb_X hG) (zs_X hG) (f := 3) (by decide) rfl zk_X4_31 rfl (zf_X_3 hG) dX4_deliverFrom_139 ?_
            refine j_dup C dX4_deliverFrom_142 rfl ?_
            refine j_getIN C zK0 (zb_Del hG) (zs_Del hG) (f := 4) (by decide) rfl zk_X4_202 rfl (du) ((zu_o (by omega)).trans ((zu_o (by omega)).trans ((zu_o (by omega)).trans ((zu_o (by omega)).trans ((zu_o (by omega)).trans ((zu_o (by omega)).trans ((zu_o (by omega)).trans ((zu_o (by omega)).trans ((zu_o (by omega)).trans ((zu_o (by omega)).trans (hdu))))))))))) dX4_deliverFrom_143 ?_
            refine j_iconst C (nI 1) dX4_deliverFrom_146 (by decide) ?_
            refine j_iadd C (du + (nI 1)) dX4_deliverFrom_147 rfl ?_
            refine j_putIN C hD zK0 (zb_Del hG) (zs_Del hG) (f := 4) (by decide) rfl zk_X4_202 rfl rfl rfl rfl dX4_deliverFrom_148 ?_
            refine j_aload_n C 4 dX4_deliverFrom_151 rfl rfl ?_
            refine j_callVN C hR (kX3_pass hD hG (i := c)  hc (rc := nI rc) (rcI := ((rc : Nat) : Int)) (((zu_o (by omega)).trans ((zu_o (by omega)).trans ((zu_o (by omega)).trans ((zu_o (by omega)).trans ((zu_o (by omega)).trans ((zu_o (by omega)).trans ((zu_o (by omega)).trans ((zu_o (by omega)).trans ((zu_o (by omega)).trans ((zu_o (by omega)).trans ((zu_o (by omega)).trans (hrc))))))))))))) (nI_toInt (by omega)) (po := po) ((zu_o (by omega)).trans ((zu_o (by omega)).trans ((zu_o (by omega)).trans ((zu_o (by omega)).trans ((zu_o (by omega)).trans ((zu_o (by omega)).trans ((zu_o (by omega)).trans ((zu_o (by omega)).trans ((zu_o (by omega)).trans ((zu_o (by omega)).trans ((zu_o (by omega)).trans (hpo)))))))))))) (by omega) (by omega) (w := w) (((zu_o (by omega)).trans ((zu_o (by omega)).trans ((zu_o (by omega)).trans ((zu_o (by omega)).trans ((zu_o (by omega)).trans ((zu_o (by omega)).trans ((zu_o (by omega)).trans ((zu_o (by omega)).trans ((zu_o (by omega)).trans ((zu_o (by omega)).trans ((zu_o (by omega)).trans (hw))))))))))))) (t := t) (((zu_o (by omega)).trans ((zu_o (by omega)).trans ((zu_o (by omega)).trans ((zu_o (by omega)).trans ((zu_o (by omega)).trans ((zu_o (by omega)).trans ((zu_o (by omega)).trans ((zu_o (by omega)).trans ((zu_o (by omega)).trans ((zu_o (by omega)).trans ((zu_o (by omega)).trans (ht)))))))))))))) [] zmX3_pass zk_X4_234 zK3 (zb_Part hG hc) (zs_Part hG hc) (by decide) rfl rfl (Nat.le_of_ble_eq_true rfl) dX4_deliverFrom_152 (fun Z152 h152 => ?_)
            refine j_Z (Z' := (zu (zu (zu (zu (zu (zu (zu (zu (zu (zu (zu (zu (zu Z (7) (2) (nI (md + 1))) (10) (0) (nI c)) (10) (1) (nI po)) (10) (2) (t)) (10) (3) (nI (md + 1))) (10) (4) (cr)) (8) ((md + 1) % 64) (nI 0)) (7) (5) (td - tbz tv8)) (9) ((md + 1) % 64) (nI 0)) (7) (5) ((td - tbz tv8) - tbz tv9)) (7) (4) (du + (nI 1))) (11 + 4 * c) (6) (if w < t then t else w)) (11 + 4 * c) (5) (nI (po + 1)))) h152 ?_
            refine j_bipush C (-4) dX4_deliverFrom_155 (by decide) ?_
            refine j_iret C R dX4_deliverFrom_157 ?_
            first | exact Or.inl ⟨by omega, rfl, rfl⟩ | exact Or.inr (Or.inl ⟨by omega, rfl, rfl⟩) | exact Or.inr (Or.inr (Or.inl ⟨by omega, rfl, rfl⟩)) | exact Or.inr (Or.inr (Or.inr (Or.inl ⟨by omega, rfl, rfl⟩))) | exact Or.inr (Or.inr (Or.inr (Or.inr (Or.inl ⟨by omega, rfl, rfl⟩)))) | exact Or.inr (Or.inr (Or.inr (Or.inr (Or.inr (⟨by omega, rfl, rfl⟩)))))
          ·
            refine j_Z e132 ?_
            refine j_if_eq (tgt := 158) (a := ((0 : Nat) : Int)) C (nI_toInt (by omega)) dX4_deliverFrom_135 (by decide) (fun c135 => ?_) (fun c135 => absurd c135 (by omega))
            refine j_aload_n C 5 dX4_deliverFrom_158 rfl rfl ?_
            refine j_getR C zK4 (zb_X hG) (zs_X hG) (f := 2) (by decide) rfl zk_X4_24 rfl (zf_X_2 hG) dX4_deliverFrom_159 ?_
            refine j_iload C 2 dX4_deliverFrom_162 rfl ?_
            refine j_callVN C hR (kX1_addGiven hD hG (a := nu) (by omega) (gv := gv) (gvI := gvI) ((zu_o (by omega)).trans ((zu_o (by omega)).trans ((zu_o (by omega)).trans ((zu_o (by omega)).trans ((zu_o (by omega)).trans ((zu_o (by omega)).trans ((zu_o (by omega)).trans ((zu_o (by omega)).trans ((zu_o (by omega)).trans ((zu_o (by omega)).trans (hgv))))))))))) hgvI (by omega) (gc := gc) ((zu_o (by omega)).trans ((zu_o (by omega)).trans ((zu_o (by omega)).trans ((zu_o (by omega)).trans ((zu_o (by omega)).trans ((zu_o (by omega)).trans ((zu_o (by omega)).trans ((zu_o (by omega)).trans ((zu_o (by omega)).trans ((zu_o (by omega)).trans (hgc)))))))))))) [] zmX1_addGiven zk_X4_237 zK1 (zb_Fin hG) (zs_Fin hG) (by decide) rfl rfl (Nat.le_of_ble_eq_true rfl) dX4_deliverFrom_164 (fun Z164 h164 => ?_)
            refine j_Z (Z' := (zu (zu (zu (zu (zu (zu (zu (zu (zu (zu (zu (zu Z (7) (2) (nI (md + 1))) (10) (0) (nI c)) (10) (1) (nI po)) (10) (2) (t)) (10) (3) (nI (md + 1))) (10) (4) (cr)) (8) ((md + 1) % 64) (nI 0)) (7) (5) (td - tbz tv8)) (9) ((md + 1) % 64) (nI 0)) (7) (5) ((td - tbz tv8) - tbz tv9)) (4) (nu) (nI 1)) (3) (3) (gc + nI 1))) h164 ?_
            refine j_iload C 0 dX4_deliverFrom_167 rfl ?_
            refine j_if_ne (tgt := 176) (a := ((0 : Nat) : Int)) C (nI_toInt (by omega)) dX4_deliverFrom_169 (by decide) (fun c169 => absurd c169 (by omega)) (fun c169 => ?_)
            refine j_aload_n C 4 dX4_deliverFrom_172 rfl rfl ?_
            refine j_callVN C hR (kX3_pass hD hG (i := c)  hc (rc := nI rc) (rcI := ((rc : Nat) : Int)) (((zu_o (by omega)).trans ((zu_o (by omega)).trans ((zu_o (by omega)).trans ((zu_o (by omega)).trans ((zu_o (by omega)).trans ((zu_o (by omega)).trans ((zu_o (by omega)).trans ((zu_o (by omega)).trans ((zu_o (by omega)).trans ((zu_o (by omega)).trans ((zu_o (by omega)).trans ((zu_o (by omega)).trans (hrc)))))))))))))) (nI_toInt (by omega)) (po := po) ((zu_o (by omega)).trans ((zu_o (by omega)).trans ((zu_o (by omega)).trans ((zu_o (by omega)).trans ((zu_o (by omega)).trans ((zu_o (by omega)).trans ((zu_o (by omega)).trans ((zu_o (by omega)).trans ((zu_o (by omega)).trans ((zu_o (by omega)).trans ((zu_o (by omega)).trans ((zu_o (by omega)).trans (hpo))))))))))))) (by omega) (by omega) (w := w) (((zu_o (by omega)).trans ((zu_o (by omega)).trans ((zu_o (by omega)).trans ((zu_o (by omega)).trans ((zu_o (by omega)).trans ((zu_o (by omega)).trans ((zu_o (by omega)).trans ((zu_o (by omega)).trans ((zu_o (by omega)).trans ((zu_o (by omega)).trans ((zu_o (by omega)).trans ((zu_o (by omega)).trans (hw)))))))))))))) (t := t) (((zu_o (by omega)).trans ((zu_o (by omega)).trans ((zu_o (by omega)).trans ((zu_o (by omega)).trans ((zu_o (by omega)).trans ((zu_o (by omega)).trans ((zu_o (by omega)).trans ((zu_o (by omega)).trans ((zu_o (by omega)).trans ((zu_o (by omega)).trans ((zu_o (by omega)).trans ((zu_o (by omega)).trans (ht))))))))))))))) [] zmX3_pass zk_X4_234 zK3 (zb_Part hG hc) (zs_Part hG hc) (by decide) rfl rfl (Nat.le_of_ble_eq_true rfl) dX4_deliverFrom_173 (fun Z173 h173 => ?_)
            refine j_Z (Z' := (zu (zu (zu (zu (zu (zu (zu (zu (zu (zu (zu (zu (zu (zu Z (7) (2) (nI (md + 1))) (10) (0) (nI c)) (10) (1) (nI po)) (10) (2) (t)) (10) (3) (nI (md + 1))) (10) (4) (cr)) (8) ((md + 1) % 64) (nI 0)) (7) (5) (td - tbz tv8)) (9) ((md + 1) % 64) (nI 0)) (7) (5) ((td - tbz tv8) - tbz tv9)) (4) (nu) (nI 1)) (3) (3) (gc + nI 1)) (11 + 4 * c) (6) (if w < t then t else w)) (11 + 4 * c) (5) (nI (po + 1)))) h173 ?_
            refine j_iload C 2 dX4_deliverFrom_176 rfl ?_
            refine j_iret C R dX4_deliverFrom_178 ?_
            first | exact Or.inl ⟨by omega, rfl, rfl⟩ | exact Or.inr (Or.inl ⟨by omega, rfl, rfl⟩) | exact Or.inr (Or.inr (Or.inl ⟨by omega, rfl, rfl⟩)) | exact Or.inr (Or.inr (Or.inr (Or.inl ⟨by omega, rfl, rfl⟩))) | exact Or.inr (Or.inr (Or.inr (Or.inr (Or.inl ⟨by omega, rfl, rfl⟩)))) | exact Or.inr (Or.inr (Or.inr (Or.inr (Or.inr (⟨by omega, rfl, rfl⟩)))))
        ·
          refine j_aload_n C 5 dX4_deliverFrom_110 rfl rfl ?_
          refine j_getR C zK4 (zb_X hG) (zs_X hG) (f := 2) (by decide) rfl zk_X4_24 rfl (zf_X_2 hG) dX4_deliverFrom_111 ?_
          refine j_iload_n C 6 dX4_deliverFrom_114 rfl rfl ?_
          refine j_iload_n C 3 dX4_deliverFrom_115 rfl rfl ?_
          refine j_callVN C hR (kX1_setAside hD hG (ac := ac) ((zu_o (by omega)).trans ((zu_o (by omega)).trans ((zu_o (by omega)).trans ((zu_o (by omega)).trans ((zu_o (by omega)).trans ((zu_o (by omega)).trans ((zu_o (by omega)).trans ((zu_o (by omega)).trans ((zu_o (by omega)).trans ((zu_o (by omega)).trans (hac))))))))))) (by omega) (nI c) (nI po)) [] zmX1_setAside zk_X4_231 zK1 (zb_Fin hG) (zs_Fin hG) (by decide) rfl rfl (Nat.le_of_ble_eq_true rfl) dX4_deliverFrom_116 (fun Z116 h116 => ?_)
          rcases h116 with ⟨h116, e116⟩ | ⟨h116, e116⟩
          ·
            refine j_Z (Z' := (zu (zu (zu (zu (zu (zu (zu (zu (zu (zu (zu (zu (zu Z (7) (2) (nI (md + 1))) (10) (0) (nI c)) (10) (1) (nI po)) (10) (2) (t)) (10) (3) (nI (md + 1))) (10) (4) (cr)) (8) ((md + 1) % 64) (nI 0)) (7) (5) (td - tbz tv8)) (9) ((md + 1) % 64) (nI 0)) (7) (5) ((td - tbz tv8) - tbz tv9)) (5) (ac) (nI c)) (6) (ac) (nI po)) (3) (4) (nI (ac + 1)))) e116 ?_
            refine j_aload_n C 4 dX4_deliverFrom_119 rfl rfl ?_
            refine j_callVN C hR (kX3_pass hD hG (i := c)  hc (rc := nI rc) (rcI := ((rc : Nat) : Int)) (((zu_o (by omega)).trans ((zu_o (by omega)).trans ((zu_o (by omega)).trans ((zu_o (by omega)).trans ((zu_o (by omega)).trans ((zu_o (by omega)).trans ((zu_o (by omega)).trans ((zu_o (by omega)).trans ((zu_o (by omega)).trans ((zu_o (by omega)).trans ((zu_o (by omega)).trans ((zu_o (by omega)).trans ((zu_o (by omega)).trans (hrc))))))))))))))) (nI_toInt (by omega)) (po := po) ((zu_o (by omega)).trans ((zu_o (by omega)).trans ((zu_o (by omega)).trans ((zu_o (by omega)).trans ((zu_o (by omega)).trans ((zu_o (by omega)).trans ((zu_o (by omega)).trans ((zu_o (by omega)).trans ((zu_o (by omega)).trans ((zu_o (by omega)).trans ((zu_o (by omega)).trans ((zu_o (by omega)).trans ((zu_o (by omega)).trans (hpo)))))))))))))) (by omega) (by omega) (w := w) (((zu_o (by omega)).trans ((zu_o (by omega)).trans ((zu_o (by omega)).trans ((zu_o (by omega)).trans ((zu_o (by omega)).trans ((zu_o (by omega)).trans ((zu_o (by omega)).trans ((zu_o (by omega)).trans ((zu_o (by omega)).trans ((zu_o (by omega)).trans ((zu_o (by omega)).trans ((zu_o (by omega)).trans ((zu_o (by omega)).trans (hw))))))))))))))) (t := t) (((zu_o (by omega)).trans ((zu_o (by omega)).trans ((zu_o (by omega)).trans ((zu_o (by omega)).trans ((zu_o (by omega)).trans ((zu_o (by omega)).trans ((zu_o (by omega)).trans ((zu_o (by omega)).trans ((zu_o (by omega)).trans ((zu_o (by omega)).trans ((zu_o (by omega)).trans ((zu_o (by omega)).trans ((zu_o (by omega)).trans (ht)))))))))))))))) [] zmX3_pass zk_X4_234 zK3 (zb_Part hG hc) (zs_Part hG hc) (by decide) rfl rfl (Nat.le_of_ble_eq_true rfl) dX4_deliverFrom_120 (fun Z120 h120 => ?_)
            refine j_Z (Z' := (zu (zu (zu (zu (zu (zu (zu (zu (zu (zu (zu (zu (zu (zu (zu Z (7) (2) (nI (md + 1))) (10) (0) (nI c)) (10) (1) (nI po)) (10) (2) (t)) (10) (3) (nI (md + 1))) (10) (4) (cr)) (8) ((md + 1) % 64) (nI 0)) (7) (5) (td - tbz tv8)) (9) ((md + 1) % 64) (nI 0)) (7) (5) ((td - tbz tv8) - tbz tv9)) (5) (ac) (nI c)) (6) (ac) (nI po)) (3) (4) (nI (ac + 1))) (11 + 4 * c) (6) (if w < t then t else w)) (11 + 4 * c) (5) (nI (po + 1)))) h120 ?_
            refine j_bipush C (-3) dX4_deliverFrom_123 (by decide) ?_
            refine j_iret C R dX4_deliverFrom_125 ?_
            first | exact Or.inl ⟨by omega, rfl, rfl⟩ | exact Or.inr (Or.inl ⟨by omega, rfl, rfl⟩) | exact Or.inr (Or.inr (Or.inl ⟨by omega, rfl, rfl⟩)) | exact Or.inr (Or.inr (Or.inr (Or.inl ⟨by omega, rfl, rfl⟩))) | exact Or.inr (Or.inr (Or.inr (Or.inr (Or.inl ⟨by omega, rfl, rfl⟩)))) | exact Or.inr (Or.inr (Or.inr (Or.inr (Or.inr (⟨by omega, rfl, rfl⟩)))))
          ·
            refine j_Z (Z' := (zu (zu (zu (zu (zu (zu (zu (zu (zu (zu Z (7) (2) (nI (md + 1))) (10) (0) (nI c)) (10) (1) (nI po)) (10) (2) (t)) (10) (3) (nI (md + 1))) (10) (4) (cr)) (8) ((md + 1) % 64) (nI 0)) (7) (5) (td - tbz tv8)) (9) ((md + 1) % 64) (nI 0)) (7) (5) ((td - tbz tv8) - tbz tv9))) e116 ?_
            refine j_aload_n C 4 dX4_deliverFrom_119 rfl rfl ?_
            refine j_callVN C hR (kX3_pass hD hG (i := c)  hc (rc := nI rc) (rcI := ((rc : Nat) : Int)) (((zu_o (by omega)).trans ((zu_o (by omega)).trans ((zu_o (by omega)).trans ((zu_o (by omega)).trans ((zu_o (by omega)).trans ((zu_o (by omega)).trans ((zu_o (by omega)).trans ((zu_o (by omega)).trans ((zu_o (by omega)).trans ((zu_o (by omega)).trans (hrc)))))))))))) (nI_toInt (by omega)) (po := po) ((zu_o (by omega)).trans ((zu_o (by omega)).trans ((zu_o (by omega)).trans ((zu_o (by omega)).trans ((zu_o (by omega)).trans ((zu_o (by omega)).trans ((zu_o (by omega)).trans ((zu_o (by omega)).trans ((zu_o (by omega)).trans ((zu_o (by omega)).trans (hpo))))))))))) (by omega) (by omega) (w := w) (((zu_o (by omega)).trans ((zu_o (by omega)).trans ((zu_o (by omega)).trans ((zu_o (by omega)).trans ((zu_o (by omega)).trans ((zu_o (by omega)).trans ((zu_o (by omega)).trans ((zu_o (by omega)).trans ((zu_o (by omega)).trans ((zu_o (by omega)).trans (hw)))))))))))) (t := t) (((zu_o (by omega)).trans ((zu_o (by omega)).trans ((zu_o (by omega)).trans ((zu_o (by omega)).trans ((zu_o (by omega)).trans ((zu_o (by omega)).trans ((zu_o (by omega)).trans ((zu_o (by omega)).trans ((zu_o (by omega)).trans ((zu_o (by omega)).trans (ht))))))))))))) [] zmX3_pass zk_X4_234 zK3 (zb_Part hG hc) (zs_Part hG hc) (by decide) rfl rfl (Nat.le_of_ble_eq_true rfl) dX4_deliverFrom_120 (fun Z120 h120 => ?_)
            refine j_Z (Z' := (zu (zu (zu (zu (zu (zu (zu (zu (zu (zu (zu (zu Z (7) (2) (nI (md + 1))) (10) (0) (nI c)) (10) (1) (nI po)) (10) (2) (t)) (10) (3) (nI (md + 1))) (10) (4) (cr)) (8) ((md + 1) % 64) (nI 0)) (7) (5) (td - tbz tv8)) (9) ((md + 1) % 64) (nI 0)) (7) (5) ((td - tbz tv8) - tbz tv9)) (11 + 4 * c) (6) (if w < t then t else w)) (11 + 4 * c) (5) (nI (po + 1)))) h120 ?_
            refine j_bipush C (-3) dX4_deliverFrom_123 (by decide) ?_
            refine j_iret C R dX4_deliverFrom_125 ?_
            first | exact Or.inl ⟨by omega, rfl, rfl⟩ | exact Or.inr (Or.inl ⟨by omega, rfl, rfl⟩) | exact Or.inr (Or.inr (Or.inl ⟨by omega, rfl, rfl⟩)) | exact Or.inr (Or.inr (Or.inr (Or.inl ⟨by omega, rfl, rfl⟩))) | exact Or.inr (Or.inr (Or.inr (Or.inr (Or.inl ⟨by omega, rfl, rfl⟩)))) | exact Or.inr (Or.inr (Or.inr (Or.inr (Or.inr (⟨by omega, rfl, rfl⟩)))))
  ·
    refine j_Z e8 ?_
    exact absurd h8 (by omega)
