theorem zadd_toInt {x y : Int32} (h : -2147483648 ≤ x.toInt + y.toInt ∧ x.toInt + y.toInt ≤ 2147483647) : (x + y).toInt = x.toInt + y.toInt := by
  rw [Int32.toInt_add]
  exact Int.bmod_eq_of_le (by omega) (by omega)
theorem z_ne0 {x : Int32} (h : 1 ≤ x.toInt) : ¬ x = 0 := fun q => by rw [q] at h; exact absurd h (by decide)
/-! the sum of the shares -/
def rsm (b : Nat → Bool) (s : Nat → Int32) (a : Int32) : Nat → Int32
  | 0 => a
  | n + 1 => if b n = true then rsm b s a n + s n else rsm b s a n
theorem rsm_t {b : Nat → Bool} {s : Nat → Int32} {a : Int32} {n : Nat} (h : b n = true) : rsm b s a (n + 1) = rsm b s a n + s n := if_pos h
theorem rsm_f {b : Nat → Bool} {s : Nat → Int32} {a : Int32} {n : Nat} (h : b n = false) : rsm b s a (n + 1) = rsm b s a n := if_neg (by rw [h]; decide)
theorem rsm_f0 {b : Nat → Bool} {s : Nat → Int32} {a : Int32} {n : Nat} (h : b n = false) : rsm b s a (n + 1) = rsm b s a n + nI 0 := by
  rw [rsm_f h]
  exact (Int32.add_zero _).symm
theorem rsm_congr {b b' : Nat → Bool} {s s' : Nat → Int32} {a : Int32} : ∀ {n : Nat}, (∀ i, i < n → b i = b' i ∧ s i = s' i) → rsm b s a n = rsm b' s' a n := by
  intro n
  induction n with
  | zero => intro _; rfl
  | succ n ih =>
    intro h
    simp only [rsm]
    rw [ih (fun i hi => h i (by omega)), (h n (by omega)).1, (h n (by omega)).2]
theorem rsm_bd {b : Nat → Bool} {s : Nat → Int32} {a : Int32} {m : Nat} (hs : ∀ i, i < m → 1 ≤ (s i).toInt ∧ (s i).toInt ≤ 9) (ha : 1 ≤ a.toInt ∧ a.toInt ≤ 9) : ∀ {n : Nat}, n ≤ m → n ≤ 12 → 1 ≤ (rsm b s a n).toInt ∧ (rsm b s a n).toInt ≤ 9 * ((n : Int) + 1) := by
  intro n
  induction n with
  | zero => intro _ _; exact ⟨ha.1, by show a.toInt ≤ _; omega⟩
  | succ n ih =>
    intro h1 h2
    have h3 := ih (by omega) (by omega)
    cases hb : b n with
    | false =>
      rw [rsm_f hb]
      omega
    | true =>
      have h4 := hs n (by omega)
      rw [rsm_t hb, zadd_toInt (by omega)]
      omega
def rbC (Z : ZT) (p i : Nat) : Bool := decide (i ≠ p ∧ (Z (11 + 4 * i) 9).toInt = (Z (11 + 4 * p) 9).toInt ∧ (Z (11 + 4 * i) 5).toInt < (Z (11 + 4 * i) 3).toInt)
def rbM (Z : ZT) (p i : Nat) : Bool := decide (i ≠ p ∧ (Z 121 (36 + i)).toInt = (Z 121 (36 + p)).toInt ∧ (Z 121 i).toInt < (Z 117 i).toInt)
set_option maxRecDepth 100000 in
set_option maxHeartbeats 4000000 in
theorem kX4_number {l : Launch} (hl0 : l.stackTraces = false) {D : va_G} {Y : YT} {b0 : Nat} {G : GT} (hD : GD b0 G) (hG : Gok 113 G) {Z : ZT} {np : Nat} (hnp : Z 0 5 = nI np) (hnp12 : np ≤ 12) {rc : Nat → Nat} (hrc : ∀ i, i < np → Z (11 + 4 * i) 3 = nI (rc i) ∧ rc i ≤ 40) (p0 p1 : Int32) : CX l D Y b0 G yX4_number cX4_number 3 7 [.ref (G.2.1 (0)), .int (p0), .int (p1)] Z (fun r Z' => ∃ p : Nat, p < np ∧ p0 = nI p ∧ ∃ q : Nat, q < rc p ∧ p1 = nI q ∧ r = Z (12 + 4 * p) q ∧ Z' = Z) (fun nm => (nm = zxA ∧ (p0.toInt < 0 ∨ (np : Int) ≤ p0.toInt ∨ p1.toInt < 0 ∨ 40 ≤ p1.toInt)) ∨ (nm = Bundle.nN ∧ ∃ p : Nat, p < np ∧ p0 = nI p ∧ ∃ q : Nat, q < 40 ∧ p1 = nI q ∧ rc p ≤ q)) := by
  refine cx_start (lv0 := [(0, .ref (G.2.1 (0))), (1, .int (p0)), (2, .int (p1))]) hl0 hD rfl (Nat.le_of_ble_eq_true rfl) rfl ?_
  intro E C R hR hD hN
  refine j_aload_n C 0 dX4_number_0 rfl rfl ?_
  refine j_iload_n C 1 dX4_number_1 rfl rfl ?_
  refine j_callIX C (rOK.X hR) (kX4_isPart hD hG (np := nI np) (npI := ((np : Nat) : Int)) hnp (nI_toInt (by omega)) (p0 := p0) (b := (p0).toInt) rfl) [] zmX4_isPart zk_X4_52 zK4 (zb_X hG) (zs_X hG) (by decide) rfl rfl (Nat.le_of_ble_eq_true rfl) dX4_number_2 (fun r2 Z2 h2 => ?_)
  obtain ⟨e2, ⟨rfl, h2⟩ | ⟨rfl, h2⟩⟩ := h2
  ·
    refine j_Z e2 ?_
    refine j_if_eq (tgt := 18) (a := ((1 : Nat) : Int)) C (nI_toInt (by omega)) dX4_number_5 (by decide) (fun c5 => absurd c5 (by omega)) (fun c5 => ?_)
    refine j_iload_n C 2 dX4_number_8 rfl rfl ?_
    refine j_if_lt (tgt := 18) (a := (p1).toInt) C rfl dX4_number_9 (by decide) (fun c9 => ?_) (fun c9 => ?_)
    ·
      exact j_throwA C R hR (by decide) (Or.inl ⟨rfl, by omega⟩) dX4_number_18 dX4_number_21 dX4_number_22 dX4_number_24 dX4_number_27
    ·
      refine j_iload_n C 2 dX4_number_12 rfl rfl ?_
      refine j_bipush C (nI 40) dX4_number_13 (by decide) ?_
      refine j_icmp_lt (tgt := 28) (a := (p1).toInt) (b := ((40 : Nat) : Int)) C rfl (nI_toInt (by omega)) dX4_number_15 (by decide) (fun c15 => ?_) (fun c15 => ?_)
      ·
        obtain ⟨p, hp, rfl⟩ := zi_nat (x := p0) (n := np) (by omega) (by omega)
        obtain ⟨hrcp, hrc40⟩ := hrc p hp
        obtain ⟨q, hq, rfl⟩ := zi_nat (x := p1) (n := 40) (by omega) (by omega)
        refine j_aload_n C 0 dX4_number_28 rfl rfl ?_
        refine j_getR C zK4 (zb_X hG) (zs_X hG) (f := 0) (by decide) rfl zk_X4_11 rfl (zf_X_0 hG) dX4_number_29 ?_
        refine j_iload_n C 1 dX4_number_32 rfl rfl ?_
        refine j_aldP C (zb_Pts hG) (zs_Pts hG) (zl_Pts hG) rfl (by omega) (by decide) (zf_Pts hG (by omega)) dX4_number_33 ?_
        refine j_iload_n C 2 dX4_number_34 rfl rfl ?_
        refine j_callINX C (rOK.X hR) (kX3_hasRow hD hG (i := p)  (by omega) (rc := nI (rc p)) (rcI := ((rc p : Nat) : Int)) hrcp (nI_toInt (by omega)) (p0 := nI q) (b := ((q : Nat) : Int)) (nI_toInt (by omega))) [] zmX3_hasRow zk_X4_73 zK3 (zb_Part hG (by omega)) (zs_Part hG (by omega)) (by decide) rfl rfl (Nat.le_of_ble_eq_true rfl) dX4_number_35 (fun r35 Z35 h35 => ?_)
        obtain ⟨e35, ⟨rfl, h35⟩ | ⟨rfl, h35⟩⟩ := h35
        ·
          refine j_Z e35 ?_
          refine j_if_ne (tgt := 51) (a := ((1 : Nat) : Int)) C (nI_toInt (by omega)) dX4_number_38 (by decide) (fun c38 => ?_) (fun c38 => absurd c38 (by omega))
          refine j_aload_n C 0 dX4_number_51 rfl rfl ?_
          refine j_getR C zK4 (zb_X hG) (zs_X hG) (f := 0) (by decide) rfl zk_X4_11 rfl (zf_X_0 hG) dX4_number_52 ?_
          refine j_iload_n C 1 dX4_number_55 rfl rfl ?_
          refine j_aldP C (zb_Pts hG) (zs_Pts hG) (zl_Pts hG) rfl (by omega) (by decide) (zf_Pts hG (by omega)) dX4_number_56 ?_
          refine j_getRN C zK3 (zb_Part hG (by omega)) (zs_Part hG (by omega)) (f := 0) (by decide) rfl zk_X4_164 rfl (zf_Part_0 hG (by omega)) dX4_number_57 ?_
          refine j_iload_n C 2 dX4_number_60 rfl rfl ?_
          refine j_iald C (zb_Num hG (by omega)) (zs_Num hG (by omega)) (zl_Num hG (by omega)) rfl (by omega) (by decide) (Z (12 + 4 * p) (q)) rfl dX4_number_61 ?_
          refine j_xret C R dX4_number_62 ?_
          exact ⟨p, hp, rfl, q, by omega, rfl, rfl, rfl⟩
        ·
          refine j_Z e35 ?_
          refine j_if_ne (tgt := 51) (a := ((0 : Nat) : Int)) C (nI_toInt (by omega)) dX4_number_38 (by decide) (fun c38 => absurd c38 (by omega)) (fun c38 => ?_)
          exact j_throwN C R hR (by decide) (Or.inr ⟨rfl, p, hp, rfl, q, hq, rfl, by omega⟩) (fun h => h.2.2.2.2.1) dX4_number_41 dX4_number_44 dX4_number_45 dX4_number_47 dX4_number_50
      ·
        exact j_throwA C R hR (by decide) (Or.inl ⟨rfl, by omega⟩) dX4_number_18 dX4_number_21 dX4_number_22 dX4_number_24 dX4_number_27
  ·
    refine j_Z e2 ?_
    refine j_if_eq (tgt := 18) (a := ((0 : Nat) : Int)) C (nI_toInt (by omega)) dX4_number_5 (by decide) (fun c5 => ?_) (fun c5 => absurd c5 (by omega))
    exact j_throwA C R hR (by decide) (Or.inl ⟨rfl, by omega⟩) dX4_number_18 dX4_number_21 dX4_number_22 dX4_number_24 dX4_number_27
set_option maxRecDepth 100000 in
set_option maxHeartbeats 4000000 in
theorem kX4_rate {l : Launch} (hl0 : l.stackTraces = false) {D : va_G} {Y : YT} {b0 : Nat} {G : GT} (hD : GD b0 G) (hG : Gok 113 G) {Z : ZT} {np : Nat} (hnp : Z 0 5 = nI np) (hnp12 : np ≤ 12) (hpo : ∀ i, i < np → 0 ≤ (Z (11 + 4 * i) 5).toInt) (hsh : ∀ i, i < np → 1 ≤ (Z (11 + 4 * i) 8).toInt ∧ (Z (11 + 4 * i) 8).toInt ≤ 9) (p0 : Int32) : CX l D Y b0 G yX4_rate cX4_rate 5 7 [.ref (G.2.1 (0)), .int (p0)] Z (fun r Z' => ((p0.toInt < 0 ∨ (np : Int) ≤ p0.toInt) ∧ r = (-11) ∧ Z' = Z) ∨ ∃ p : Nat, p < np ∧ p0 = nI p ∧ (Z (11 + 4 * p) 9).toInt ≠ -1 ∧ r = nI 1000 * Z (11 + 4 * p) 8 / rsm (rbC Z p) (shC Z) (Z (11 + 4 * p) 8) np ∧ Z' = Z) (fun nm => nm = Bundle.nN ∧ ∃ p : Nat, p < np ∧ p0 = nI p ∧ (Z (11 + 4 * p) 9).toInt = -1) := by
  refine cx_start (lv0 := [(0, .ref (G.2.1 (0))), (1, .int (p0))]) hl0 hD rfl (Nat.le_of_ble_eq_true rfl) rfl ?_
  intro E C R hR hD hN
  have L44 : ∀ (n : Nat) (p : Nat) (hp : p < np) (hp0 : p0 = nI p) (hre : (Z (11 + 4 * p) 9).toInt ≠ -1) (k : Nat), np + 1 ≤ k + n → k ≤ np → J E 0 0 G 44 [(4, .int (nI k)), (3, .int (rsm (rbC Z p) (shC Z) (Z (11 + 4 * p) 8) k)), (2, .ref (G.2.1 (11 + 4 * p))), (0, .ref (G.2.1 (0))), (1, .int (nI p))] [] Z := by
    intro n
    induction n with
    | zero => intro p hp hp0 hre k hn hk; exact absurd hn (by omega)
    | succ n ih =>
      intro p hp hp0 hre k hn hk
      refine j_iload C 0 dX4_rate_44 rfl ?_
      refine j_aload_n C 3 dX4_rate_46 rfl rfl ?_
      refine j_getI C zK4 (zb_X hG) (zs_X hG) (f := 5) (by decide) rfl zk_X4_44 rfl (nI np) hnp dX4_rate_47 ?_
      refine j_icmp_ge (tgt := 95) (a := ((k : Nat) : Int)) (b := ((np : Nat) : Int)) C (nI_toInt (by omega)) (nI_toInt (by omega)) dX4_rate_50 (by decide) (fun c50 => ?_) (fun c50 => ?_)
      ·
        have e9 : k = np := by omega
        subst e9
        have hbd := rsm_bd (b := rbC Z p) (s := shC Z) (a := Z (11 + 4 * p) 8) (m := k) hsh (hsh p hp) (Nat.le_refl k) (by omega)
        refine j_iload_n C 1 dX4_rate_95 rfl rfl ?_
        refine j_iconst C (nI 1) dX4_rate_96 (by decide) ?_
        refine j_icmp_ge (tgt := 104) (a := (rsm (rbC Z p) (shC Z) (Z (11 + 4 * p) 8) k).toInt) (b := ((1 : Nat) : Int)) C rfl (nI_toInt (by omega)) dX4_rate_97 (by decide) (fun c97 => ?_) (fun c97 => absurd c97 (by omega))
        refine j_sipush C (nI 1000) dX4_rate_104 (by decide) ?_
        refine j_aload_n C 2 dX4_rate_107 rfl rfl ?_
        refine j_getIN C zK3 (zb_Part hG (by omega)) (zs_Part hG (by omega)) (f := 8) (by decide) rfl zk_X4_79 rfl (Z (11 + 4 * p) (8)) rfl dX4_rate_108 ?_
        refine j_imul C ((nI 1000) * (Z (11 + 4 * p) (8))) dX4_rate_111 rfl ?_
        refine j_iload_n C 1 dX4_rate_112 rfl rfl ?_
        refine j_idiv C (((nI 1000) * (Z (11 + 4 * p) (8))) / (rsm (rbC Z p) (shC Z) (Z (11 + 4 * p) 8) k)) dX4_rate_113 (z_ne0 hbd.1) rfl ?_
        refine j_xret C R dX4_rate_114 ?_
        exact Or.inr ⟨p, hp, hp0, hre, rfl, rfl⟩
      ·
        refine j_iload C 0 dX4_rate_53 rfl ?_
        refine j_iload_n C 4 dX4_rate_55 rfl rfl ?_
        refine j_icmp_eq (tgt := 89) (a := ((k : Nat) : Int)) (b := ((p : Nat) : Int)) C (nI_toInt (by omega)) (nI_toInt (by omega)) dX4_rate_56 (by decide) (fun c56 => ?_) (fun c56 => ?_)
        ·
          refine j_iinc (v := nI (k + 1)) (lv' := [(4, .int (nI (k + 1))), (3, .int (rsm (rbC Z p) (shC Z) (Z (11 + 4 * p) 8) k)), (2, .ref (G.2.1 (11 + 4 * p))), (0, .ref (G.2.1 (0))), (1, .int (nI p))]) C 0 dX4_rate_89 rfl (nI_add k 1) (by rw [hN]; decide) rfl ?_
          refine j_goto (tgt := 44) C dX4_rate_92 (by decide) ?_
          refine j_lv (lv' := [(4, .int (nI (k + 1))), (3, .int (rsm (rbC Z p) (shC Z) (Z (11 + 4 * p) 8) (k + 1))), (2, .ref (G.2.1 (11 + 4 * p))), (0, .ref (G.2.1 (0))), (1, .int (nI p))]) (by first | rw [rsm_t hrb] | rw [rsm_f hrb] | rw [rsm_f (show rbC Z p k = false from decide_eq_false (fun q => q.1 (by omega)))]) ?_
          exact ih p hp hp0 hre (k + 1) (by omega) (by omega)
        ·
          have hpok := hpo k (by omega)
          refine j_aload_n C 3 dX4_rate_59 rfl rfl ?_
          refine j_getR C zK4 (zb_X hG) (zs_X hG) (f := 0) (by decide) rfl zk_X4_11 rfl (zf_X_0 hG) dX4_rate_60 ?_
          refine j_iload C 0 dX4_rate_63 rfl ?_
          refine j_aldP C (zb_Pts hG) (zs_Pts hG) (zl_Pts hG) rfl (by omega) (by decide) (zf_Pts hG (by omega)) dX4_rate_65 ?_
          refine j_aload_n C 2 dX4_rate_66 rfl rfl ?_
          refine j_getIN C zK3 (zb_Part hG (by omega)) (zs_Part hG (by omega)) (f := 9) (by decide) rfl zk_X4_93 rfl (Z (11 + 4 * p) (9)) rfl dX4_rate_67 ?_
          refine j_callINX C (rOK.X hR) (kX3_isReadyFor hD hG (i := k)  (by omega) (rc := Z (11 + 4 * k) (3)) (rcI := (Z (11 + 4 * k) (3)).toInt) rfl rfl (po := Z (11 + 4 * k) (5)) (poI := (Z (11 + 4 * k) (5)).toInt) rfl rfl (re := Z (11 + 4 * k) (9)) (reI := (Z (11 + 4 * k) (9)).toInt) rfl rfl (p0 := Z (11 + 4 * p) (9)) (b := (Z (11 + 4 * p) (9)).toInt) rfl) [] zmX3_isReadyFor zk_X4_178 zK3 (zb_Part hG (by omega)) (zs_Part hG (by omega)) (by decide) rfl rfl (Nat.le_of_ble_eq_true rfl) dX4_rate_70 (fun r70 Z70 h70 => ?_)
          obtain ⟨e70, ⟨rfl, h70⟩ | ⟨rfl, h70⟩⟩ := h70
          ·
            refine j_Z e70 ?_
            have hrb : rbC Z p k = true := decide_eq_true (by omega)
            refine j_if_eq (tgt := 89) (a := ((1 : Nat) : Int)) C (nI_toInt (by omega)) dX4_rate_73 (by decide) (fun c73 => absurd c73 (by omega)) (fun c73 => ?_)
            refine j_iload_n C 1 dX4_rate_76 rfl rfl ?_
            refine j_aload_n C 3 dX4_rate_77 rfl rfl ?_
            refine j_getR C zK4 (zb_X hG) (zs_X hG) (f := 0) (by decide) rfl zk_X4_11 rfl (zf_X_0 hG) dX4_rate_78 ?_
            refine j_iload C 0 dX4_rate_81 rfl ?_
            refine j_aldP C (zb_Pts hG) (zs_Pts hG) (zl_Pts hG) rfl (by omega) (by decide) (zf_Pts hG (by omega)) dX4_rate_83 ?_
            refine j_getIN C zK3 (zb_Part hG (by omega)) (zs_Part hG (by omega)) (f := 8) (by decide) rfl zk_X4_79 rfl (Z (11 + 4 * k) (8)) rfl dX4_rate_84 ?_
            refine j_iadd C ((rsm (rbC Z p) (shC Z) (Z (11 + 4 * p) 8) k) + (Z (11 + 4 * k) (8))) dX4_rate_87 rfl ?_
            refine j_istore_n (lv' := [(3, .int ((rsm (rbC Z p) (shC Z) (Z (11 + 4 * p) 8) k) + (Z (11 + 4 * k) (8)))), (4, .int (nI k)), (2, .ref (G.2.1 (11 + 4 * p))), (0, .ref (G.2.1 (0))), (1, .int (nI p))]) C dX4_rate_88 rfl (by rw [hN]; decide) rfl ?_
            refine j_iinc (v := nI (k + 1)) (lv' := [(4, .int (nI (k + 1))), (3, .int ((rsm (rbC Z p) (shC Z) (Z (11 + 4 * p) 8) k) + (Z (11 + 4 * k) (8)))), (2, .ref (G.2.1 (11 + 4 * p))), (0, .ref (G.2.1 (0))), (1, .int (nI p))]) C 1 dX4_rate_89 rfl (nI_add k 1) (by rw [hN]; decide) rfl ?_
            refine j_goto (tgt := 44) C dX4_rate_92 (by decide) ?_
            refine j_lv (lv' := [(4, .int (nI (k + 1))), (3, .int (rsm (rbC Z p) (shC Z) (Z (11 + 4 * p) 8) (k + 1))), (2, .ref (G.2.1 (11 + 4 * p))), (0, .ref (G.2.1 (0))), (1, .int (nI p))]) (by first | rw [rsm_t hrb] | rw [rsm_f hrb] | rw [rsm_f (show rbC Z p k = false from decide_eq_false (fun q => q.1 (by omega)))]) ?_
            exact ih p hp hp0 hre (k + 1) (by omega) (by omega)
          ·
            refine j_Z e70 ?_
            have hrb : rbC Z p k = false := decide_eq_false (by omega)
            refine j_if_eq (tgt := 89) (a := ((0 : Nat) : Int)) C (nI_toInt (by omega)) dX4_rate_73 (by decide) (fun c73 => ?_) (fun c73 => absurd c73 (by omega))
            refine j_iinc (v := nI (k + 1)) (lv' := [(4, .int (nI (k + 1))), (3, .int (rsm (rbC Z p) (shC Z) (Z (11 + 4 * p) 8) k)), (2, .ref (G.2.1 (11 + 4 * p))), (0, .ref (G.2.1 (0))), (1, .int (nI p))]) C 0 dX4_rate_89 rfl (nI_add k 1) (by rw [hN]; decide) rfl ?_
            refine j_goto (tgt := 44) C dX4_rate_92 (by decide) ?_
            refine j_lv (lv' := [(4, .int (nI (k + 1))), (3, .int (rsm (rbC Z p) (shC Z) (Z (11 + 4 * p) 8) (k + 1))), (2, .ref (G.2.1 (11 + 4 * p))), (0, .ref (G.2.1 (0))), (1, .int (nI p))]) (by first | rw [rsm_t hrb] | rw [rsm_f hrb] | rw [rsm_f (show rbC Z p k = false from decide_eq_false (fun q => q.1 (by omega)))]) ?_
            exact ih p hp hp0 hre (k + 1) (by omega) (by omega)
  refine j_aload_n C 0 dX4_rate_0 rfl rfl ?_
  refine j_iload_n C 1 dX4_rate_1 rfl rfl ?_
  refine j_callIX C (rOK.X hR) (kX4_isPart hD hG (np := nI np) (npI := ((np : Nat) : Int)) hnp (nI_toInt (by omega)) (p0 := p0) (b := (p0).toInt) rfl) [] zmX4_isPart zk_X4_52 zK4 (zb_X hG) (zs_X hG) (by decide) rfl rfl (Nat.le_of_ble_eq_true rfl) dX4_rate_2 (fun r2 Z2 h2 => ?_)
  obtain ⟨e2, ⟨rfl, h2⟩ | ⟨rfl, h2⟩⟩ := h2
  ·
    refine j_Z e2 ?_
    refine j_if_ne (tgt := 11) (a := ((1 : Nat) : Int)) C (nI_toInt (by omega)) dX4_rate_5 (by decide) (fun c5 => ?_) (fun c5 => absurd c5 (by omega))
    obtain ⟨p, hp, rfl⟩ := zi_nat (x := p0) (n := np) (by omega) (by omega)
    refine j_aload_n C 0 dX4_rate_11 rfl rfl ?_
    refine j_getR C zK4 (zb_X hG) (zs_X hG) (f := 0) (by decide) rfl zk_X4_11 rfl (zf_X_0 hG) dX4_rate_12 ?_
    refine j_iload_n C 1 dX4_rate_15 rfl rfl ?_
    refine j_aldP C (zb_Pts hG) (zs_Pts hG) (zl_Pts hG) rfl (by omega) (by decide) (zf_Pts hG (by omega)) dX4_rate_16 ?_
    refine j_astore_n (lv' := [(2, .ref (G.2.1 (11 + 4 * p))), (0, .ref (G.2.1 (0))), (1, .int (nI p))]) C dX4_rate_17 rfl (by rw [hN]; decide) rfl ?_
    refine j_aload_n C 0 dX4_rate_18 rfl rfl ?_
    refine j_getIN C zK3 (zb_Part hG (by omega)) (zs_Part hG (by omega)) (f := 9) (by decide) rfl zk_X4_93 rfl (Z (11 + 4 * p) (9)) rfl dX4_rate_19 ?_
    refine j_iconst C (-1) dX4_rate_22 (by decide) ?_
    refine j_icmp_ne (tgt := 36) (a := (Z (11 + 4 * p) (9)).toInt) (b := -1) C rfl (show ((-1 : Int32)).toInt = -1 by decide) dX4_rate_23 (by decide) (fun c23 => ?_) (fun c23 => ?_)
    ·
      have hre : (Z (11 + 4 * p) 9).toInt ≠ -1 := by omega
      refine j_aload_n C 0 dX4_rate_36 rfl rfl ?_
      refine j_getIN C zK3 (zb_Part hG (by omega)) (zs_Part hG (by omega)) (f := 8) (by decide) rfl zk_X4_79 rfl (Z (11 + 4 * p) (8)) rfl dX4_rate_37 ?_
      refine j_istore_n (lv' := [(3, .int (Z (11 + 4 * p) (8))), (2, .ref (G.2.1 (11 + 4 * p))), (0, .ref (G.2.1 (0))), (1, .int (nI p))]) C dX4_rate_40 rfl (by rw [hN]; decide) rfl ?_
      refine j_iconst C (nI 0) dX4_rate_41 (by decide) ?_
      refine j_istore (lv' := [(4, .int (nI 0)), (3, .int (Z (11 + 4 * p) (8))), (2, .ref (G.2.1 (11 + 4 * p))), (0, .ref (G.2.1 (0))), (1, .int (nI p))]) C dX4_rate_42 (by rw [hN]; decide) rfl ?_
      refine j_lv (lv' := [(4, .int (nI 0)), (3, .int (rsm (rbC Z p) (shC Z) (Z (11 + 4 * p) 8) 0)), (2, .ref (G.2.1 (11 + 4 * p))), (0, .ref (G.2.1 (0))), (1, .int (nI p))]) rfl ?_
      exact L44 (np + 1) p hp rfl hre 0 (by omega) (by omega)
    ·
      exact j_throwN C R hR (by decide) ⟨rfl, p, hp, rfl, by omega⟩ (fun h => h.2.2.2.2.2) dX4_rate_26 dX4_rate_29 dX4_rate_30 dX4_rate_32 dX4_rate_35
  ·
    refine j_Z e2 ?_
    refine j_if_ne (tgt := 11) (a := ((0 : Nat) : Int)) C (nI_toInt (by omega)) dX4_rate_5 (by decide) (fun c5 => absurd c5 (by omega)) (fun c5 => ?_)
    refine j_bipush C (-11) dX4_rate_8 (by decide) ?_
    refine j_xret C R dX4_rate_10 ?_
    exact Or.inl ⟨by omega, rfl, rfl⟩
set_option maxRecDepth 100000 in
set_option maxHeartbeats 4000000 in
theorem kX5_number {l : Launch} {D : va_G} {Y : YT} {b0 : Nat} {G : GT} (hD : GD b0 G) (hG : Gok 132 G) {Z : ZT} {np : Nat} (hnp : Z 113 1 = nI np) (hnp12 : np ≤ 12) {rc : Nat → Nat} (hrc : ∀ i, i < np → Z 117 i = nI (rc i) ∧ rc i ≤ 40) (p0 p1 : Int32) : CI l D Y b0 G yX5_number cX5_number 3 (some .int) 2 [.ref (G.2.1 (113)), .int (p0), .int (p1)] Z (fun r Z' => ((p0.toInt < 0 ∨ (np : Int) ≤ p0.toInt ∨ p1.toInt < 0 ∨ 39 < p1.toInt) ∧ r = nI 0 ∧ Z' = zu Z 113 0 (nI 1)) ∨ ∃ p : Nat, p < np ∧ p0 = nI p ∧ ∃ q : Nat, q < 40 ∧ p1 = nI q ∧ ((rc p ≤ q ∧ r = nI 0 ∧ Z' = zu Z 113 0 (nI 2)) ∨ (q < rc p ∧ r = Z 114 (40 * p + q) ∧ Z' = zu Z 113 0 (nI 0)))) := by
  refine ci_start (lv0 := [(0, .ref (G.2.1 (113))), (1, .int (p0)), (2, .int (p1))]) hD rfl rfl (Nat.le_of_ble_eq_true rfl) rfl ?_
  intro E C R hR hD hN
  refine j_aload_n C 0 dX5_number_0 rfl rfl ?_
  refine j_aload_n C 0 dX5_number_1 rfl rfl ?_
  refine j_iload_n C 1 dX5_number_2 rfl rfl ?_
  refine j_callI C hR (kX5_isPart hD hG (np := np) hnp (by omega) (p0 := p0) (b := (p0).toInt) rfl) [.ref (G.2.1 (113))] zmX5_isPart zk_X5_94 zK5 (zb_M hG) (zs_M hG) (by decide) rfl rfl (Nat.le_of_ble_eq_true rfl) dX5_number_3 (fun r3 Z3 h3 => ?_)
  obtain ⟨e3, ⟨rfl, h3⟩ | ⟨rfl, h3⟩⟩ := h3
  ·
    refine j_Z e3 ?_
    refine j_if_eq (tgt := 19) (a := ((1 : Nat) : Int)) C (nI_toInt (by omega)) dX5_number_6 (by decide) (fun c6 => absurd c6 (by omega)) (fun c6 => ?_)
    refine j_iload_n C 2 dX5_number_9 rfl rfl ?_
    refine j_iconst C (nI 0) dX5_number_10 (by decide) ?_
    refine j_bipush C (nI 39) dX5_number_11 (by decide) ?_
    refine j_callS C hR (kX5_in hD hG (p0 := p1) (p1 := nI 0) (p2 := nI 39) (a := (p1).toInt) (b := ((0 : Nat) : Int)) (c := ((39 : Nat) : Int)) rfl (nI_toInt (by omega)) (nI_toInt (by omega))) [.ref (G.2.1 (113))] zmX5_in rfl zk_X5_78 (by decide) rfl rfl (Nat.le_of_ble_eq_true rfl) dX5_number_13 (fun r13 Z13 h13 => ?_)
    obtain ⟨e13, ⟨rfl, h13⟩ | ⟨rfl, h13⟩⟩ := h13
    ·
      refine j_Z e13 ?_
      refine j_if_ne (tgt := 23) (a := ((1 : Nat) : Int)) C (nI_toInt (by omega)) dX5_number_16 (by decide) (fun c16 => ?_) (fun c16 => absurd c16 (by omega))
      obtain ⟨p, hp, rfl⟩ := zi_nat (x := p0) (n := np) (by omega) (by omega)
      obtain ⟨hrcp, hrc40⟩ := hrc p hp
      obtain ⟨q, hq, rfl⟩ := zi_nat (x := p1) (n := 40) (by omega) (by omega)
      refine j_iload_n C 2 dX5_number_23 rfl rfl ?_
      refine j_aload_n C 0 dX5_number_24 rfl rfl ?_
      refine j_getR C zK5 (zb_M hG) (zs_M hG) (f := 6) (by decide) rfl zk_X5_24 rfl (zf_M_6 hG) dX5_number_25 ?_
      refine j_iload_n C 1 dX5_number_28 rfl rfl ?_
      refine j_iald C (zb_rRow hG) (zs_rRow hG) (zl_rRow hG) rfl (by omega) (by decide) (nI (rc p)) hrcp dX5_number_29 ?_
      refine j_icmp_lt (tgt := 37) (a := ((q : Nat) : Int)) (b := ((rc p : Nat) : Int)) C (nI_toInt (by omega)) (nI_toInt (by omega)) dX5_number_30 (by decide) (fun c30 => ?_) (fun c30 => ?_)
      ·
        refine j_iconst C (nI 0) dX5_number_37 (by decide) ?_
        refine j_putI C hD zK5 (zb_M hG) (zs_M hG) (f := 0) (by decide) rfl zk_X5_72 rfl rfl rfl rfl dX5_number_38 ?_
        refine j_aload_n C 0 dX5_number_41 rfl rfl ?_
        refine j_getI C zK5 (zb_M hG) (zs_M hG) (f := 0) (by decide) rfl zk_X5_72 rfl (nI 0) zu_s dX5_number_42 ?_
        refine j_if_le (tgt := 52) (a := ((0 : Nat) : Int)) C (nI_toInt (by omega)) dX5_number_45 (by decide) (fun c45 => ?_) (fun c45 => absurd c45 (by omega))
        refine j_aload_n C 0 dX5_number_52 rfl rfl ?_
        refine j_getR C zK5 (zb_M hG) (zs_M hG) (f := 3) (by decide) rfl zk_X5_13 rfl (zf_M_3 hG) dX5_number_53 ?_
        refine j_bipush C (nI 40) dX5_number_56 (by decide) ?_
        refine j_iload_n C 1 dX5_number_58 rfl rfl ?_
        refine j_imul C (nI (40 * p)) dX5_number_59 (pk_mul 40 p) ?_
        refine j_iload_n C 2 dX5_number_60 rfl rfl ?_
        refine j_iadd C (nI (40 * p + q)) dX5_number_61 (nI_add (40 * p) q) ?_
        refine j_iald C (zb_rNum hG) (zs_rNum hG) (zl_rNum hG) rfl (by omega) (by decide) (Z (114) (40 * p + q)) (zu_o (by omega)) dX5_number_62 ?_
        refine j_iret C R dX5_number_63 ?_
        exact Or.inr ⟨p, hp, rfl, q, hq, rfl, Or.inr ⟨by omega, rfl, rfl⟩⟩
      ·
        refine j_iconst C (nI 2) dX5_number_33 (by decide) ?_
        refine j_goto (tgt := 38) C dX5_number_34 (by decide) ?_
        refine j_putI C hD zK5 (zb_M hG) (zs_M hG) (f := 0) (by decide) rfl zk_X5_72 rfl rfl rfl rfl dX5_number_38 ?_
        refine j_aload_n C 0 dX5_number_41 rfl rfl ?_
        refine j_getI C zK5 (zb_M hG) (zs_M hG) (f := 0) (by decide) rfl zk_X5_72 rfl (nI 2) zu_s dX5_number_42 ?_
        refine j_if_le (tgt := 52) (a := ((2 : Nat) : Int)) C (nI_toInt (by omega)) dX5_number_45 (by decide) (fun c45 => absurd c45 (by omega)) (fun c45 => ?_)
        refine j_iconst C (nI 0) dX5_number_48 (by decide) ?_
        refine j_goto (tgt := 63) C dX5_number_49 (by decide) ?_
        refine j_iret C R dX5_number_63 ?_
        exact Or.inr ⟨p, hp, rfl, q, hq, rfl, Or.inl ⟨by omega, rfl, rfl⟩⟩
    ·
      refine j_Z e13 ?_
      refine j_if_ne (tgt := 23) (a := ((0 : Nat) : Int)) C (nI_toInt (by omega)) dX5_number_16 (by decide) (fun c16 => absurd c16 (by omega)) (fun c16 => ?_)
      refine j_iconst C (nI 1) dX5_number_19 (by decide) ?_
      refine j_goto (tgt := 38) C dX5_number_20 (by decide) ?_
      refine j_putI C hD zK5 (zb_M hG) (zs_M hG) (f := 0) (by decide) rfl zk_X5_72 rfl rfl rfl rfl dX5_number_38 ?_
      refine j_aload_n C 0 dX5_number_41 rfl rfl ?_
      refine j_getI C zK5 (zb_M hG) (zs_M hG) (f := 0) (by decide) rfl zk_X5_72 rfl (nI 1) zu_s dX5_number_42 ?_
      refine j_if_le (tgt := 52) (a := ((1 : Nat) : Int)) C (nI_toInt (by omega)) dX5_number_45 (by decide) (fun c45 => absurd c45 (by omega)) (fun c45 => ?_)
      refine j_iconst C (nI 0) dX5_number_48 (by decide) ?_
      refine j_goto (tgt := 63) C dX5_number_49 (by decide) ?_
      refine j_iret C R dX5_number_63 ?_
      exact Or.inl ⟨by omega, rfl, rfl⟩
  ·
    refine j_Z e3 ?_
    refine j_if_eq (tgt := 19) (a := ((0 : Nat) : Int)) C (nI_toInt (by omega)) dX5_number_6 (by decide) (fun c6 => ?_) (fun c6 => absurd c6 (by omega))
    refine j_iconst C (nI 1) dX5_number_19 (by decide) ?_
    refine j_goto (tgt := 38) C dX5_number_20 (by decide) ?_
    refine j_putI C hD zK5 (zb_M hG) (zs_M hG) (f := 0) (by decide) rfl zk_X5_72 rfl rfl rfl rfl dX5_number_38 ?_
    refine j_aload_n C 0 dX5_number_41 rfl rfl ?_
    refine j_getI C zK5 (zb_M hG) (zs_M hG) (f := 0) (by decide) rfl zk_X5_72 rfl (nI 1) zu_s dX5_number_42 ?_
    refine j_if_le (tgt := 52) (a := ((1 : Nat) : Int)) C (nI_toInt (by omega)) dX5_number_45 (by decide) (fun c45 => absurd c45 (by omega)) (fun c45 => ?_)
    refine j_iconst C (nI 0) dX5_number_48 (by decide) ?_
    refine j_goto (tgt := 63) C dX5_number_49 (by decide) ?_
    refine j_iret C R dX5_number_63 ?_
    exact Or.inl ⟨by omega, rfl, rfl⟩
set_option maxRecDepth 100000 in
set_option maxHeartbeats 4000000 in
theorem kX5_rate {l : Launch} {D : va_G} {Y : YT} {b0 : Nat} {G : GT} (hD : GD b0 G) (hG : Gok 132 G) {Z : ZT} {Zi : ZT} (hZi : zu Zi 113 0 (nI 0) = Z) {np : Nat} (hnp : Z 113 1 = nI np) (hnp12 : np ≤ 12) (hsh : ∀ i, i < np → 1 ≤ (Z 119 i).toInt ∧ (Z 119 i).toInt ≤ 9) (p0 : Int32) : CI l D Y b0 G yX5_rate cX5_rate 4 (some .int) 2 [.ref (G.2.1 (113)), .int (p0)] Zi (fun r Z' => ((p0.toInt < 0 ∨ (np : Int) ≤ p0.toInt) ∧ r = (-11) ∧ Z' = Z) ∨ ∃ p : Nat, p < np ∧ p0 = nI p ∧ (((Z 121 (36 + p)).toInt = -1 ∧ r = nI 0 ∧ Z' = zu Z 113 0 (nI 1)) ∨ ((Z 121 (36 + p)).toInt ≠ -1 ∧ r = nI 1000 * Z 119 p / rsm (rbM Z p) (shM Z) (Z 119 p) np ∧ Z' = Z))) := by
  refine ci_start (lv0 := [(0, .ref (G.2.1 (113))), (1, .int (p0))]) hD rfl rfl (Nat.le_of_ble_eq_true rfl) rfl ?_
  intro E C R hR hD hN
  have L41 : ∀ (n : Nat) (p : Nat) (hp : p < np) (hp0 : p0 = nI p) (hre : (Z 121 (36 + p)).toInt ≠ -1) (k : Nat), np + 1 ≤ k + n → k ≤ np → J E 0 0 G 41 [(3, .int (nI k)), (2, .int (rsm (rbM Z p) (shM Z) (Z 119 p) k)), (0, .ref (G.2.1 (113))), (1, .int (nI p))] [] Z := by
    intro n
    induction n with
    | zero => intro p hp hp0 hre k hn hk; exact absurd hn (by omega)
    | succ n ih =>
      intro p hp hp0 hre k hn hk
      refine j_iload_n C 0 dX5_rate_41 rfl rfl ?_
      refine j_aload_n C 2 dX5_rate_42 rfl rfl ?_
      refine j_getI C zK5 (zb_M hG) (zs_M hG) (f := 1) (by decide) rfl zk_X5_75 rfl (nI np) hnp dX5_rate_43 ?_
      refine j_icmp_ge (tgt := 94) (a := ((k : Nat) : Int)) (b := ((np : Nat) : Int)) C (nI_toInt (by omega)) (nI_toInt (by omega)) dX5_rate_46 (by decide) (fun c46 => ?_) (fun c46 => ?_)
      ·
        have e9 : k = np := by omega
        subst e9
        have hbd := rsm_bd (b := rbM Z p) (s := shM Z) (a := Z 119 p) (m := k) hsh (hsh p hp) (Nat.le_refl k) (by omega)
        refine j_sipush C (nI 1000) dX5_rate_94 (by decide) ?_
        refine j_aload_n C 2 dX5_rate_97 rfl rfl ?_
        refine j_getR C zK5 (zb_M hG) (zs_M hG) (f := 8) (by decide) rfl zk_X5_30 rfl (zf_M_8 hG) dX5_rate_98 ?_
        refine j_iload_n C 3 dX5_rate_101 rfl rfl ?_
        refine j_iald C (zb_rSha hG) (zs_rSha hG) (zl_rSha hG) rfl (by omega) (by decide) (Z 119 p) rfl dX5_rate_102 ?_
        refine j_imul C ((nI 1000) * (Z 119 p)) dX5_rate_103 rfl ?_
        refine j_iload_n C 1 dX5_rate_104 rfl rfl ?_
        refine j_idiv C (((nI 1000) * (Z 119 p)) / (rsm (rbM Z p) (shM Z) (Z 119 p) k)) dX5_rate_105 (z_ne0 hbd.1) rfl ?_
        refine j_iret C R dX5_rate_106 ?_
        exact Or.inr ⟨p, hp, hp0, Or.inr ⟨hre, rfl, rfl⟩⟩
      ·
        refine j_iload_n C 1 dX5_rate_49 rfl rfl ?_
        refine j_iload_n C 0 dX5_rate_50 rfl rfl ?_
        refine j_iload_n C 3 dX5_rate_51 rfl rfl ?_
        refine j_icmp_eq (tgt := 85) (a := ((k : Nat) : Int)) (b := ((p : Nat) : Int)) C (nI_toInt (by omega)) (nI_toInt (by omega)) dX5_rate_52 (by decide) (fun c52 => ?_) (fun c52 => ?_)
        ·
          refine j_iconst C (nI 0) dX5_rate_85 (by decide) ?_
          refine j_iadd C ((rsm (rbM Z p) (shM Z) (Z 119 p) k) + (nI 0)) dX5_rate_86 rfl ?_
          refine j_istore_n (lv' := [(2, .int ((rsm (rbM Z p) (shM Z) (Z 119 p) k) + (nI 0))), (3, .int (nI k)), (0, .ref (G.2.1 (113))), (1, .int (nI p))]) C dX5_rate_87 rfl (by rw [hN]; decide) rfl ?_
          refine j_iinc (v := nI (k + 1)) (lv' := [(3, .int (nI (k + 1))), (2, .int ((rsm (rbM Z p) (shM Z) (Z 119 p) k) + (nI 0))), (0, .ref (G.2.1 (113))), (1, .int (nI p))]) C 1 dX5_rate_88 rfl (nI_add k 1) (by rw [hN]; decide) rfl ?_
          refine j_goto (tgt := 41) C dX5_rate_91 (by decide) ?_
          refine j_lv (lv' := [(3, .int (nI (k + 1))), (2, .int (rsm (rbM Z p) (shM Z) (Z 119 p) (k + 1))), (0, .ref (G.2.1 (113))), (1, .int (nI p))]) (by first | rw [rsm_t hrb] | rw [rsm_f0 hrb] | rw [rsm_f0 (show rbM Z p k = false from decide_eq_false (fun q => q.1 (by omega)))] | rw [rsm_f0 (show rbM Z p k = false from decide_eq_false (fun q => absurd q.2.1 (by omega)))]) ?_
          exact ih p hp hp0 hre (k + 1) (by omega) (by omega)
        ·
          refine j_aload_n C 2 dX5_rate_55 rfl rfl ?_
          refine j_iload_n C 0 dX5_rate_56 rfl rfl ?_
          refine j_callI C hR (kX5_reader hD hG (i := k) (by omega) (re := Z (121) (36 + k)) rfl) [.int (rsm (rbM Z p) (shM Z) (Z 119 p) k)] zmX5_reader zk_X5_105 zK5 (zb_M hG) (zs_M hG) (by decide) rfl rfl (Nat.le_of_ble_eq_true rfl) dX5_rate_57 (fun r57 Z57 h57 => ?_)
          obtain ⟨h57, rfl⟩ := h57
          refine j_Z (Z' := Z) h57 ?_
          refine j_aload_n C 2 dX5_rate_60 rfl rfl ?_
          refine j_iload_n C 3 dX5_rate_61 rfl rfl ?_
          refine j_callI C hR (kX5_reader hD hG (i := p) (by omega) (re := Z (121) (36 + p)) rfl) [.int (Z (121) (36 + k)), .int (rsm (rbM Z p) (shM Z) (Z 119 p) k)] zmX5_reader zk_X5_105 zK5 (zb_M hG) (zs_M hG) (by decide) rfl rfl (Nat.le_of_ble_eq_true rfl) dX5_rate_62 (fun r62 Z62 h62 => ?_)
          obtain ⟨h62, rfl⟩ := h62
          refine j_Z (Z' := Z) h62 ?_
          refine j_icmp_ne (tgt := 85) (a := (Z (121) (36 + k)).toInt) (b := (Z (121) (36 + p)).toInt) C rfl rfl dX5_rate_65 (by decide) (fun c65 => ?_) (fun c65 => ?_)
          ·
            refine j_iconst C (nI 0) dX5_rate_85 (by decide) ?_
            refine j_iadd C ((rsm (rbM Z p) (shM Z) (Z 119 p) k) + (nI 0)) dX5_rate_86 rfl ?_
            refine j_istore_n (lv' := [(2, .int ((rsm (rbM Z p) (shM Z) (Z 119 p) k) + (nI 0))), (3, .int (nI k)), (0, .ref (G.2.1 (113))), (1, .int (nI p))]) C dX5_rate_87 rfl (by rw [hN]; decide) rfl ?_
            refine j_iinc (v := nI (k + 1)) (lv' := [(3, .int (nI (k + 1))), (2, .int ((rsm (rbM Z p) (shM Z) (Z 119 p) k) + (nI 0))), (0, .ref (G.2.1 (113))), (1, .int (nI p))]) C 1 dX5_rate_88 rfl (nI_add k 1) (by rw [hN]; decide) rfl ?_
            refine j_goto (tgt := 41) C dX5_rate_91 (by decide) ?_
            refine j_lv (lv' := [(3, .int (nI (k + 1))), (2, .int (rsm (rbM Z p) (shM Z) (Z 119 p) (k + 1))), (0, .ref (G.2.1 (113))), (1, .int (nI p))]) (by first | rw [rsm_t hrb] | rw [rsm_f0 hrb] | rw [rsm_f0 (show rbM Z p k = false from decide_eq_false (fun q => q.1 (by omega)))] | rw [rsm_f0 (show rbM Z p k = false from decide_eq_false (fun q => absurd q.2.1 (by omega)))]) ?_
            exact ih p hp hp0 hre (k + 1) (by omega) (by omega)
          ·
            refine j_aload_n C 2 dX5_rate_68 rfl rfl ?_
            refine j_iload_n C 0 dX5_rate_69 rfl rfl ?_
            refine j_callI C hR (kX5_isReady hD hG (i := k) (by omega) (rc := Z 117 k) (rcI := (Z 117 k).toInt) rfl rfl (po := Z 121 k) (poI := (Z 121 k).toInt) rfl rfl) [.int (rsm (rbM Z p) (shM Z) (Z 119 p) k)] zmX5_isReady zk_X5_82 zK5 (zb_M hG) (zs_M hG) (by decide) rfl rfl (Nat.le_of_ble_eq_true rfl) dX5_rate_70 (fun r70 Z70 h70 => ?_)
            obtain ⟨e70, ⟨rfl, h70⟩ | ⟨rfl, h70⟩⟩ := h70
            ·
              refine j_Z e70 ?_
              have hrb : rbM Z p k = true := decide_eq_true (by omega)
              refine j_if_eq (tgt := 85) (a := ((1 : Nat) : Int)) C (nI_toInt (by omega)) dX5_rate_73 (by decide) (fun c73 => absurd c73 (by omega)) (fun c73 => ?_)
              refine j_aload_n C 2 dX5_rate_76 rfl rfl ?_
              refine j_getR C zK5 (zb_M hG) (zs_M hG) (f := 8) (by decide) rfl zk_X5_30 rfl (zf_M_8 hG) dX5_rate_77 ?_
              refine j_iload_n C 0 dX5_rate_80 rfl rfl ?_
              refine j_iald C (zb_rSha hG) (zs_rSha hG) (zl_rSha hG) rfl (by omega) (by decide) (Z 119 k) rfl dX5_rate_81 ?_
              refine j_goto (tgt := 86) C dX5_rate_82 (by decide) ?_
              refine j_iadd C ((rsm (rbM Z p) (shM Z) (Z 119 p) k) + (Z 119 k)) dX5_rate_86 rfl ?_
              refine j_istore_n (lv' := [(2, .int ((rsm (rbM Z p) (shM Z) (Z 119 p) k) + (Z 119 k))), (3, .int (nI k)), (0, .ref (G.2.1 (113))), (1, .int (nI p))]) C dX5_rate_87 rfl (by rw [hN]; decide) rfl ?_
              refine j_iinc (v := nI (k + 1)) (lv' := [(3, .int (nI (k + 1))), (2, .int ((rsm (rbM Z p) (shM Z) (Z 119 p) k) + (Z 119 k))), (0, .ref (G.2.1 (113))), (1, .int (nI p))]) C 1 dX5_rate_88 rfl (nI_add k 1) (by rw [hN]; decide) rfl ?_
              refine j_goto (tgt := 41) C dX5_rate_91 (by decide) ?_
              refine j_lv (lv' := [(3, .int (nI (k + 1))), (2, .int (rsm (rbM Z p) (shM Z) (Z 119 p) (k + 1))), (0, .ref (G.2.1 (113))), (1, .int (nI p))]) (by first | rw [rsm_t hrb] | rw [rsm_f0 hrb] | rw [rsm_f0 (show rbM Z p k = false from decide_eq_false (fun q => q.1 (by omega)))] | rw [rsm_f0 (show rbM Z p k = false from decide_eq_false (fun q => absurd q.2.1 (by omega)))]) ?_
              exact ih p hp hp0 hre (k + 1) (by omega) (by omega)
            ·
              refine j_Z e70 ?_
              have hrb : rbM Z p k = false := decide_eq_false (by omega)
              refine j_if_eq (tgt := 85) (a := ((0 : Nat) : Int)) C (nI_toInt (by omega)) dX5_rate_73 (by decide) (fun c73 => ?_) (fun c73 => absurd c73 (by omega))
              refine j_iconst C (nI 0) dX5_rate_85 (by decide) ?_
              refine j_iadd C ((rsm (rbM Z p) (shM Z) (Z 119 p) k) + (nI 0)) dX5_rate_86 rfl ?_
              refine j_istore_n (lv' := [(2, .int ((rsm (rbM Z p) (shM Z) (Z 119 p) k) + (nI 0))), (3, .int (nI k)), (0, .ref (G.2.1 (113))), (1, .int (nI p))]) C dX5_rate_87 rfl (by rw [hN]; decide) rfl ?_
              refine j_iinc (v := nI (k + 1)) (lv' := [(3, .int (nI (k + 1))), (2, .int ((rsm (rbM Z p) (shM Z) (Z 119 p) k) + (nI 0))), (0, .ref (G.2.1 (113))), (1, .int (nI p))]) C 1 dX5_rate_88 rfl (nI_add k 1) (by rw [hN]; decide) rfl ?_
              refine j_goto (tgt := 41) C dX5_rate_91 (by decide) ?_
              refine j_lv (lv' := [(3, .int (nI (k + 1))), (2, .int (rsm (rbM Z p) (shM Z) (Z 119 p) (k + 1))), (0, .ref (G.2.1 (113))), (1, .int (nI p))]) (by first | rw [rsm_t hrb] | rw [rsm_f0 hrb] | rw [rsm_f0 (show rbM Z p k = false from decide_eq_false (fun q => q.1 (by omega)))] | rw [rsm_f0 (show rbM Z p k = false from decide_eq_false (fun q => absurd q.2.1 (by omega)))]) ?_
              exact ih p hp hp0 hre (k + 1) (by omega) (by omega)
  refine j_aload_n C 0 dX5_rate_0 rfl rfl ?_
  refine j_iconst C (nI 0) dX5_rate_1 (by decide) ?_
  refine j_putI C hD zK5 (zb_M hG) (zs_M hG) (f := 0) (by decide) rfl zk_X5_72 rfl rfl rfl rfl dX5_rate_2 ?_
  refine j_Z hZi ?_
  refine j_aload_n C 0 dX5_rate_5 rfl rfl ?_
  refine j_iload_n C 1 dX5_rate_6 rfl rfl ?_
  refine j_callI C hR (kX5_isPart hD hG (np := np) hnp (by omega) (p0 := p0) (b := (p0).toInt) rfl) [] zmX5_isPart zk_X5_94 zK5 (zb_M hG) (zs_M hG) (by decide) rfl rfl (Nat.le_of_ble_eq_true rfl) dX5_rate_7 (fun r7 Z7 h7 => ?_)
  obtain ⟨e7, ⟨rfl, h7⟩ | ⟨rfl, h7⟩⟩ := h7
  ·
    refine j_Z e7 ?_
    refine j_if_ne (tgt := 16) (a := ((1 : Nat) : Int)) C (nI_toInt (by omega)) dX5_rate_10 (by decide) (fun c10 => ?_) (fun c10 => absurd c10 (by omega))
    obtain ⟨p, hp, rfl⟩ := zi_nat (x := p0) (n := np) (by omega) (by omega)
    refine j_aload_n C 0 dX5_rate_16 rfl rfl ?_
    refine j_iload_n C 1 dX5_rate_17 rfl rfl ?_
    refine j_callI C hR (kX5_reader hD hG (i := p) (by omega) (re := Z (121) (36 + p)) rfl) [] zmX5_reader zk_X5_105 zK5 (zb_M hG) (zs_M hG) (by decide) rfl rfl (Nat.le_of_ble_eq_true rfl) dX5_rate_18 (fun r18 Z18 h18 => ?_)
    obtain ⟨h18, rfl⟩ := h18
    refine j_Z (Z' := Z) h18 ?_
    refine j_iconst C (-1) dX5_rate_21 (by decide) ?_
    refine j_icmp_ne (tgt := 32) (a := (Z (121) (36 + p)).toInt) (b := -1) C rfl (show ((-1 : Int32)).toInt = -1 by decide) dX5_rate_22 (by decide) (fun c22 => ?_) (fun c22 => ?_)
    ·
      have hre : (Z 121 (36 + p)).toInt ≠ -1 := by omega
      refine j_aload_n C 0 dX5_rate_32 rfl rfl ?_
      refine j_getR C zK5 (zb_M hG) (zs_M hG) (f := 8) (by decide) rfl zk_X5_30 rfl (zf_M_8 hG) dX5_rate_33 ?_
      refine j_iload_n C 1 dX5_rate_36 rfl rfl ?_
      refine j_iald C (zb_rSha hG) (zs_rSha hG) (zl_rSha hG) rfl (by omega) (by decide) (Z 119 p) rfl dX5_rate_37 ?_
      refine j_istore_n (lv' := [(2, .int (Z 119 p)), (0, .ref (G.2.1 (113))), (1, .int (nI p))]) C dX5_rate_38 rfl (by rw [hN]; decide) rfl ?_
      refine j_iconst C (nI 0) dX5_rate_39 (by decide) ?_
      refine j_istore_n (lv' := [(3, .int (nI 0)), (2, .int (Z 119 p)), (0, .ref (G.2.1 (113))), (1, .int (nI p))]) C dX5_rate_40 rfl (by rw [hN]; decide) rfl ?_
      refine j_lv (lv' := [(3, .int (nI 0)), (2, .int (rsm (rbM Z p) (shM Z) (Z 119 p) 0)), (0, .ref (G.2.1 (113))), (1, .int (nI p))]) rfl ?_
      exact L41 (np + 1) p hp rfl hre 0 (by omega) (by omega)
    ·
      refine j_aload_n C 0 dX5_rate_25 rfl rfl ?_
      refine j_iconst C (nI 1) dX5_rate_26 (by decide) ?_
      refine j_putI C hD zK5 (zb_M hG) (zs_M hG) (f := 0) (by decide) rfl zk_X5_72 rfl rfl rfl rfl dX5_rate_27 ?_
      refine j_iconst C (nI 0) dX5_rate_30 (by decide) ?_
      refine j_iret C R dX5_rate_31 ?_
      exact Or.inr ⟨p, hp, rfl, Or.inl ⟨by omega, rfl, rfl⟩⟩
  ·
    refine j_Z e7 ?_
    refine j_if_ne (tgt := 16) (a := ((0 : Nat) : Int)) C (nI_toInt (by omega)) dX5_rate_10 (by decide) (fun c10 => absurd c10 (by omega)) (fun c10 => ?_)
    refine j_bipush C (-11) dX5_rate_13 (by decide) ?_
    refine j_iret C R dX5_rate_15 ?_
    exact Or.inl ⟨by omega, rfl, rfl⟩
