theorem zi_nat {x : Int32} {n : Nat} (h0 : 0 ≤ x.toInt) (h1 : x.toInt < (n : Int)) : ∃ j : Nat, j < n ∧ x = nI j := by
  obtain ⟨j, hj, e⟩ := nI_of (x := x) (fun z => by have := Int32.lt_iff_toInt_lt.mp z; have e0 : (0 : Int32).toInt = 0 := rfl; omega)
  refine ⟨j, ?_, e⟩
  rw [e, nI_toInt hj] at h1
  omega
def zsum (f : Nat → Int32) : Nat → Int32
  | 0 => 0
  | n + 1 => zsum f n + f n
def zcn (f : Nat → Bool) : Nat → Nat
  | 0 => 0
  | n + 1 => if f n = true then zcn f n + 1 else zcn f n
theorem zcn_t {f : Nat → Bool} {n : Nat} (h : f n = true) : zcn f (n + 1) = zcn f n + 1 := by simp [zcn, h]
theorem zcn_f {f : Nat → Bool} {n : Nat} (h : f n = false) : zcn f (n + 1) = zcn f n := by simp [zcn, h]
theorem zcn_le (f : Nat → Bool) : ∀ n, zcn f n ≤ n := by
  intro n
  induction n with
  | zero => exact Nat.le_refl _
  | succ n ih => by_cases h : f n = true <;> simp [zcn, h] <;> omega
theorem zcn_congr {f g : Nat → Bool} : ∀ {n : Nat}, (∀ i, i < n → f i = g i) → zcn f n = zcn g n := by
  intro n
  induction n with
  | zero => intro _; rfl
  | succ n ih => intro h; simp [zcn, h n (by omega), ih (fun i hi => h i (by omega))]
theorem zsum_congr {f g : Nat → Int32} : ∀ {n : Nat}, (∀ i, i < n → f i = g i) → zsum f n = zsum g n := by
  intro n
  induction n with
  | zero => intro _; rfl
  | succ n ih => intro h; simp [zsum, h n (by omega), ih (fun i hi => h i (by omega))]
def dnz (en po rc : Int32) : Bool := decide (en.toInt ≠ 0 ∧ rc.toInt ≤ po.toInt)
def rdz (po rc : Int32) : Bool := decide (po.toInt < rc.toInt)
abbrev dnC (Z : ZT) (i : Nat) : Bool := dnz (Z (11 + 4 * i) 4) (Z (11 + 4 * i) 5) (Z (11 + 4 * i) 3)
abbrev rdC (Z : ZT) (i : Nat) : Bool := rdz (Z (11 + 4 * i) 5) (Z (11 + 4 * i) 3)
set_option maxRecDepth 100000 in
set_option maxHeartbeats 4000000 in
theorem kX4_isPart {l : Launch} {D : va_G} {Y : YT} {b0 : Nat} {G : GT} (hD : GD b0 G) (hG : Gok 113 G) {Z : ZT} {np : Int32} {npI : Int} (hnp : Z 0 5 = np) (hnpI : np.toInt = npI) {p0 : Int32} {b : Int} (hb : p0.toInt = b) : CI l D Y b0 G yX4_isPart cX4_isPart 2 (some .boolean) 0 [.ref (G.2.1 (0)), .int (p0)] Z (fun r Z' => Z' = Z ∧ (r = nI 1 ∧ (0 ≤ b ∧ b < npI) ∨ r = nI 0 ∧ (b < 0 ∨ npI ≤ b))) := by
  refine ci_start (lv0 := [(0, .ref (G.2.1 (0))), (1, .int (p0))]) hD rfl rfl (Nat.le_of_ble_eq_true rfl) rfl ?_
  intro E C R hR hD hN
  refine j_iload_n C 1 dX4_isPart_0 rfl rfl ?_
  refine j_if_lt (tgt := 16) (a := b) C hb dX4_isPart_1 (by decide) (fun c1 => ?_) (fun c1 => ?_)
  ·
    refine j_iconst C (nI 0) dX4_isPart_16 (by decide) ?_
    refine j_zret C R (by decide) dX4_isPart_17 ?_
    exact ⟨rfl, by first | exact Or.inl ⟨rfl, by omega⟩ | exact Or.inr ⟨rfl, by omega⟩⟩
  ·
    refine j_iload_n C 1 dX4_isPart_4 rfl rfl ?_
    refine j_aload_n C 0 dX4_isPart_5 rfl rfl ?_
    refine j_getI C zK4 (zb_X hG) (zs_X hG) (f := 5) (by decide) rfl zk_X4_44 rfl (np) hnp dX4_isPart_6 ?_
    refine j_icmp_ge (tgt := 16) (a := b) (b := npI) C hb hnpI dX4_isPart_9 (by decide) (fun c9 => ?_) (fun c9 => ?_)
    ·
      refine j_iconst C (nI 0) dX4_isPart_16 (by decide) ?_
      refine j_zret C R (by decide) dX4_isPart_17 ?_
      exact ⟨rfl, by first | exact Or.inl ⟨rfl, by omega⟩ | exact Or.inr ⟨rfl, by omega⟩⟩
    ·
      refine j_iconst C (nI 1) dX4_isPart_12 (by decide) ?_
      refine j_goto (tgt := 17) C dX4_isPart_13 (by decide) ?_
      refine j_zret C R (by decide) dX4_isPart_17 ?_
      exact ⟨rfl, by first | exact Or.inl ⟨rfl, by omega⟩ | exact Or.inr ⟨rfl, by omega⟩⟩
set_option maxRecDepth 100000 in
set_option maxHeartbeats 4000000 in
theorem kX4_isTask {l : Launch} {D : va_G} {Y : YT} {b0 : Nat} {G : GT} (hD : GD b0 G) (hG : Gok 113 G) {Z : ZT} {nt : Int32} {ntI : Int} (hnt : Z 0 7 = nt) (hntI : nt.toInt = ntI) {p0 : Int32} {b : Int} (hb : p0.toInt = b) : CI l D Y b0 G yX4_isTask cX4_isTask 2 (some .boolean) 0 [.ref (G.2.1 (0)), .int (p0)] Z (fun r Z' => Z' = Z ∧ (r = nI 1 ∧ (0 ≤ b ∧ b < ntI) ∨ r = nI 0 ∧ (b < 0 ∨ ntI ≤ b))) := by
  refine ci_start (lv0 := [(0, .ref (G.2.1 (0))), (1, .int (p0))]) hD rfl rfl (Nat.le_of_ble_eq_true rfl) rfl ?_
  intro E C R hR hD hN
  refine j_iload_n C 1 dX4_isTask_0 rfl rfl ?_
  refine j_if_lt (tgt := 16) (a := b) C hb dX4_isTask_1 (by decide) (fun c1 => ?_) (fun c1 => ?_)
  ·
    refine j_iconst C (nI 0) dX4_isTask_16 (by decide) ?_
    refine j_zret C R (by decide) dX4_isTask_17 ?_
    exact ⟨rfl, by first | exact Or.inl ⟨rfl, by omega⟩ | exact Or.inr ⟨rfl, by omega⟩⟩
  ·
    refine j_iload_n C 1 dX4_isTask_4 rfl rfl ?_
    refine j_aload_n C 0 dX4_isTask_5 rfl rfl ?_
    refine j_getI C zK4 (zb_X hG) (zs_X hG) (f := 7) (by decide) rfl zk_X4_114 rfl (nt) hnt dX4_isTask_6 ?_
    refine j_icmp_ge (tgt := 16) (a := b) (b := ntI) C hb hntI dX4_isTask_9 (by decide) (fun c9 => ?_) (fun c9 => ?_)
    ·
      refine j_iconst C (nI 0) dX4_isTask_16 (by decide) ?_
      refine j_zret C R (by decide) dX4_isTask_17 ?_
      exact ⟨rfl, by first | exact Or.inl ⟨rfl, by omega⟩ | exact Or.inr ⟨rfl, by omega⟩⟩
    ·
      refine j_iconst C (nI 1) dX4_isTask_12 (by decide) ?_
      refine j_goto (tgt := 17) C dX4_isTask_13 (by decide) ?_
      refine j_zret C R (by decide) dX4_isTask_17 ?_
      exact ⟨rfl, by first | exact Or.inl ⟨rfl, by omega⟩ | exact Or.inr ⟨rfl, by omega⟩⟩
set_option maxRecDepth 100000 in
set_option maxHeartbeats 4000000 in
theorem kX4_isTime {l : Launch} {D : va_G} {Y : YT} {b0 : Nat} {G : GT} (hD : GD b0 G) (hG : Gok 113 G) {Z : ZT} {p0 : Int32} {b : Int} (hb : p0.toInt = b) : CI l D Y b0 G yX4_isTime cX4_isTime 1 (some .boolean) 0 [.int (p0)] Z (fun r Z' => Z' = Z ∧ (r = nI 1 ∧ (0 ≤ b ∧ b ≤ 100000) ∨ r = nI 0 ∧ (b < 0 ∨ 100000 < b))) := by
  refine ci_start (lv0 := [(0, .int (p0))]) hD rfl rfl (Nat.le_of_ble_eq_true rfl) rfl ?_
  intro E C R hR hD hN
  refine j_iload_n C 0 dX4_isTime_0 rfl rfl ?_
  refine j_if_lt (tgt := 14) (a := b) C hb dX4_isTime_1 (by decide) (fun c1 => ?_) (fun c1 => ?_)
  ·
    refine j_iconst C (nI 0) dX4_isTime_14 (by decide) ?_
    refine j_zret C R (by decide) dX4_isTime_15 ?_
    exact ⟨rfl, by first | exact Or.inl ⟨rfl, by omega⟩ | exact Or.inr ⟨rfl, by omega⟩⟩
  ·
    refine j_iload_n C 0 dX4_isTime_4 rfl rfl ?_
    refine j_ldc C (nI 100000) zk_X4_209 dX4_isTime_5 ?_
    refine j_icmp_gt (tgt := 14) (a := b) (b := ((100000 : Nat) : Int)) C hb (nI_toInt (by omega)) dX4_isTime_7 (by decide) (fun c7 => ?_) (fun c7 => ?_)
    ·
      refine j_iconst C (nI 0) dX4_isTime_14 (by decide) ?_
      refine j_zret C R (by decide) dX4_isTime_15 ?_
      exact ⟨rfl, by first | exact Or.inl ⟨rfl, by omega⟩ | exact Or.inr ⟨rfl, by omega⟩⟩
    ·
      refine j_iconst C (nI 1) dX4_isTime_10 (by decide) ?_
      refine j_goto (tgt := 15) C dX4_isTime_11 (by decide) ?_
      refine j_zret C R (by decide) dX4_isTime_15 ?_
      exact ⟨rfl, by first | exact Or.inl ⟨rfl, by omega⟩ | exact Or.inr ⟨rfl, by omega⟩⟩
set_option maxRecDepth 100000 in
set_option maxHeartbeats 4000000 in
theorem kX4_addPart {l : Launch} {D : va_G} {Y : YT} {b0 : Nat} {G : GT} (hD : GD b0 G) (hG : Gok 113 G) {Z : ZT} {np : Nat} (hnp : Z 0 5 = nI np) (hnp12 : np < 12) (p0 p1 : Int32) : CI l D Y b0 G yX4_addPart cX4_addPart 3 (some .int) 2 [.ref (G.2.1 (0)), .int (p0), .int (p1)] Z (fun r Z' => Z' = (zu (zu (zu (zu (zu (zu (zu (zu (zu Z (11 + 4 * np) (3) (nI 0)) (11 + 4 * np) (4) (nI 0)) (11 + 4 * np) (8) (p0)) (11 + 4 * np) (10) (p1)) (11 + 4 * np) (9) (-1)) (11 + 4 * np) (5) (nI 0)) (11 + 4 * np) (6) (-1)) (11 + 4 * np) (7) (nI 0)) (0) (5) (nI (np + 1))) ∧ r = nI np) := by
  refine ci_start (lv0 := [(0, .ref (G.2.1 (0))), (1, .int (p0)), (2, .int (p1))]) hD rfl rfl (Nat.le_of_ble_eq_true rfl) rfl ?_
  intro E C R hR hD hN
  refine j_aload_n C 0 dX4_addPart_0 rfl rfl ?_
  refine j_getR C zK4 (zb_X hG) (zs_X hG) (f := 0) (by decide) rfl zk_X4_11 rfl (zf_X_0 hG) dX4_addPart_1 ?_
  refine j_aload_n C 0 dX4_addPart_4 rfl rfl ?_
  refine j_getI C zK4 (zb_X hG) (zs_X hG) (f := 5) (by decide) rfl zk_X4_44 rfl (nI np) hnp dX4_addPart_5 ?_
  refine j_aldP C (zb_Pts hG) (zs_Pts hG) (zl_Pts hG) rfl (by omega) (by decide) (zf_Pts hG (by omega)) dX4_addPart_8 ?_
  refine j_iload_n C 1 dX4_addPart_9 rfl rfl ?_
  refine j_iload_n C 2 dX4_addPart_10 rfl rfl ?_
  refine j_callVN C hR (kX3_beginAnew hD hG (i := np)  (by omega) (p0) (p1)) [] zmX3_beginAnew zk_X4_210 zK3 (zb_Part hG (by omega)) (zs_Part hG (by omega)) (by decide) rfl rfl (Nat.le_of_ble_eq_true rfl) dX4_addPart_11 (fun Z11 h11 => ?_)
  refine j_Z (Z' := (zu (zu (zu (zu (zu (zu (zu (zu Z (11 + 4 * np) (3) (nI 0)) (11 + 4 * np) (4) (nI 0)) (11 + 4 * np) (8) (p0)) (11 + 4 * np) (10) (p1)) (11 + 4 * np) (9) (-1)) (11 + 4 * np) (5) (nI 0)) (11 + 4 * np) (6) (-1)) (11 + 4 * np) (7) (nI 0))) h11 ?_
  refine j_aload_n C 0 dX4_addPart_14 rfl rfl ?_
  refine j_dup C dX4_addPart_15 rfl ?_
  refine j_getI C zK4 (zb_X hG) (zs_X hG) (f := 5) (by decide) rfl zk_X4_44 rfl (nI np) ((zu_o (by omega)).trans ((zu_o (by omega)).trans ((zu_o (by omega)).trans ((zu_o (by omega)).trans ((zu_o (by omega)).trans ((zu_o (by omega)).trans ((zu_o (by omega)).trans ((zu_o (by omega)).trans (hnp))))))))) dX4_addPart_16 ?_
  refine j_iconst C (nI 1) dX4_addPart_19 (by decide) ?_
  refine j_iadd C (nI (np + 1)) dX4_addPart_20 (nI_add np 1) ?_
  refine j_putI C hD zK4 (zb_X hG) (zs_X hG) (f := 5) (by decide) rfl zk_X4_44 rfl rfl rfl rfl dX4_addPart_21 ?_
  refine j_aload_n C 0 dX4_addPart_24 rfl rfl ?_
  refine j_getI C zK4 (zb_X hG) (zs_X hG) (f := 5) (by decide) rfl zk_X4_44 rfl (nI (np + 1)) zu_s dX4_addPart_25 ?_
  refine j_iconst C (nI 1) dX4_addPart_28 (by decide) ?_
  refine j_isub C (nI np) dX4_addPart_29 (pk_sub (by omega)) ?_
  refine j_iret C R dX4_addPart_30 ?_
  exact ⟨rfl, rfl⟩
set_option maxRecDepth 100000 in
set_option maxHeartbeats 4000000 in
theorem kX4_part {l : Launch} {D : va_G} {Y : YT} {b0 : Nat} {G : GT} (hD : GD b0 G) (hG : Gok 113 G) {Z : ZT} {np : Nat} (hnp : Z 0 5 = nI np) (hnp12 : np ≤ 12) (p0 : Int32) : CI l D Y b0 G yX4_part cX4_part 2 (some .int) 3 [.ref (G.2.1 (0)), .int (p0)] Z (fun r Z' => ((p0.toInt < 1 ∨ 9 < p0.toInt) ∧ r = (-12) ∧ Z' = Z) ∨ ((1 ≤ p0.toInt ∧ p0.toInt ≤ 9 ∧ 12 ≤ np) ∧ r = (-14) ∧ Z' = Z) ∨ ((1 ≤ p0.toInt ∧ p0.toInt ≤ 9 ∧ np < 12) ∧ r = nI np ∧ Z' = (zu (zu (zu (zu (zu (zu (zu (zu (zu Z (11 + 4 * np) (3) (nI 0)) (11 + 4 * np) (4) (nI 0)) (11 + 4 * np) (8) (p0)) (11 + 4 * np) (10) (-1)) (11 + 4 * np) (9) (-1)) (11 + 4 * np) (5) (nI 0)) (11 + 4 * np) (6) (-1)) (11 + 4 * np) (7) (nI 0)) (0) (5) (nI (np + 1))))) := by
  refine ci_start (lv0 := [(0, .ref (G.2.1 (0))), (1, .int (p0))]) hD rfl rfl (Nat.le_of_ble_eq_true rfl) rfl ?_
  intro E C R hR hD hN
  refine j_iload_n C 1 dX4_part_0 rfl rfl ?_
  refine j_iconst C (nI 1) dX4_part_1 (by decide) ?_
  refine j_icmp_lt (tgt := 11) (a := (p0).toInt) (b := ((1 : Nat) : Int)) C rfl (nI_toInt (by omega)) dX4_part_2 (by decide) (fun c2 => ?_) (fun c2 => ?_)
  ·
    refine j_bipush C (-12) dX4_part_11 (by decide) ?_
    refine j_iret C R dX4_part_13 ?_
    first | exact Or.inl ⟨by omega, rfl, rfl⟩ | exact Or.inr (Or.inl ⟨by omega, rfl, rfl⟩) | exact Or.inr (Or.inr (⟨by omega, rfl, rfl⟩))
  ·
    refine j_iload_n C 1 dX4_part_5 rfl rfl ?_
    refine j_bipush C (nI 9) dX4_part_6 (by decide) ?_
    refine j_icmp_le (tgt := 14) (a := (p0).toInt) (b := ((9 : Nat) : Int)) C rfl (nI_toInt (by omega)) dX4_part_8 (by decide) (fun c8 => ?_) (fun c8 => ?_)
    ·
      refine j_aload_n C 0 dX4_part_14 rfl rfl ?_
      refine j_getI C zK4 (zb_X hG) (zs_X hG) (f := 5) (by decide) rfl zk_X4_44 rfl (nI np) hnp dX4_part_15 ?_
      refine j_bipush C (nI 12) dX4_part_18 (by decide) ?_
      refine j_icmp_lt (tgt := 26) (a := ((np : Nat) : Int)) (b := ((12 : Nat) : Int)) C (nI_toInt (by omega)) (nI_toInt (by omega)) dX4_part_20 (by decide) (fun c20 => ?_) (fun c20 => ?_)
      ·
        refine j_aload_n C 0 dX4_part_26 rfl rfl ?_
        refine j_iload_n C 1 dX4_part_27 rfl rfl ?_
        refine j_iconst C (-1) dX4_part_28 (by decide) ?_
        refine j_callI C hR (kX4_addPart hD hG (np := np) hnp (by omega) (p0) (-1)) [] zmX4_addPart zk_X4_48 zK4 (zb_X hG) (zs_X hG) (by decide) rfl rfl (Nat.le_of_ble_eq_true rfl) dX4_part_29 (fun r29 Z29 h29 => ?_)
        obtain ⟨h29, rfl⟩ := h29
        refine j_Z (Z' := (zu (zu (zu (zu (zu (zu (zu (zu (zu Z (11 + 4 * np) (3) (nI 0)) (11 + 4 * np) (4) (nI 0)) (11 + 4 * np) (8) (p0)) (11 + 4 * np) (10) (-1)) (11 + 4 * np) (9) (-1)) (11 + 4 * np) (5) (nI 0)) (11 + 4 * np) (6) (-1)) (11 + 4 * np) (7) (nI 0)) (0) (5) (nI (np + 1)))) h29 ?_
        refine j_iret C R dX4_part_32 ?_
        first | exact Or.inl ⟨by omega, rfl, rfl⟩ | exact Or.inr (Or.inl ⟨by omega, rfl, rfl⟩) | exact Or.inr (Or.inr (⟨by omega, rfl, rfl⟩))
      ·
        refine j_bipush C (-14) dX4_part_23 (by decide) ?_
        refine j_iret C R dX4_part_25 ?_
        first | exact Or.inl ⟨by omega, rfl, rfl⟩ | exact Or.inr (Or.inl ⟨by omega, rfl, rfl⟩) | exact Or.inr (Or.inr (⟨by omega, rfl, rfl⟩))
    ·
      refine j_bipush C (-12) dX4_part_11 (by decide) ?_
      refine j_iret C R dX4_part_13 ?_
      first | exact Or.inl ⟨by omega, rfl, rfl⟩ | exact Or.inr (Or.inl ⟨by omega, rfl, rfl⟩) | exact Or.inr (Or.inr (⟨by omega, rfl, rfl⟩))
set_option maxRecDepth 100000 in
set_option maxHeartbeats 4000000 in
theorem kX4_row {l : Launch} {D : va_G} {Y : YT} {b0 : Nat} {G : GT} (hD : GD b0 G) (hG : Gok 113 G) {Z : ZT} {np : Nat} (hnp : Z 0 5 = nI np) (hnp12 : np ≤ 12) {rc : Nat → Nat} (hrc : ∀ i, i < np → Z (11 + 4 * i) 3 = nI (rc i) ∧ rc i ≤ 40) (p0 p1 p2 : Int32) {p3 : Int32} (hz : p3 = 0 ∨ p3 = 1) : CI l D Y b0 G yX4_row cX4_row 6 (some .int) 1 [.ref (G.2.1 (0)), .int (p0), .int (p1), .int (p2), .int (p3)] Z (fun r Z' => ((p0.toInt < 0 ∨ (np : Int) ≤ p0.toInt) ∧ r = (-11) ∧ Z' = Z) ∨ ∃ p : Nat, p < np ∧ p0 = nI p ∧ (((p1.toInt < 0 ∨ 255 < p1.toInt ∨ p2.toInt < 0 ∨ 100000 < p2.toInt) ∧ r = (-12) ∧ Z' = Z) ∨ ((0 ≤ p1.toInt ∧ p1.toInt ≤ 255 ∧ 0 ≤ p2.toInt ∧ p2.toInt ≤ 100000 ∧ (Z (11 + 4 * p) 4).toInt ≠ 0) ∧ r = (-13) ∧ Z' = Z) ∨ ((0 ≤ p1.toInt ∧ p1.toInt ≤ 255 ∧ 0 ≤ p2.toInt ∧ p2.toInt ≤ 100000 ∧ (Z (11 + 4 * p) 4).toInt = 0 ∧ 40 ≤ rc p) ∧ r = (-14) ∧ Z' = Z) ∨ ((0 ≤ p1.toInt ∧ p1.toInt ≤ 255 ∧ 0 ≤ p2.toInt ∧ p2.toInt ≤ 100000 ∧ (Z (11 + 4 * p) 4).toInt = 0 ∧ rc p < 40) ∧ r = nI (rc p + 1) ∧ Z' = (zu (zu (zu (zu Z (12 + 4 * p) (rc p) (p1)) (13 + 4 * p) (rc p) (p2)) (14 + 4 * p) (rc p) (p3)) (11 + 4 * p) (3) (nI (rc p + 1)))))) := by
  refine ci_start (lv0 := [(0, .ref (G.2.1 (0))), (1, .int (p0)), (2, .int (p1)), (3, .int (p2)), (4, .int (p3))]) hD rfl rfl (Nat.le_of_ble_eq_true rfl) rfl ?_
  intro E C R hR hD hN
  refine j_aload_n C 0 dX4_row_0 rfl rfl ?_
  refine j_iload_n C 1 dX4_row_1 rfl rfl ?_
  refine j_callI C hR (kX4_isPart hD hG (np := nI np) (npI := ((np : Nat) : Int)) hnp (nI_toInt (by omega)) (p0 := p0) (b := (p0).toInt) rfl) [] zmX4_isPart zk_X4_52 zK4 (zb_X hG) (zs_X hG) (by decide) rfl rfl (Nat.le_of_ble_eq_true rfl) dX4_row_2 (fun r2 Z2 h2 => ?_)
  obtain ⟨e2, ⟨rfl, h2⟩ | ⟨rfl, h2⟩⟩ := h2
  ·
    refine j_Z e2 ?_
    refine j_if_ne (tgt := 11) (a := ((1 : Nat) : Int)) C (nI_toInt (by omega)) dX4_row_5 (by decide) (fun c5 => ?_) (fun c5 => absurd c5 (by omega))
    obtain ⟨p, hp, rfl⟩ := zi_nat (x := p0) (n := np) (by omega) (by omega)
    obtain ⟨hrcp, hrc40⟩ := hrc p hp
    refine j_iload_n C 2 dX4_row_11 rfl rfl ?_
    refine j_callS C hR (kX4_isNumber hD hG (p0 := p1) (b := (p1).toInt) rfl) [] zmX4_isNumber rfl zk_X4_56 (by decide) rfl rfl (Nat.le_of_ble_eq_true rfl) dX4_row_12 (fun r12 Z12 h12 => ?_)
    obtain ⟨e12, ⟨rfl, h12⟩ | ⟨rfl, h12⟩⟩ := h12
    ·
      refine j_Z e12 ?_
      refine j_if_eq (tgt := 25) (a := ((1 : Nat) : Int)) C (nI_toInt (by omega)) dX4_row_15 (by decide) (fun c15 => absurd c15 (by omega)) (fun c15 => ?_)
      refine j_iload_n C 3 dX4_row_18 rfl rfl ?_
      refine j_callS C hR (kX4_isTime hD hG (p0 := p2) (b := (p2).toInt) rfl) [] zmX4_isTime rfl zk_X4_59 (by decide) rfl rfl (Nat.le_of_ble_eq_true rfl) dX4_row_19 (fun r19 Z19 h19 => ?_)
      obtain ⟨e19, ⟨rfl, h19⟩ | ⟨rfl, h19⟩⟩ := h19
      ·
        refine j_Z e19 ?_
        refine j_if_ne (tgt := 28) (a := ((1 : Nat) : Int)) C (nI_toInt (by omega)) dX4_row_22 (by decide) (fun c22 => ?_) (fun c22 => absurd c22 (by omega))
        refine j_aload_n C 0 dX4_row_28 rfl rfl ?_
        refine j_getR C zK4 (zb_X hG) (zs_X hG) (f := 0) (by decide) rfl zk_X4_11 rfl (zf_X_0 hG) dX4_row_29 ?_
        refine j_iload_n C 1 dX4_row_32 rfl rfl ?_
        refine j_aldP C (zb_Pts hG) (zs_Pts hG) (zl_Pts hG) rfl (by omega) (by decide) (zf_Pts hG (by omega)) dX4_row_33 ?_
        refine j_astore (lv' := [(5, .ref (G.2.1 (11 + 4 * p))), (0, .ref (G.2.1 (0))), (1, .int (nI p)), (2, .int (p1)), (3, .int (p2)), (4, .int (p3))]) C dX4_row_34 (by rw [hN]; decide) rfl ?_
        refine j_aload C 0 dX4_row_36 rfl ?_
        refine j_getIN C zK3 (zb_Part hG (by omega)) (zs_Part hG (by omega)) (f := 4) (by decide) rfl zk_X4_62 rfl (Z (11 + 4 * p) (4)) rfl dX4_row_38 ?_
        refine j_if_eq (tgt := 47) (a := (Z (11 + 4 * p) (4)).toInt) C rfl dX4_row_41 (by decide) (fun c41 => ?_) (fun c41 => ?_)
        ·
          refine j_aload C 0 dX4_row_47 rfl ?_
          refine j_getIN C zK3 (zb_Part hG (by omega)) (zs_Part hG (by omega)) (f := 3) (by decide) rfl zk_X4_66 rfl (nI (rc p)) hrcp dX4_row_49 ?_
          refine j_bipush C (nI 40) dX4_row_52 (by decide) ?_
          refine j_icmp_lt (tgt := 60) (a := ((rc p : Nat) : Int)) (b := ((40 : Nat) : Int)) C (nI_toInt (by omega)) (nI_toInt (by omega)) dX4_row_54 (by decide) (fun c54 => ?_) (fun c54 => ?_)
          ·
            refine j_aload C 0 dX4_row_60 rfl ?_
            refine j_iload_n C 3 dX4_row_62 rfl rfl ?_
            refine j_iload_n C 4 dX4_row_63 rfl rfl ?_
            refine j_iload C 5 dX4_row_64 rfl ?_
            refine j_callVN C hR (kX3_addRow hD hG (i := p)  (by omega) (k := rc p) hrcp (by omega) (p1) (p2) hz) [] zmX3_addRow zk_X4_69 zK3 (zb_Part hG (by omega)) (zs_Part hG (by omega)) (by decide) rfl rfl (Nat.le_of_ble_eq_true rfl) dX4_row_66 (fun Z66 h66 => ?_)
            refine j_Z (Z' := (zu (zu (zu (zu Z (12 + 4 * p) (rc p) (p1)) (13 + 4 * p) (rc p) (p2)) (14 + 4 * p) (rc p) (p3)) (11 + 4 * p) (3) (nI (rc p + 1)))) h66 ?_
            refine j_aload C 0 dX4_row_69 rfl ?_
            refine j_getIN C zK3 (zb_Part hG (by omega)) (zs_Part hG (by omega)) (f := 3) (by decide) rfl zk_X4_66 rfl (nI (rc p + 1)) zu_s dX4_row_71 ?_
            refine j_iret C R dX4_row_74 ?_
            first | exact Or.inr ⟨p, hp, rfl, (Or.inl ⟨by omega, rfl, rfl⟩)⟩ | exact Or.inr ⟨p, hp, rfl, (Or.inr (Or.inl ⟨by omega, rfl, rfl⟩))⟩ | exact Or.inr ⟨p, hp, rfl, (Or.inr (Or.inr (Or.inl ⟨by omega, rfl, rfl⟩)))⟩ | exact Or.inr ⟨p, hp, rfl, (Or.inr (Or.inr (Or.inr (⟨by omega, rfl, rfl⟩))))⟩
          ·
            refine j_bipush C (-14) dX4_row_57 (by decide) ?_
            refine j_iret C R dX4_row_59 ?_
            first | exact Or.inr ⟨p, hp, rfl, (Or.inl ⟨by omega, rfl, rfl⟩)⟩ | exact Or.inr ⟨p, hp, rfl, (Or.inr (Or.inl ⟨by omega, rfl, rfl⟩))⟩ | exact Or.inr ⟨p, hp, rfl, (Or.inr (Or.inr (Or.inl ⟨by omega, rfl, rfl⟩)))⟩ | exact Or.inr ⟨p, hp, rfl, (Or.inr (Or.inr (Or.inr (⟨by omega, rfl, rfl⟩))))⟩
        ·
          refine j_bipush C (-13) dX4_row_44 (by decide) ?_
          refine j_iret C R dX4_row_46 ?_
          first | exact Or.inr ⟨p, hp, rfl, (Or.inl ⟨by omega, rfl, rfl⟩)⟩ | exact Or.inr ⟨p, hp, rfl, (Or.inr (Or.inl ⟨by omega, rfl, rfl⟩))⟩ | exact Or.inr ⟨p, hp, rfl, (Or.inr (Or.inr (Or.inl ⟨by omega, rfl, rfl⟩)))⟩ | exact Or.inr ⟨p, hp, rfl, (Or.inr (Or.inr (Or.inr (⟨by omega, rfl, rfl⟩))))⟩
      ·
        refine j_Z e19 ?_
        refine j_if_ne (tgt := 28) (a := ((0 : Nat) : Int)) C (nI_toInt (by omega)) dX4_row_22 (by decide) (fun c22 => absurd c22 (by omega)) (fun c22 => ?_)
        refine j_bipush C (-12) dX4_row_25 (by decide) ?_
        refine j_iret C R dX4_row_27 ?_
        first | exact Or.inr ⟨p, hp, rfl, (Or.inl ⟨by omega, rfl, rfl⟩)⟩ | exact Or.inr ⟨p, hp, rfl, (Or.inr (Or.inl ⟨by omega, rfl, rfl⟩))⟩ | exact Or.inr ⟨p, hp, rfl, (Or.inr (Or.inr (Or.inl ⟨by omega, rfl, rfl⟩)))⟩ | exact Or.inr ⟨p, hp, rfl, (Or.inr (Or.inr (Or.inr (⟨by omega, rfl, rfl⟩))))⟩
    ·
      refine j_Z e12 ?_
      refine j_if_eq (tgt := 25) (a := ((0 : Nat) : Int)) C (nI_toInt (by omega)) dX4_row_15 (by decide) (fun c15 => ?_) (fun c15 => absurd c15 (by omega))
      refine j_bipush C (-12) dX4_row_25 (by decide) ?_
      refine j_iret C R dX4_row_27 ?_
      first | exact Or.inr ⟨p, hp, rfl, (Or.inl ⟨by omega, rfl, rfl⟩)⟩ | exact Or.inr ⟨p, hp, rfl, (Or.inr (Or.inl ⟨by omega, rfl, rfl⟩))⟩ | exact Or.inr ⟨p, hp, rfl, (Or.inr (Or.inr (Or.inl ⟨by omega, rfl, rfl⟩)))⟩ | exact Or.inr ⟨p, hp, rfl, (Or.inr (Or.inr (Or.inr (⟨by omega, rfl, rfl⟩))))⟩
  ·
    refine j_Z e2 ?_
    refine j_if_ne (tgt := 11) (a := ((0 : Nat) : Int)) C (nI_toInt (by omega)) dX4_row_5 (by decide) (fun c5 => absurd c5 (by omega)) (fun c5 => ?_)
    refine j_bipush C (-11) dX4_row_8 (by decide) ?_
    refine j_iret C R dX4_row_10 ?_
    exact Or.inl ⟨by omega, rfl, rfl⟩
set_option maxRecDepth 100000 in
set_option maxHeartbeats 4000000 in
theorem kX4_end {l : Launch} {D : va_G} {Y : YT} {b0 : Nat} {G : GT} (hD : GD b0 G) (hG : Gok 113 G) {Z : ZT} {np : Nat} (hnp : Z 0 5 = nI np) (hnp12 : np ≤ 12) {rc : Nat → Nat} (hrc : ∀ i, i < np → Z (11 + 4 * i) 3 = nI (rc i) ∧ rc i ≤ 40) (p0 : Int32) : CI l D Y b0 G yX4_end cX4_end 3 (some .int) 1 [.ref (G.2.1 (0)), .int (p0)] Z (fun r Z' => ((p0.toInt < 0 ∨ (np : Int) ≤ p0.toInt) ∧ r = (-11) ∧ Z' = Z) ∨ ∃ p : Nat, p < np ∧ p0 = nI p ∧ ((((Z (11 + 4 * p) 4).toInt ≠ 0) ∧ r = (-13) ∧ Z' = Z) ∨ (((Z (11 + 4 * p) 4).toInt = 0) ∧ r = nI (rc p) ∧ Z' = zu Z (11 + 4 * p) 4 (nI 1)))) := by
  refine ci_start (lv0 := [(0, .ref (G.2.1 (0))), (1, .int (p0))]) hD rfl rfl (Nat.le_of_ble_eq_true rfl) rfl ?_
  intro E C R hR hD hN
  refine j_aload_n C 0 dX4_end_0 rfl rfl ?_
  refine j_iload_n C 1 dX4_end_1 rfl rfl ?_
  refine j_callI C hR (kX4_isPart hD hG (np := nI np) (npI := ((np : Nat) : Int)) hnp (nI_toInt (by omega)) (p0 := p0) (b := (p0).toInt) rfl) [] zmX4_isPart zk_X4_52 zK4 (zb_X hG) (zs_X hG) (by decide) rfl rfl (Nat.le_of_ble_eq_true rfl) dX4_end_2 (fun r2 Z2 h2 => ?_)
  obtain ⟨e2, ⟨rfl, h2⟩ | ⟨rfl, h2⟩⟩ := h2
  ·
    refine j_Z e2 ?_
    refine j_if_ne (tgt := 11) (a := ((1 : Nat) : Int)) C (nI_toInt (by omega)) dX4_end_5 (by decide) (fun c5 => ?_) (fun c5 => absurd c5 (by omega))
    obtain ⟨p, hp, rfl⟩ := zi_nat (x := p0) (n := np) (by omega) (by omega)
    obtain ⟨hrcp, hrc40⟩ := hrc p hp
    refine j_aload_n C 0 dX4_end_11 rfl rfl ?_
    refine j_getR C zK4 (zb_X hG) (zs_X hG) (f := 0) (by decide) rfl zk_X4_11 rfl (zf_X_0 hG) dX4_end_12 ?_
    refine j_iload_n C 1 dX4_end_15 rfl rfl ?_
    refine j_aldP C (zb_Pts hG) (zs_Pts hG) (zl_Pts hG) rfl (by omega) (by decide) (zf_Pts hG (by omega)) dX4_end_16 ?_
    refine j_astore_n (lv' := [(2, .ref (G.2.1 (11 + 4 * p))), (0, .ref (G.2.1 (0))), (1, .int (nI p))]) C dX4_end_17 rfl (by rw [hN]; decide) rfl ?_
    refine j_aload_n C 0 dX4_end_18 rfl rfl ?_
    refine j_getIN C zK3 (zb_Part hG (by omega)) (zs_Part hG (by omega)) (f := 4) (by decide) rfl zk_X4_62 rfl (Z (11 + 4 * p) (4)) rfl dX4_end_19 ?_
    refine j_if_eq (tgt := 28) (a := (Z (11 + 4 * p) (4)).toInt) C rfl dX4_end_22 (by decide) (fun c22 => ?_) (fun c22 => ?_)
    ·
      refine j_aload_n C 0 dX4_end_28 rfl rfl ?_
      refine j_iconst C (nI 1) dX4_end_29 (by decide) ?_
      refine j_putIN C hD zK3 (zb_Part hG (by omega)) (zs_Part hG (by omega)) (f := 4) (by decide) rfl zk_X4_62 rfl rfl (zb_nr (by decide)) (zb_ft (by decide)) dX4_end_30 ?_
      refine j_aload_n C 0 dX4_end_33 rfl rfl ?_
      refine j_getIN C zK3 (zb_Part hG (by omega)) (zs_Part hG (by omega)) (f := 3) (by decide) rfl zk_X4_66 rfl (nI (rc p)) ((zu_o (by omega)).trans (hrcp)) dX4_end_34 ?_
      refine j_iret C R dX4_end_37 ?_
      first | exact Or.inr ⟨p, hp, rfl, (Or.inl ⟨by omega, rfl, rfl⟩)⟩ | exact Or.inr ⟨p, hp, rfl, (Or.inr (⟨by omega, rfl, rfl⟩))⟩
    ·
      refine j_bipush C (-13) dX4_end_25 (by decide) ?_
      refine j_iret C R dX4_end_27 ?_
      first | exact Or.inr ⟨p, hp, rfl, (Or.inl ⟨by omega, rfl, rfl⟩)⟩ | exact Or.inr ⟨p, hp, rfl, (Or.inr (⟨by omega, rfl, rfl⟩))⟩
  ·
    refine j_Z e2 ?_
    refine j_if_ne (tgt := 11) (a := ((0 : Nat) : Int)) C (nI_toInt (by omega)) dX4_end_5 (by decide) (fun c5 => absurd c5 (by omega)) (fun c5 => ?_)
    refine j_bipush C (-11) dX4_end_8 (by decide) ?_
    refine j_iret C R dX4_end_10 ?_
    exact Or.inl ⟨by omega, rfl, rfl⟩
set_option maxRecDepth 100000 in
set_option maxHeartbeats 4000000 in
theorem kX4_give {l : Launch} {D : va_G} {Y : YT} {b0 : Nat} {G : GT} (hD : GD b0 G) (hG : Gok 113 G) {Z : ZT} {np : Nat} (hnp : Z 0 5 = nI np) (hnp12 : np ≤ 12) (hpo : ∀ i, i < np → 0 ≤ (Z (11 + 4 * i) 5).toInt) {nt : Int32} {ntI : Int} (hnt : Z 0 7 = nt) (hntI : nt.toInt = ntI) (p0 p1 : Int32) : CI l D Y b0 G yX4_give cX4_give 5 (some .int) 3 [.ref (G.2.1 (0)), .int (p0), .int (p1)] Z (fun r Z' => ((p0.toInt < 0 ∨ (np : Int) ≤ p0.toInt ∨ (p1.toInt ≠ -1 ∧ (p1.toInt < 0 ∨ ntI ≤ p1.toInt))) ∧ r = (-11) ∧ Z' = Z) ∨ ∃ p : Nat, p < np ∧ p0 = nI p ∧ (p1.toInt = -1 ∨ (0 ≤ p1.toInt ∧ p1.toInt < ntI)) ∧ (((dnC Z p = true) ∧ r = (-13) ∧ Z' = Z) ∨ ((dnC Z p = false) ∧ r = Z (11 + 4 * p) 9 ∧ Z' = zu Z (11 + 4 * p) 9 p1))) := by
  refine ci_start (lv0 := [(0, .ref (G.2.1 (0))), (1, .int (p0)), (2, .int (p1))]) hD rfl rfl (Nat.le_of_ble_eq_true rfl) rfl ?_
  intro E C R hR hD hN
  refine j_aload_n C 0 dX4_give_0 rfl rfl ?_
  refine j_iload_n C 1 dX4_give_1 rfl rfl ?_
  refine j_callI C hR (kX4_isPart hD hG (np := nI np) (npI := ((np : Nat) : Int)) hnp (nI_toInt (by omega)) (p0 := p0) (b := (p0).toInt) rfl) [] zmX4_isPart zk_X4_52 zK4 (zb_X hG) (zs_X hG) (by decide) rfl rfl (Nat.le_of_ble_eq_true rfl) dX4_give_2 (fun r2 Z2 h2 => ?_)
  obtain ⟨e2, ⟨rfl, h2⟩ | ⟨rfl, h2⟩⟩ := h2
  ·
    refine j_Z e2 ?_
    refine j_if_eq (tgt := 21) (a := ((1 : Nat) : Int)) C (nI_toInt (by omega)) dX4_give_5 (by decide) (fun c5 => absurd c5 (by omega)) (fun c5 => ?_)
    refine j_iload_n C 2 dX4_give_8 rfl rfl ?_
    refine j_iconst C (-1) dX4_give_9 (by decide) ?_
    refine j_icmp_eq (tgt := 24) (a := (p1).toInt) (b := -1) C rfl (show ((-1 : Int32)).toInt = -1 by decide) dX4_give_10 (by decide) (fun c10 => ?_) (fun c10 => ?_)
    ·
      obtain ⟨p, hp, rfl⟩ := zi_nat (x := p0) (n := np) (by omega) (by omega)
      refine j_aload_n C 0 dX4_give_24 rfl rfl ?_
      refine j_getR C zK4 (zb_X hG) (zs_X hG) (f := 0) (by decide) rfl zk_X4_11 rfl (zf_X_0 hG) dX4_give_25 ?_
      refine j_iload_n C 1 dX4_give_28 rfl rfl ?_
      refine j_aldP C (zb_Pts hG) (zs_Pts hG) (zl_Pts hG) rfl (by omega) (by decide) (zf_Pts hG (by omega)) dX4_give_29 ?_
      refine j_astore_n (lv' := [(3, .ref (G.2.1 (11 + 4 * p))), (0, .ref (G.2.1 (0))), (1, .int (nI p)), (2, .int (p1))]) C dX4_give_30 rfl (by rw [hN]; decide) rfl ?_
      refine j_aload_n C 0 dX4_give_31 rfl rfl ?_
      refine j_callIN C hR (kX3_isDone hD hG (i := p)  (by omega) (rc := Z (11 + 4 * p) (3)) (rcI := (Z (11 + 4 * p) (3)).toInt) rfl rfl (po := Z (11 + 4 * p) (5)) (poI := (Z (11 + 4 * p) (5)).toInt) rfl rfl (en := Z (11 + 4 * p) (4)) (enI := (Z (11 + 4 * p) (4)).toInt) rfl rfl) [] zmX3_isDone zk_X4_89 zK3 (zb_Part hG (by omega)) (zs_Part hG (by omega)) (by decide) rfl rfl (Nat.le_of_ble_eq_true rfl) dX4_give_32 (fun r32 Z32 h32 => ?_)
      obtain ⟨e32, ⟨rfl, h32⟩ | ⟨rfl, h32⟩⟩ := h32
      ·
        refine j_Z e32 ?_
        have hdn : dnC Z p = true := decide_eq_true (by have := hpo p hp; omega)
        refine j_if_eq (tgt := 41) (a := ((1 : Nat) : Int)) C (nI_toInt (by omega)) dX4_give_35 (by decide) (fun c35 => absurd c35 (by omega)) (fun c35 => ?_)
        refine j_bipush C (-13) dX4_give_38 (by decide) ?_
        refine j_iret C R dX4_give_40 ?_
        exact Or.inr ⟨p, hp, rfl, by omega, Or.inl ⟨hdn, rfl, rfl⟩⟩
      ·
        refine j_Z e32 ?_
        have hdn : dnC Z p = false := decide_eq_false (by have := hpo p hp; omega)
        refine j_if_eq (tgt := 41) (a := ((0 : Nat) : Int)) C (nI_toInt (by omega)) dX4_give_35 (by decide) (fun c35 => ?_) (fun c35 => absurd c35 (by omega))
        refine j_aload_n C 0 dX4_give_41 rfl rfl ?_
        refine j_getIN C zK3 (zb_Part hG (by omega)) (zs_Part hG (by omega)) (f := 9) (by decide) rfl zk_X4_93 rfl (Z (11 + 4 * p) (9)) rfl dX4_give_42 ?_
        refine j_istore (lv' := [(4, .int (Z (11 + 4 * p) (9))), (3, .ref (G.2.1 (11 + 4 * p))), (0, .ref (G.2.1 (0))), (1, .int (nI p)), (2, .int (p1))]) C dX4_give_45 (by rw [hN]; decide) rfl ?_
        refine j_aload_n C 1 dX4_give_47 rfl rfl ?_
        refine j_iload_n C 4 dX4_give_48 rfl rfl ?_
        refine j_putIN C hD zK3 (zb_Part hG (by omega)) (zs_Part hG (by omega)) (f := 9) (by decide) rfl zk_X4_93 rfl rfl rfl rfl dX4_give_49 ?_
        refine j_iload C 0 dX4_give_52 rfl ?_
        refine j_iret C R dX4_give_54 ?_
        exact Or.inr ⟨p, hp, rfl, by omega, Or.inr ⟨hdn, rfl, rfl⟩⟩
    ·
      refine j_aload_n C 0 dX4_give_13 rfl rfl ?_
      refine j_iload_n C 2 dX4_give_14 rfl rfl ?_
      refine j_callI C hR (kX4_isTask hD hG (nt := nt) (ntI := ntI) hnt hntI (p0 := p1) (b := (p1).toInt) rfl) [] zmX4_isTask zk_X4_86 zK4 (zb_X hG) (zs_X hG) (by decide) rfl rfl (Nat.le_of_ble_eq_true rfl) dX4_give_15 (fun r15 Z15 h15 => ?_)
      obtain ⟨e15, ⟨rfl, h15⟩ | ⟨rfl, h15⟩⟩ := h15
      ·
        refine j_Z e15 ?_
        refine j_if_ne (tgt := 24) (a := ((1 : Nat) : Int)) C (nI_toInt (by omega)) dX4_give_18 (by decide) (fun c18 => ?_) (fun c18 => absurd c18 (by omega))
        obtain ⟨p, hp, rfl⟩ := zi_nat (x := p0) (n := np) (by omega) (by omega)
        refine j_aload_n C 0 dX4_give_24 rfl rfl ?_
        refine j_getR C zK4 (zb_X hG) (zs_X hG) (f := 0) (by decide) rfl zk_X4_11 rfl (zf_X_0 hG) dX4_give_25 ?_
        refine j_iload_n C 1 dX4_give_28 rfl rfl ?_
        refine j_aldP C (zb_Pts hG) (zs_Pts hG) (zl_Pts hG) rfl (by omega) (by decide) (zf_Pts hG (by omega)) dX4_give_29 ?_
        refine j_astore_n (lv' := [(3, .ref (G.2.1 (11 + 4 * p))), (0, .ref (G.2.1 (0))), (1, .int (nI p)), (2, .int (p1))]) C dX4_give_30 rfl (by rw [hN]; decide) rfl ?_
        refine j_aload_n C 0 dX4_give_31 rfl rfl ?_
        refine j_callIN C hR (kX3_isDone hD hG (i := p)  (by omega) (rc := Z (11 + 4 * p) (3)) (rcI := (Z (11 + 4 * p) (3)).toInt) rfl rfl (po := Z (11 + 4 * p) (5)) (poI := (Z (11 + 4 * p) (5)).toInt) rfl rfl (en := Z (11 + 4 * p) (4)) (enI := (Z (11 + 4 * p) (4)).toInt) rfl rfl) [] zmX3_isDone zk_X4_89 zK3 (zb_Part hG (by omega)) (zs_Part hG (by omega)) (by decide) rfl rfl (Nat.le_of_ble_eq_true rfl) dX4_give_32 (fun r32 Z32 h32 => ?_)
        obtain ⟨e32, ⟨rfl, h32⟩ | ⟨rfl, h32⟩⟩ := h32
        ·
          refine j_Z e32 ?_
          have hdn : dnC Z p = true := decide_eq_true (by have := hpo p hp; omega)
          refine j_if_eq (tgt := 41) (a := ((1 : Nat) : Int)) C (nI_toInt (by omega)) dX4_give_35 (by decide) (fun c35 => absurd c35 (by omega)) (fun c35 => ?_)
          refine j_bipush C (-13) dX4_give_38 (by decide) ?_
          refine j_iret C R dX4_give_40 ?_
          exact Or.inr ⟨p, hp, rfl, by omega, Or.inl ⟨hdn, rfl, rfl⟩⟩
        ·
          refine j_Z e32 ?_
          have hdn : dnC Z p = false := decide_eq_false (by have := hpo p hp; omega)
          refine j_if_eq (tgt := 41) (a := ((0 : Nat) : Int)) C (nI_toInt (by omega)) dX4_give_35 (by decide) (fun c35 => ?_) (fun c35 => absurd c35 (by omega))
          refine j_aload_n C 0 dX4_give_41 rfl rfl ?_
          refine j_getIN C zK3 (zb_Part hG (by omega)) (zs_Part hG (by omega)) (f := 9) (by decide) rfl zk_X4_93 rfl (Z (11 + 4 * p) (9)) rfl dX4_give_42 ?_
          refine j_istore (lv' := [(4, .int (Z (11 + 4 * p) (9))), (3, .ref (G.2.1 (11 + 4 * p))), (0, .ref (G.2.1 (0))), (1, .int (nI p)), (2, .int (p1))]) C dX4_give_45 (by rw [hN]; decide) rfl ?_
          refine j_aload_n C 1 dX4_give_47 rfl rfl ?_
          refine j_iload_n C 4 dX4_give_48 rfl rfl ?_
          refine j_putIN C hD zK3 (zb_Part hG (by omega)) (zs_Part hG (by omega)) (f := 9) (by decide) rfl zk_X4_93 rfl rfl rfl rfl dX4_give_49 ?_
          refine j_iload C 0 dX4_give_52 rfl ?_
          refine j_iret C R dX4_give_54 ?_
          exact Or.inr ⟨p, hp, rfl, by omega, Or.inr ⟨hdn, rfl, rfl⟩⟩
      ·
        refine j_Z e15 ?_
        refine j_if_ne (tgt := 24) (a := ((0 : Nat) : Int)) C (nI_toInt (by omega)) dX4_give_18 (by decide) (fun c18 => absurd c18 (by omega)) (fun c18 => ?_)
        refine j_bipush C (-11) dX4_give_21 (by decide) ?_
        refine j_iret C R dX4_give_23 ?_
        exact Or.inl ⟨by omega, rfl, rfl⟩
  ·
    refine j_Z e2 ?_
    refine j_if_eq (tgt := 21) (a := ((0 : Nat) : Int)) C (nI_toInt (by omega)) dX4_give_5 (by decide) (fun c5 => ?_) (fun c5 => absurd c5 (by omega))
    refine j_bipush C (-11) dX4_give_21 (by decide) ?_
    refine j_iret C R dX4_give_23 ?_
    exact Or.inl ⟨by omega, rfl, rfl⟩
set_option maxRecDepth 100000 in
set_option maxHeartbeats 4000000 in
theorem kX4_latest {l : Launch} {D : va_G} {Y : YT} {b0 : Nat} {G : GT} (hD : GD b0 G) (hG : Gok 113 G) {Z : ZT} (p0 : Int32) : CI l D Y b0 G yX4_latest cX4_latest 2 (some .int) 0 [.ref (G.2.1 (0)), .int (p0)] Z (fun r Z' => ((p0.toInt < 0 ∨ 5 ≤ p0.toInt) ∧ r = (-12) ∧ Z' = Z) ∨ ∃ j : Nat, j < 5 ∧ p0 = nI j ∧ r = Z 10 j ∧ Z' = Z) := by
  refine ci_start (lv0 := [(0, .ref (G.2.1 (0))), (1, .int (p0))]) hD rfl rfl (Nat.le_of_ble_eq_true rfl) rfl ?_
  intro E C R hR hD hN
  refine j_iload_n C 1 dX4_latest_0 rfl rfl ?_
  refine j_if_lt (tgt := 9) (a := (p0).toInt) C rfl dX4_latest_1 (by decide) (fun c1 => ?_) (fun c1 => ?_)
  ·
    refine j_bipush C (-12) dX4_latest_9 (by decide) ?_
    refine j_iret C R dX4_latest_11 ?_
    exact Or.inl ⟨by omega, rfl, rfl⟩
  ·
    refine j_iload_n C 1 dX4_latest_4 rfl rfl ?_
    refine j_iconst C (nI 5) dX4_latest_5 (by decide) ?_
    refine j_icmp_lt (tgt := 12) (a := (p0).toInt) (b := ((5 : Nat) : Int)) C rfl (nI_toInt (by omega)) dX4_latest_6 (by decide) (fun c6 => ?_) (fun c6 => ?_)
    ·
      obtain ⟨j, hj, rfl⟩ := zi_nat (x := p0) (n := 5) (by omega) (by omega)
      refine j_aload_n C 0 dX4_latest_12 rfl rfl ?_
      refine j_getR C zK4 (zb_X hG) (zs_X hG) (f := 4) (by decide) rfl zk_X4_35 rfl (zf_X_4 hG) dX4_latest_13 ?_
      refine j_iload_n C 1 dX4_latest_16 rfl rfl ?_
      refine j_iald C (zb_Lat hG) (zs_Lat hG) (zl_Lat hG) rfl (by omega) (by decide) (Z 10 j) rfl dX4_latest_17 ?_
      refine j_iret C R dX4_latest_18 ?_
      exact Or.inr ⟨j, hj, rfl, rfl, rfl⟩
    ·
      refine j_bipush C (-12) dX4_latest_9 (by decide) ?_
      refine j_iret C R dX4_latest_11 ?_
      exact Or.inl ⟨by omega, rfl, rfl⟩
set_option maxRecDepth 100000 in
set_option maxHeartbeats 4000000 in
theorem kX4_given {l : Launch} {D : va_G} {Y : YT} {b0 : Nat} {G : GT} (hD : GD b0 G) (hG : Gok 113 G) {Z : ZT} (p0 : Int32) : CI l D Y b0 G yX4_given cX4_given 2 (some .int) 2 [.ref (G.2.1 (0)), .int (p0)] Z (fun r Z' => ((p0.toInt < 0 ∨ 255 < p0.toInt) ∧ r = (-12) ∧ Z' = Z) ∨ ∃ j : Nat, j < 256 ∧ p0 = nI j ∧ r = (if (Z 4 j).toInt = 0 then nI 0 else nI 1) ∧ Z' = Z) := by
  refine ci_start (lv0 := [(0, .ref (G.2.1 (0))), (1, .int (p0))]) hD rfl rfl (Nat.le_of_ble_eq_true rfl) rfl ?_
  intro E C R hR hD hN
  refine j_iload_n C 1 dX4_given_0 rfl rfl ?_
  refine j_callS C hR (kX4_isNumber hD hG (p0 := p0) (b := (p0).toInt) rfl) [] zmX4_isNumber rfl zk_X4_56 (by decide) rfl rfl (Nat.le_of_ble_eq_true rfl) dX4_given_1 (fun r1 Z1 h1 => ?_)
  obtain ⟨e1, ⟨rfl, h1⟩ | ⟨rfl, h1⟩⟩ := h1
  ·
    refine j_Z e1 ?_
    refine j_if_ne (tgt := 10) (a := ((1 : Nat) : Int)) C (nI_toInt (by omega)) dX4_given_4 (by decide) (fun c4 => ?_) (fun c4 => absurd c4 (by omega))
    obtain ⟨j, hj, rfl⟩ := zi_nat (x := p0) (n := 256) (by omega) (by omega)
    refine j_aload_n C 0 dX4_given_10 rfl rfl ?_
    refine j_getR C zK4 (zb_X hG) (zs_X hG) (f := 2) (by decide) rfl zk_X4_24 rfl (zf_X_2 hG) dX4_given_11 ?_
    refine j_iload_n C 1 dX4_given_14 rfl rfl ?_
    refine j_callIN C hR (kX1_wasGiven hD hG (a := j) (by omega) (gv := Z 4 j) (gvI := (Z 4 j).toInt) rfl rfl) [] zmX1_wasGiven zk_X4_149 zK1 (zb_Fin hG) (zs_Fin hG) (by decide) rfl rfl (Nat.le_of_ble_eq_true rfl) dX4_given_15 (fun r15 Z15 h15 => ?_)
    obtain ⟨e15, ⟨rfl, h15⟩ | ⟨rfl, h15⟩⟩ := h15
    ·
      refine j_Z e15 ?_
      refine j_if_eq (tgt := 25) (a := ((1 : Nat) : Int)) C (nI_toInt (by omega)) dX4_given_18 (by decide) (fun c18 => absurd c18 (by omega)) (fun c18 => ?_)
      refine j_iconst C (nI 1) dX4_given_21 (by decide) ?_
      refine j_goto (tgt := 26) C dX4_given_22 (by decide) ?_
      refine j_iret C R dX4_given_26 ?_
      exact Or.inr ⟨j, hj, rfl, by simp [h15], rfl⟩
    ·
      refine j_Z e15 ?_
      refine j_if_eq (tgt := 25) (a := ((0 : Nat) : Int)) C (nI_toInt (by omega)) dX4_given_18 (by decide) (fun c18 => ?_) (fun c18 => absurd c18 (by omega))
      refine j_iconst C (nI 0) dX4_given_25 (by decide) ?_
      refine j_iret C R dX4_given_26 ?_
      exact Or.inr ⟨j, hj, rfl, by simp [h15], rfl⟩
  ·
    refine j_Z e1 ?_
    refine j_if_ne (tgt := 10) (a := ((0 : Nat) : Int)) C (nI_toInt (by omega)) dX4_given_4 (by decide) (fun c4 => absurd c4 (by omega)) (fun c4 => ?_)
    refine j_bipush C (-12) dX4_given_7 (by decide) ?_
    refine j_iret C R dX4_given_9 ?_
    exact Or.inl ⟨by omega, rfl, rfl⟩
theorem zlook {x : Int32} (h : x.toInt < 0 ∨ 1 < x.toInt) : Op.lookupswitch.offset (#[((0 : Int), (25 : Int)), (1, 35)] : Array (Int × Int)).toList 45 x.toInt = 45 := by
  have h1 : ¬ x.toInt = 0 := by omega
  have h2 : ¬ x.toInt = 1 := by omega
  have h3 : ¬ 0 = x.toInt := by omega
  have h4 : ¬ 1 = x.toInt := by omega
  simp [Op.lookupswitch.offset, h1, h2, h3, h4]
set_option maxRecDepth 100000 in
set_option maxHeartbeats 4000000 in
theorem kX4_aside {l : Launch} {D : va_G} {Y : YT} {b0 : Nat} {G : GT} (hD : GD b0 G) (hG : Gok 113 G) {Z : ZT} {na : Nat} (hna : Z 3 4 = nI na) (hna100 : na ≤ 100) (p0 p1 : Int32) : CI l D Y b0 G yX4_aside cX4_aside 3 (some .int) 0 [.ref (G.2.1 (0)), .int (p0), .int (p1)] Z (fun r Z' => ((p0.toInt < 0 ∨ (na : Int) ≤ p0.toInt) ∧ r = (-11) ∧ Z' = Z) ∨ ∃ j : Nat, j < na ∧ p0 = nI j ∧ (((p1.toInt < 0 ∨ 1 < p1.toInt) ∧ r = (-12) ∧ Z' = Z) ∨ ((p1 = nI 0) ∧ r = Z 5 j ∧ Z' = Z) ∨ ((p1 = nI 1) ∧ r = Z 6 j ∧ Z' = Z))) := by
  refine ci_start (lv0 := [(0, .ref (G.2.1 (0))), (1, .int (p0)), (2, .int (p1))]) hD rfl rfl (Nat.le_of_ble_eq_true rfl) rfl ?_
  intro E C R hR hD hN
  refine j_iload_n C 1 dX4_aside_0 rfl rfl ?_
  refine j_if_lt (tgt := 15) (a := (p0).toInt) C rfl dX4_aside_1 (by decide) (fun c1 => ?_) (fun c1 => ?_)
  ·
    refine j_bipush C (-11) dX4_aside_15 (by decide) ?_
    refine j_iret C R dX4_aside_17 ?_
    exact Or.inl ⟨by omega, rfl, rfl⟩
  ·
    refine j_iload_n C 1 dX4_aside_4 rfl rfl ?_
    refine j_aload_n C 0 dX4_aside_5 rfl rfl ?_
    refine j_getR C zK4 (zb_X hG) (zs_X hG) (f := 2) (by decide) rfl zk_X4_24 rfl (zf_X_2 hG) dX4_aside_6 ?_
    refine j_getIN C zK1 (zb_Fin hG) (zs_Fin hG) (f := 4) (by decide) rfl zk_X4_167 rfl (nI na) hna dX4_aside_9 ?_
    refine j_icmp_lt (tgt := 18) (a := (p0).toInt) (b := ((na : Nat) : Int)) C rfl (nI_toInt (by omega)) dX4_aside_12 (by decide) (fun c12 => ?_) (fun c12 => ?_)
    ·
      obtain ⟨j, hj, rfl⟩ := zi_nat (x := p0) (n := na) (by omega) (by omega)
      refine j_iload_n C 2 dX4_aside_18 rfl rfl ?_
      rcases zt2 (p1) with e19 | e19 | c19
      ·
        refine j_top e19 ?_
        refine j_lookup (tgt := 44) C dX4_aside_19 (by decide) rfl (by decide) ?_
        refine j_aload_n C 0 dX4_aside_44 rfl rfl ?_
        refine j_getR C zK4 (zb_X hG) (zs_X hG) (f := 2) (by decide) rfl zk_X4_24 rfl (zf_X_2 hG) dX4_aside_45 ?_
        refine j_getRN C zK1 (zb_Fin hG) (zs_Fin hG) (f := 1) (by decide) rfl zk_X4_170 rfl (zf_Fin_1 hG) dX4_aside_48 ?_
        refine j_iload_n C 1 dX4_aside_51 rfl rfl ?_
        refine j_iald C (zb_Asp hG) (zs_Asp hG) (zl_Asp hG) rfl (by omega) (by decide) (Z 5 j) rfl dX4_aside_52 ?_
        refine j_iret C R dX4_aside_53 ?_
        exact Or.inr ⟨j, hj, rfl, Or.inr (Or.inl ⟨e19, rfl, rfl⟩)⟩
      ·
        refine j_top e19 ?_
        refine j_lookup (tgt := 54) C dX4_aside_19 (by decide) rfl (by decide) ?_
        refine j_aload_n C 0 dX4_aside_54 rfl rfl ?_
        refine j_getR C zK4 (zb_X hG) (zs_X hG) (f := 2) (by decide) rfl zk_X4_24 rfl (zf_X_2 hG) dX4_aside_55 ?_
        refine j_getRN C zK1 (zb_Fin hG) (zs_Fin hG) (f := 2) (by decide) rfl zk_X4_173 rfl (zf_Fin_2 hG) dX4_aside_58 ?_
        refine j_iload_n C 1 dX4_aside_61 rfl rfl ?_
        refine j_iald C (zb_Asq hG) (zs_Asq hG) (zl_Asq hG) rfl (by omega) (by decide) (Z 6 j) rfl dX4_aside_62 ?_
        refine j_iret C R dX4_aside_63 ?_
        exact Or.inr ⟨j, hj, rfl, Or.inr (Or.inr ⟨e19, rfl, rfl⟩)⟩
      ·
        refine j_lookup (tgt := 64) (off := 45) C dX4_aside_19 (by decide) (zlook c19) (by decide) ?_
        refine j_bipush C (-12) dX4_aside_64 (by decide) ?_
        refine j_iret C R dX4_aside_66 ?_
        exact Or.inr ⟨j, hj, rfl, Or.inl ⟨c19, rfl, rfl⟩⟩
    ·
      refine j_bipush C (-11) dX4_aside_15 (by decide) ?_
      refine j_iret C R dX4_aside_17 ?_
      exact Or.inl ⟨by omega, rfl, rfl⟩
set_option maxRecDepth 100000 in
set_option maxHeartbeats 4000000 in
theorem kX4_begin {l : Launch} {D : va_G} {Y : YT} {b0 : Nat} {G : GT} (hD : GD b0 G) (hG : Gok 113 G) {Z : ZT}  : CV l D Y b0 G yX4_begin cX4_begin 2 1 [.ref (G.2.1 (0))] Z (fun Z' => Z' = (zfill (zu (zu (zu (zu (zfill (zfill (zu (zu (zfill (zu (zu (zu Z (0) (5) (nI 0)) (0) (6) (nI 0)) (0) (7) (nI 1)) (4) (256) (nI 0)) (3) (3) (nI 0)) (3) (4) (nI 0)) (8) (64) (nI 0)) (9) (64) (nI 0)) (7) (2) (nI 0)) (7) (3) (nI 0)) (7) (4) (nI 0)) (7) (5) (nI 0)) (10) (5) (-1))) := by
  refine cv_start (lv0 := [(0, .ref (G.2.1 (0)))]) hD rfl (Nat.le_of_ble_eq_true rfl) rfl ?_
  intro E C R hR hD hN
  have L31 : ∀ (n : Nat) (k : Nat), 5 + 1 ≤ k + n → k ≤ 5 → J E 0 0 G 31 [(1, .int (nI k)), (0, .ref (G.2.1 (0)))] [] (zfill (zu (zu (zu (zu (zfill (zfill (zu (zu (zfill (zu (zu (zu Z (0) (5) (nI 0)) (0) (6) (nI 0)) (0) (7) (nI 1)) (4) (256) (nI 0)) (3) (3) (nI 0)) (3) (4) (nI 0)) (8) (64) (nI 0)) (9) (64) (nI 0)) (7) (2) (nI 0)) (7) (3) (nI 0)) (7) (4) (nI 0)) (7) (5) (nI 0)) (10) (k) (-1)) := by
    intro n
    induction n with
    | zero => intro k hn hk; exact absurd hn (by omega)
    | succ n ih =>
      intro k hn hk
      refine j_iload_n C 0 dX4_begin_31 rfl rfl ?_
      refine j_iconst C (nI 5) dX4_begin_32 (by decide) ?_
      refine j_icmp_ge (tgt := 49) (a := ((k : Nat) : Int)) (b := ((5 : Nat) : Int)) C (nI_toInt (by omega)) (nI_toInt (by omega)) dX4_begin_33 (by decide) (fun c33 => ?_) (fun c33 => ?_)
      ·
        refine j_ret C R dX4_begin_49 ?_
        have e9 : k = 5 := by omega
        subst e9
        exact rfl
      ·
        refine j_aload_n C 1 dX4_begin_36 rfl rfl ?_
        refine j_getR C zK4 (zb_X hG) (zs_X hG) (f := 4) (by decide) rfl zk_X4_35 rfl (zf_X_4 hG) dX4_begin_37 ?_
        refine j_iload_n C 0 dX4_begin_40 rfl rfl ?_
        refine j_iconst C (-1) dX4_begin_41 (by decide) ?_
        refine j_iast C hD (zb_Lat hG) (zs_Lat hG) (zl_Lat hG) rfl (by omega) (by decide) dX4_begin_42 ?_
        refine j_iinc (v := nI (k + 1)) (lv' := [(1, .int (nI (k + 1))), (0, .ref (G.2.1 (0)))]) C 0 dX4_begin_43 rfl (nI_add k 1) (by rw [hN]; decide) rfl ?_
        refine j_goto (tgt := 31) C dX4_begin_46 (by decide) ?_
        refine j_Z (Z' := (zfill (zu (zu (zu (zu (zfill (zfill (zu (zu (zfill (zu (zu (zu Z (0) (5) (nI 0)) (0) (6) (nI 0)) (0) (7) (nI 1)) (4) (256) (nI 0)) (3) (3) (nI 0)) (3) (4) (nI 0)) (8) (64) (nI 0)) (9) (64) (nI 0)) (7) (2) (nI 0)) (7) (3) (nI 0)) (7) (4) (nI 0)) (7) (5) (nI 0)) (10) (k + 1) (-1))) zfill_s ?_
        exact ih (k + 1) (by omega) (by omega)
  refine j_aload_n C 0 dX4_begin_0 rfl rfl ?_
  refine j_iconst C (nI 0) dX4_begin_1 (by decide) ?_
  refine j_putI C hD zK4 (zb_X hG) (zs_X hG) (f := 5) (by decide) rfl zk_X4_44 rfl rfl rfl rfl dX4_begin_2 ?_
  refine j_aload_n C 0 dX4_begin_5 rfl rfl ?_
  refine j_iconst C (nI 0) dX4_begin_6 (by decide) ?_
  refine j_putI C hD zK4 (zb_X hG) (zs_X hG) (f := 6) (by decide) rfl zk_X4_107 rfl rfl rfl rfl dX4_begin_7 ?_
  refine j_aload_n C 0 dX4_begin_10 rfl rfl ?_
  refine j_iconst C (nI 1) dX4_begin_11 (by decide) ?_
  refine j_putI C hD zK4 (zb_X hG) (zs_X hG) (f := 7) (by decide) rfl zk_X4_114 rfl rfl rfl rfl dX4_begin_12 ?_
  refine j_aload_n C 0 dX4_begin_15 rfl rfl ?_
  refine j_getR C zK4 (zb_X hG) (zs_X hG) (f := 2) (by decide) rfl zk_X4_24 rfl (zf_X_2 hG) dX4_begin_16 ?_
  refine j_callVN C hR (kX1_forget hD hG) [] zmX1_forget zk_X4_126 zK1 (zb_Fin hG) (zs_Fin hG) (by decide) rfl rfl (Nat.le_of_ble_eq_true rfl) dX4_begin_19 (fun Z19 h19 => ?_)
  refine j_Z (Z' := (zu (zu (zfill (zu (zu (zu Z (0) (5) (nI 0)) (0) (6) (nI 0)) (0) (7) (nI 1)) (4) (256) (nI 0)) (3) (3) (nI 0)) (3) (4) (nI 0))) h19 ?_
  refine j_aload_n C 0 dX4_begin_22 rfl rfl ?_
  refine j_getR C zK4 (zb_X hG) (zs_X hG) (f := 3) (by decide) rfl zk_X4_31 rfl (zf_X_3 hG) dX4_begin_23 ?_
  refine j_callVN C hR (kX0_forget hD hG) [] zmX0_forget zk_X4_208 zK0 (zb_Del hG) (zs_Del hG) (by decide) rfl rfl (Nat.le_of_ble_eq_true rfl) dX4_begin_26 (fun Z26 h26 => ?_)
  refine j_Z (Z' := (zu (zu (zu (zu (zfill (zfill (zu (zu (zfill (zu (zu (zu Z (0) (5) (nI 0)) (0) (6) (nI 0)) (0) (7) (nI 1)) (4) (256) (nI 0)) (3) (3) (nI 0)) (3) (4) (nI 0)) (8) (64) (nI 0)) (9) (64) (nI 0)) (7) (2) (nI 0)) (7) (3) (nI 0)) (7) (4) (nI 0)) (7) (5) (nI 0))) h26 ?_
  refine j_iconst C (nI 0) dX4_begin_29 (by decide) ?_
  refine j_istore_n (lv' := [(1, .int (nI 0)), (0, .ref (G.2.1 (0)))]) C dX4_begin_30 rfl (by rw [hN]; decide) rfl ?_
  refine j_Z (Z' := (zfill (zu (zu (zu (zu (zfill (zfill (zu (zu (zfill (zu (zu (zu Z (0) (5) (nI 0)) (0) (6) (nI 0)) (0) (7) (nI 1)) (4) (256) (nI 0)) (3) (3) (nI 0)) (3) (4) (nI 0)) (8) (64) (nI 0)) (9) (64) (nI 0)) (7) (2) (nI 0)) (7) (3) (nI 0)) (7) (4) (nI 0)) (7) (5) (nI 0)) (10) (0) (-1))) (zfill_0).symm ?_
  exact L31 6 0 (by omega) (by omega)
set_option maxRecDepth 100000 in
set_option maxHeartbeats 4000000 in
theorem kX4_clear {l : Launch} {D : va_G} {Y : YT} {b0 : Nat} {G : GT} (hD : GD b0 G) (hG : Gok 113 G) {Z : ZT} {np : Nat} (hnp : Z 0 5 = nI np) (hnp12 : np ≤ 12) : CI l D Y b0 G yX4_clear cX4_clear 2 (some .int) 2 [.ref (G.2.1 (0))] Z (fun r Z' => r = nI np ∧ Z' = (zfill (zu (zu (zu (zu (zfill (zfill (zu (zu (zfill (zu (zu (zu Z (0) (5) (nI 0)) (0) (6) (nI 0)) (0) (7) (nI 1)) (4) (256) (nI 0)) (3) (3) (nI 0)) (3) (4) (nI 0)) (8) (64) (nI 0)) (9) (64) (nI 0)) (7) (2) (nI 0)) (7) (3) (nI 0)) (7) (4) (nI 0)) (7) (5) (nI 0)) (10) (5) (-1))) := by
  refine ci_start (lv0 := [(0, .ref (G.2.1 (0)))]) hD rfl rfl (Nat.le_of_ble_eq_true rfl) rfl ?_
  intro E C R hR hD hN
  refine j_aload_n C 0 dX4_clear_0 rfl rfl ?_
  refine j_getI C zK4 (zb_X hG) (zs_X hG) (f := 5) (by decide) rfl zk_X4_44 rfl (nI np) hnp dX4_clear_1 ?_
  refine j_istore_n (lv' := [(1, .int (nI np)), (0, .ref (G.2.1 (0)))]) C dX4_clear_4 rfl (by rw [hN]; decide) rfl ?_
  refine j_aload_n C 1 dX4_clear_5 rfl rfl ?_
  refine j_callV C hR (kX4_begin hD hG) [] zmX4_begin zk_X4_41 zK4 (zb_X hG) (zs_X hG) (by decide) rfl rfl (Nat.le_of_ble_eq_true rfl) dX4_clear_6 (fun Z6 h6 => ?_)
  refine j_Z (Z' := (zfill (zu (zu (zu (zu (zfill (zfill (zu (zu (zfill (zu (zu (zu Z (0) (5) (nI 0)) (0) (6) (nI 0)) (0) (7) (nI 1)) (4) (256) (nI 0)) (3) (3) (nI 0)) (3) (4) (nI 0)) (8) (64) (nI 0)) (9) (64) (nI 0)) (7) (2) (nI 0)) (7) (3) (nI 0)) (7) (4) (nI 0)) (7) (5) (nI 0)) (10) (5) (-1))) h6 ?_
  refine j_iload_n C 0 dX4_clear_9 rfl rfl ?_
  refine j_iret C R dX4_clear_10 ?_
  exact ⟨rfl, rfl⟩
set_option maxRecDepth 100000 in
set_option maxHeartbeats 4000000 in
theorem kX4_countDone {l : Launch} {D : va_G} {Y : YT} {b0 : Nat} {G : GT} (hD : GD b0 G) (hG : Gok 113 G) {Z : ZT} {np : Nat} (hnp : Z 0 5 = nI np) (hnp12 : np ≤ 12) (hpo : ∀ i, i < np → 0 ≤ (Z (11 + 4 * i) 5).toInt) : CI l D Y b0 G yX4_countDone cX4_countDone 3 (some .int) 3 [.ref (G.2.1 (0))] Z (fun r Z' => Z' = Z ∧ r = nI (zcn (dnC Z) np)) := by
  refine ci_start (lv0 := [(0, .ref (G.2.1 (0)))]) hD rfl rfl (Nat.le_of_ble_eq_true rfl) rfl ?_
  intro E C R hR hD hN
  have L4 : ∀ (n : Nat) (k : Nat), np + 1 ≤ k + n → k ≤ np → J E 0 0 G 4 [(2, .int (nI k)), (1, .int (nI (zcn (dnC Z) k))), (0, .ref (G.2.1 (0)))] [] Z := by
    intro n
    induction n with
    | zero => intro k hn hk; exact absurd hn (by omega)
    | succ n ih =>
      intro k hn hk
      refine j_iload_n C 0 dX4_countDone_4 rfl rfl ?_
      refine j_aload_n C 2 dX4_countDone_5 rfl rfl ?_
      refine j_getI C zK4 (zb_X hG) (zs_X hG) (f := 5) (by decide) rfl zk_X4_44 rfl (nI np) hnp dX4_countDone_6 ?_
      refine j_icmp_ge (tgt := 33) (a := ((k : Nat) : Int)) (b := ((np : Nat) : Int)) C (nI_toInt (by omega)) (nI_toInt (by omega)) dX4_countDone_9 (by decide) (fun c9 => ?_) (fun c9 => ?_)
      ·
        refine j_iload_n C 1 dX4_countDone_33 rfl rfl ?_
        refine j_iret C R dX4_countDone_34 ?_
        have e9 : k = np := by omega
        subst e9
        exact ⟨rfl, rfl⟩
      ·
        refine j_aload_n C 2 dX4_countDone_12 rfl rfl ?_
        refine j_getR C zK4 (zb_X hG) (zs_X hG) (f := 0) (by decide) rfl zk_X4_11 rfl (zf_X_0 hG) dX4_countDone_13 ?_
        refine j_iload_n C 0 dX4_countDone_16 rfl rfl ?_
        refine j_aldP C (zb_Pts hG) (zs_Pts hG) (zl_Pts hG) rfl (by omega) (by decide) (zf_Pts hG (by omega)) dX4_countDone_17 ?_
        refine j_callIN C hR (kX3_isDone hD hG (i := k)  (by omega) (rc := Z (11 + 4 * k) (3)) (rcI := (Z (11 + 4 * k) (3)).toInt) rfl rfl (po := Z (11 + 4 * k) (5)) (poI := (Z (11 + 4 * k) (5)).toInt) rfl rfl (en := Z (11 + 4 * k) (4)) (enI := (Z (11 + 4 * k) (4)).toInt) rfl rfl) [] zmX3_isDone zk_X4_89 zK3 (zb_Part hG (by omega)) (zs_Part hG (by omega)) (by decide) rfl rfl (Nat.le_of_ble_eq_true rfl) dX4_countDone_18 (fun r18 Z18 h18 => ?_)
        obtain ⟨e18, ⟨rfl, h18⟩ | ⟨rfl, h18⟩⟩ := h18
        ·
          refine j_Z e18 ?_
          have hdn : dnC Z k = true := decide_eq_true (by have := hpo k (by omega); omega)
          refine j_if_eq (tgt := 27) (a := ((1 : Nat) : Int)) C (nI_toInt (by omega)) dX4_countDone_21 (by decide) (fun c21 => absurd c21 (by omega)) (fun c21 => ?_)
          refine j_iinc (v := nI (zcn (dnC Z) k + 1)) (lv' := [(1, .int (nI (zcn (dnC Z) k + 1))), (2, .int (nI k)), (0, .ref (G.2.1 (0)))]) C 1 dX4_countDone_24 rfl (nI_add (zcn (dnC Z) k) 1) (by rw [hN]; decide) rfl ?_
          refine j_iinc (v := nI (k + 1)) (lv' := [(2, .int (nI (k + 1))), (1, .int (nI (zcn (dnC Z) k + 1))), (0, .ref (G.2.1 (0)))]) C 1 dX4_countDone_27 rfl (nI_add k 1) (by rw [hN]; decide) rfl ?_
          refine j_goto (tgt := 4) C dX4_countDone_30 (by decide) ?_
          refine j_lv (lv' := [(2, .int (nI (k + 1))), (1, .int (nI (zcn (dnC Z) (k + 1)))), (0, .ref (G.2.1 (0)))]) (by first | rw [zcn_t hdn] | rw [zcn_f hdn]) ?_
          exact ih (k + 1) (by omega) (by omega)
        ·
          refine j_Z e18 ?_
          have hdn : dnC Z k = false := decide_eq_false (by have := hpo k (by omega); omega)
          refine j_if_eq (tgt := 27) (a := ((0 : Nat) : Int)) C (nI_toInt (by omega)) dX4_countDone_21 (by decide) (fun c21 => ?_) (fun c21 => absurd c21 (by omega))
          refine j_iinc (v := nI (k + 1)) (lv' := [(2, .int (nI (k + 1))), (1, .int (nI (zcn (dnC Z) k))), (0, .ref (G.2.1 (0)))]) C 0 dX4_countDone_27 rfl (nI_add k 1) (by rw [hN]; decide) rfl ?_
          refine j_goto (tgt := 4) C dX4_countDone_30 (by decide) ?_
          refine j_lv (lv' := [(2, .int (nI (k + 1))), (1, .int (nI (zcn (dnC Z) (k + 1)))), (0, .ref (G.2.1 (0)))]) (by first | rw [zcn_t hdn] | rw [zcn_f hdn]) ?_
          exact ih (k + 1) (by omega) (by omega)
  refine j_iconst C (nI 0) dX4_countDone_0 (by decide) ?_
  refine j_istore_n (lv' := [(1, .int (nI 0)), (0, .ref (G.2.1 (0)))]) C dX4_countDone_1 rfl (by rw [hN]; decide) rfl ?_
  refine j_iconst C (nI 0) dX4_countDone_2 (by decide) ?_
  refine j_istore_n (lv' := [(2, .int (nI 0)), (1, .int (nI 0)), (0, .ref (G.2.1 (0)))]) C dX4_countDone_3 rfl (by rw [hN]; decide) rfl ?_
  exact L4 (np + 1) 0 (by omega) (by omega)
