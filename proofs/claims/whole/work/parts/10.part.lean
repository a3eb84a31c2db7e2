theorem zu_o {Z : ZT} {c f a b : Nat} {v : Int32} (h : a ≠ c ∨ b ≠ f) : zu Z c f v a b = Z a b := by
  have : ¬ (a = c ∧ b = f) := by omega
  simp [zu, this]
def zfill (Z : ZT) (c n : Nat) (v : Int32) : ZT := fun a b => if a = c ∧ b < n then v else Z a b
theorem zfill_o {Z : ZT} {c n a b : Nat} {v : Int32} (h : a ≠ c ∨ n ≤ b) : zfill Z c n v a b = Z a b := by
  have : ¬ (a = c ∧ b < n) := by omega
  simp [zfill, this]
theorem zfill_i {Z : ZT} {c n b : Nat} {v : Int32} (h : b < n) : zfill Z c n v c b = v := by simp [zfill, h]
theorem zfill_0 {Z : ZT} {c : Nat} {v : Int32} : zfill Z c 0 v = Z := by
  funext a b
  simp [zfill]
theorem zfill_s {Z : ZT} {c n : Nat} {v : Int32} : zu (zfill Z c n v) c n v = zfill Z c (n + 1) v := by
  funext a b
  by_cases h1 : a = c
  · by_cases h2 : b = n
    · simp [zu, zfill, h1, h2]
    · by_cases h3 : b < n
      · simp [zu, zfill, h1, h2, h3, Nat.lt_succ_of_lt h3]
      · simp [zu, zfill, h1, h2, h3, show ¬ b < n + 1 by omega]
  · simp [zu, zfill, h1]
theorem zt2 (x : Int32) : x = nI 0 ∨ x = nI 1 ∨ (x.toInt < 0 ∨ 1 < x.toInt) := by
  by_cases h : x.toInt < 0 ∨ 1 < x.toInt
  · simp [h]
  · obtain ⟨j, hj, e⟩ := nI_of2 (x := x) (M := nI 1) (n := 1) rfl (fun z => h (Or.inl (Int32.lt_iff_toInt_lt.mp z))) (Int32.le_iff_toInt_le.mpr (by show x.toInt ≤ (1 : Int); omega))
    rcases (show j = 0 ∨ j = 1 by omega) with rfl | rfl <;> simp [e]
theorem zt5 (x : Int32) : x = nI 0 ∨ x = nI 1 ∨ x = nI 2 ∨ x = nI 3 ∨ x = nI 4 ∨ (x.toInt < 0 ∨ 4 < x.toInt) := by
  by_cases h : x.toInt < 0 ∨ 4 < x.toInt
  · simp [h]
  · obtain ⟨j, hj, e⟩ := nI_of2 (x := x) (M := nI 4) (n := 4) rfl (fun z => h (Or.inl (Int32.lt_iff_toInt_lt.mp z))) (Int32.le_iff_toInt_le.mpr (by show x.toInt ≤ (4 : Int); omega))
    rcases (show j = 0 ∨ j = 1 ∨ j = 2 ∨ j = 3 ∨ j = 4 by omega) with rfl | rfl | rfl | rfl | rfl <;> simp [e]
theorem zt10 (x : Int32) : x = nI 0 ∨ x = nI 1 ∨ x = nI 2 ∨ x = nI 3 ∨ x = nI 4 ∨ x = nI 5 ∨ x = nI 6 ∨ x = nI 7 ∨ x = nI 8 ∨ x = nI 9 ∨ (x.toInt < 0 ∨ 9 < x.toInt) := by
  by_cases h : x.toInt < 0 ∨ 9 < x.toInt
  · simp [h]
  · obtain ⟨j, hj, e⟩ := nI_of2 (x := x) (M := nI 9) (n := 9) rfl (fun z => h (Or.inl (Int32.lt_iff_toInt_lt.mp z))) (Int32.le_iff_toInt_le.mpr (by show x.toInt ≤ (9 : Int); omega))
    rcases (show j = 0 ∨ j = 1 ∨ j = 2 ∨ j = 3 ∨ j = 4 ∨ j = 5 ∨ j = 6 ∨ j = 7 ∨ j = 8 ∨ j = 9 by omega) with rfl | rfl | rfl | rfl | rfl | rfl | rfl | rfl | rfl | rfl <;> simp [e]
set_option maxRecDepth 100000 in
set_option maxHeartbeats 4000000 in
theorem kX3_stand {l : Launch} {D : va_G} {Y : YT} {b0 : Nat} {G : GT} (hD : GD b0 G) (hG : Gok 113 G) {Z : ZT} {i : Nat} (hi : i < 12) (p0 p1 p2 : Int32) : CV l D Y b0 G yX3_stand cX3_stand 4 0 [.ref (G.2.1 (11 + 4 * i)), .int (p0), .int (p1), .int (p2)] Z (fun Z' => Z' = zu (zu (zu Z (11 + 4 * i) 5 p0) (11 + 4 * i) 6 p1) (11 + 4 * i) 7 p2) := by
  refine cv_start (lv0 := [(0, .ref (G.2.1 (11 + 4 * i))), (1, .int (p0)), (2, .int (p1)), (3, .int (p2))]) hD rfl (Nat.le_of_ble_eq_true rfl) rfl ?_
  intro E C R hR hD hN
  refine j_aload_n C 0 dX3_stand_0 rfl rfl ?_
  refine j_iload_n C 1 dX3_stand_1 rfl rfl ?_
  refine j_putI C hD zK3 (zb_Part hG hi) (zs_Part hG hi) (f := 5) (by decide) rfl zk_X3_43 rfl rfl rfl rfl dX3_stand_2 ?_
  refine j_aload_n C 0 dX3_stand_5 rfl rfl ?_
  refine j_iload_n C 2 dX3_stand_6 rfl rfl ?_
  refine j_putI C hD zK3 (zb_Part hG hi) (zs_Part hG hi) (f := 6) (by decide) rfl zk_X3_46 rfl rfl rfl rfl dX3_stand_7 ?_
  refine j_aload_n C 0 dX3_stand_10 rfl rfl ?_
  refine j_iload_n C 3 dX3_stand_11 rfl rfl ?_
  refine j_putI C hD zK3 (zb_Part hG hi) (zs_Part hG hi) (f := 7) (by decide) rfl zk_X3_49 rfl rfl rfl rfl dX3_stand_12 ?_
  refine j_ret C R dX3_stand_15 ?_
  exact rfl
set_option maxRecDepth 100000 in
set_option maxHeartbeats 4000000 in
theorem kX3_hasRow {l : Launch} {D : va_G} {Y : YT} {b0 : Nat} {G : GT} (hD : GD b0 G) (hG : Gok 113 G) {Z : ZT} {i : Nat} (hi : i < 12) {rc : Int32} {rcI : Int} (hrc : Z (11 + 4 * i) 3 = rc) (hrcI : rc.toInt = rcI) {p0 : Int32} {b : Int} (hb : p0.toInt = b) : CI l D Y b0 G yX3_hasRow cX3_hasRow 2 (some .boolean) 0 [.ref (G.2.1 (11 + 4 * i)), .int (p0)] Z (fun r Z' => Z' = Z ∧ (r = nI 1 ∧ (0 ≤ b ∧ b < rcI) ∨ r = nI 0 ∧ (b < 0 ∨ rcI ≤ b))) := by
  refine ci_start (lv0 := [(0, .ref (G.2.1 (11 + 4 * i))), (1, .int (p0))]) hD rfl rfl (Nat.le_of_ble_eq_true rfl) rfl ?_
  intro E C R hR hD hN
  refine j_iload_n C 1 dX3_hasRow_0 rfl rfl ?_
  refine j_if_lt (tgt := 16) (a := b) C hb dX3_hasRow_1 (by decide) (fun c1 => ?_) (fun c1 => ?_)
  ·
    refine j_iconst C (nI 0) dX3_hasRow_16 (by decide) ?_
    refine j_zret C R (by decide) dX3_hasRow_17 ?_
    exact ⟨rfl, by first | exact Or.inl ⟨rfl, by omega⟩ | exact Or.inr ⟨rfl, by omega⟩⟩
  ·
    refine j_iload_n C 1 dX3_hasRow_4 rfl rfl ?_
    refine j_aload_n C 0 dX3_hasRow_5 rfl rfl ?_
    refine j_getI C zK3 (zb_Part hG hi) (zs_Part hG hi) (f := 3) (by decide) rfl zk_X3_22 rfl (rc) hrc dX3_hasRow_6 ?_
    refine j_icmp_ge (tgt := 16) (a := b) (b := rcI) C hb hrcI dX3_hasRow_9 (by decide) (fun c9 => ?_) (fun c9 => ?_)
    ·
      refine j_iconst C (nI 0) dX3_hasRow_16 (by decide) ?_
      refine j_zret C R (by decide) dX3_hasRow_17 ?_
      exact ⟨rfl, by first | exact Or.inl ⟨rfl, by omega⟩ | exact Or.inr ⟨rfl, by omega⟩⟩
    ·
      refine j_iconst C (nI 1) dX3_hasRow_12 (by decide) ?_
      refine j_goto (tgt := 17) C dX3_hasRow_13 (by decide) ?_
      refine j_zret C R (by decide) dX3_hasRow_17 ?_
      exact ⟨rfl, by first | exact Or.inl ⟨rfl, by omega⟩ | exact Or.inr ⟨rfl, by omega⟩⟩
set_option maxRecDepth 100000 in
set_option maxHeartbeats 4000000 in
theorem kX3_isReady {l : Launch} {D : va_G} {Y : YT} {b0 : Nat} {G : GT} (hD : GD b0 G) (hG : Gok 113 G) {Z : ZT} {i : Nat} (hi : i < 12) {rc : Int32} {rcI : Int} (hrc : Z (11 + 4 * i) 3 = rc) (hrcI : rc.toInt = rcI) {po : Int32} {poI : Int} (hpo : Z (11 + 4 * i) 5 = po) (hpoI : po.toInt = poI) : CI l D Y b0 G yX3_isReady cX3_isReady 1 (some .boolean) 1 [.ref (G.2.1 (11 + 4 * i))] Z (fun r Z' => Z' = Z ∧ (r = nI 1 ∧ (0 ≤ poI ∧ poI < rcI) ∨ r = nI 0 ∧ (poI < 0 ∨ rcI ≤ poI))) := by
  refine ci_start (lv0 := [(0, .ref (G.2.1 (11 + 4 * i)))]) hD rfl rfl (Nat.le_of_ble_eq_true rfl) rfl ?_
  intro E C R hR hD hN
  refine j_aload_n C 0 dX3_isReady_0 rfl rfl ?_
  refine j_aload_n C 0 dX3_isReady_1 rfl rfl ?_
  refine j_getI C zK3 (zb_Part hG hi) (zs_Part hG hi) (f := 5) (by decide) rfl zk_X3_43 rfl (po) hpo dX3_isReady_2 ?_
  refine j_callI C hR (kX3_hasRow hD hG (i := i)  hi (rc := rc) (rcI := rcI) hrc hrcI (p0 := po) (b := poI) hpoI) [] zmX3_hasRow zk_X3_52 zK3 (zb_Part hG hi) (zs_Part hG hi) (by decide) rfl rfl (Nat.le_of_ble_eq_true rfl) dX3_isReady_5 (fun r5 Z5 h5 => ?_)
  obtain ⟨e5, ⟨rfl, h5⟩ | ⟨rfl, h5⟩⟩ := h5
  ·
    refine j_Z e5 ?_
    refine j_zret C R (by decide) dX3_isReady_8 ?_
    exact ⟨rfl, by first | exact Or.inl ⟨rfl, by omega⟩ | exact Or.inr ⟨rfl, by omega⟩⟩
  ·
    refine j_Z e5 ?_
    refine j_zret C R (by decide) dX3_isReady_8 ?_
    exact ⟨rfl, by first | exact Or.inl ⟨rfl, by omega⟩ | exact Or.inr ⟨rfl, by omega⟩⟩
set_option maxRecDepth 100000 in
set_option maxHeartbeats 4000000 in
theorem kX3_isReadyFor {l : Launch} {D : va_G} {Y : YT} {b0 : Nat} {G : GT} (hD : GD b0 G) (hG : Gok 113 G) {Z : ZT} {i : Nat} (hi : i < 12) {rc : Int32} {rcI : Int} (hrc : Z (11 + 4 * i) 3 = rc) (hrcI : rc.toInt = rcI) {po : Int32} {poI : Int} (hpo : Z (11 + 4 * i) 5 = po) (hpoI : po.toInt = poI) {re : Int32} {reI : Int} (hre : Z (11 + 4 * i) 9 = re) (hreI : re.toInt = reI) {p0 : Int32} {b : Int} (hb : p0.toInt = b) : CI l D Y b0 G yX3_isReadyFor cX3_isReadyFor 2 (some .boolean) 2 [.ref (G.2.1 (11 + 4 * i)), .int (p0)] Z (fun r Z' => Z' = Z ∧ (r = nI 1 ∧ (reI = b ∧ 0 ≤ poI ∧ poI < rcI) ∨ r = nI 0 ∧ (reI ≠ b ∨ poI < 0 ∨ rcI ≤ poI))) := by
  refine ci_start (lv0 := [(0, .ref (G.2.1 (11 + 4 * i))), (1, .int (p0))]) hD rfl rfl (Nat.le_of_ble_eq_true rfl) rfl ?_
  intro E C R hR hD hN
  refine j_aload_n C 0 dX3_isReadyFor_0 rfl rfl ?_
  refine j_getI C zK3 (zb_Part hG hi) (zs_Part hG hi) (f := 9) (by decide) rfl zk_X3_36 rfl (re) hre dX3_isReadyFor_1 ?_
  refine j_iload_n C 1 dX3_isReadyFor_4 rfl rfl ?_
  refine j_icmp_ne (tgt := 19) (a := reI) (b := b) C hreI hb dX3_isReadyFor_5 (by decide) (fun c5 => ?_) (fun c5 => ?_)
  ·
    refine j_iconst C (nI 0) dX3_isReadyFor_19 (by decide) ?_
    refine j_zret C R (by decide) dX3_isReadyFor_20 ?_
    exact ⟨rfl, by first | exact Or.inl ⟨rfl, by omega⟩ | exact Or.inr ⟨rfl, by omega⟩⟩
  ·
    refine j_aload_n C 0 dX3_isReadyFor_8 rfl rfl ?_
    refine j_callI C hR (kX3_isReady hD hG (i := i)  hi (rc := rc) (rcI := rcI) hrc hrcI (po := po) (poI := poI) hpo hpoI) [] zmX3_isReady zk_X3_56 zK3 (zb_Part hG hi) (zs_Part hG hi) (by decide) rfl rfl (Nat.le_of_ble_eq_true rfl) dX3_isReadyFor_9 (fun r9 Z9 h9 => ?_)
    obtain ⟨e9, ⟨rfl, h9⟩ | ⟨rfl, h9⟩⟩ := h9
    ·
      refine j_Z e9 ?_
      refine j_if_eq (tgt := 19) (a := ((1 : Nat) : Int)) C (nI_toInt (by omega)) dX3_isReadyFor_12 (by decide) (fun c12 => absurd c12 (by omega)) (fun c12 => ?_)
      refine j_iconst C (nI 1) dX3_isReadyFor_15 (by decide) ?_
      refine j_goto (tgt := 20) C dX3_isReadyFor_16 (by decide) ?_
      refine j_zret C R (by decide) dX3_isReadyFor_20 ?_
      exact ⟨rfl, by first | exact Or.inl ⟨rfl, by omega⟩ | exact Or.inr ⟨rfl, by omega⟩⟩
    ·
      refine j_Z e9 ?_
      refine j_if_eq (tgt := 19) (a := ((0 : Nat) : Int)) C (nI_toInt (by omega)) dX3_isReadyFor_12 (by decide) (fun c12 => ?_) (fun c12 => absurd c12 (by omega))
      refine j_iconst C (nI 0) dX3_isReadyFor_19 (by decide) ?_
      refine j_zret C R (by decide) dX3_isReadyFor_20 ?_
      exact ⟨rfl, by first | exact Or.inl ⟨rfl, by omega⟩ | exact Or.inr ⟨rfl, by omega⟩⟩
set_option maxRecDepth 100000 in
set_option maxHeartbeats 4000000 in
theorem kX3_isDone {l : Launch} {D : va_G} {Y : YT} {b0 : Nat} {G : GT} (hD : GD b0 G) (hG : Gok 113 G) {Z : ZT} {i : Nat} (hi : i < 12) {rc : Int32} {rcI : Int} (hrc : Z (11 + 4 * i) 3 = rc) (hrcI : rc.toInt = rcI) {po : Int32} {poI : Int} (hpo : Z (11 + 4 * i) 5 = po) (hpoI : po.toInt = poI) {en : Int32} {enI : Int} (hen : Z (11 + 4 * i) 4 = en) (henI : en.toInt = enI) : CI l D Y b0 G yX3_isDone cX3_isDone 1 (some .boolean) 2 [.ref (G.2.1 (11 + 4 * i))] Z (fun r Z' => Z' = Z ∧ (r = nI 1 ∧ (enI ≠ 0 ∧ (poI < 0 ∨ rcI ≤ poI)) ∨ r = nI 0 ∧ (enI = 0 ∨ 0 ≤ poI ∧ poI < rcI))) := by
  refine ci_start (lv0 := [(0, .ref (G.2.1 (11 + 4 * i)))]) hD rfl rfl (Nat.le_of_ble_eq_true rfl) rfl ?_
  intro E C R hR hD hN
  refine j_aload_n C 0 dX3_isDone_0 rfl rfl ?_
  refine j_getI C zK3 (zb_Part hG hi) (zs_Part hG hi) (f := 4) (by decide) rfl zk_X3_26 rfl (en) hen dX3_isDone_1 ?_
  refine j_if_eq (tgt := 18) (a := enI) C henI dX3_isDone_4 (by decide) (fun c4 => ?_) (fun c4 => ?_)
  ·
    refine j_iconst C (nI 0) dX3_isDone_18 (by decide) ?_
    refine j_zret C R (by decide) dX3_isDone_19 ?_
    exact ⟨rfl, by first | exact Or.inl ⟨rfl, by omega⟩ | exact Or.inr ⟨rfl, by omega⟩⟩
  ·
    refine j_aload_n C 0 dX3_isDone_7 rfl rfl ?_
    refine j_callI C hR (kX3_isReady hD hG (i := i)  hi (rc := rc) (rcI := rcI) hrc hrcI (po := po) (poI := poI) hpo hpoI) [] zmX3_isReady zk_X3_56 zK3 (zb_Part hG hi) (zs_Part hG hi) (by decide) rfl rfl (Nat.le_of_ble_eq_true rfl) dX3_isDone_8 (fun r8 Z8 h8 => ?_)
    obtain ⟨e8, ⟨rfl, h8⟩ | ⟨rfl, h8⟩⟩ := h8
    ·
      refine j_Z e8 ?_
      refine j_if_ne (tgt := 18) (a := ((1 : Nat) : Int)) C (nI_toInt (by omega)) dX3_isDone_11 (by decide) (fun c11 => ?_) (fun c11 => absurd c11 (by omega))
      refine j_iconst C (nI 0) dX3_isDone_18 (by decide) ?_
      refine j_zret C R (by decide) dX3_isDone_19 ?_
      exact ⟨rfl, by first | exact Or.inl ⟨rfl, by omega⟩ | exact Or.inr ⟨rfl, by omega⟩⟩
    ·
      refine j_Z e8 ?_
      refine j_if_ne (tgt := 18) (a := ((0 : Nat) : Int)) C (nI_toInt (by omega)) dX3_isDone_11 (by decide) (fun c11 => absurd c11 (by omega)) (fun c11 => ?_)
      refine j_iconst C (nI 1) dX3_isDone_14 (by decide) ?_
      refine j_goto (tgt := 19) C dX3_isDone_15 (by decide) ?_
      refine j_zret C R (by decide) dX3_isDone_19 ?_
      exact ⟨rfl, by first | exact Or.inl ⟨rfl, by omega⟩ | exact Or.inr ⟨rfl, by omega⟩⟩
set_option maxRecDepth 100000 in
set_option maxHeartbeats 4000000 in
theorem kX3_beginAnew {l : Launch} {D : va_G} {Y : YT} {b0 : Nat} {G : GT} (hD : GD b0 G) (hG : Gok 113 G) {Z : ZT} {i : Nat} (hi : i < 12) (p0 p1 : Int32) : CV l D Y b0 G yX3_beginAnew cX3_beginAnew 3 1 [.ref (G.2.1 (11 + 4 * i)), .int (p0), .int (p1)] Z (fun Z' => Z' = (zu (zu (zu (zu (zu (zu (zu (zu Z (11 + 4 * i) (3) (nI 0)) (11 + 4 * i) (4) (nI 0)) (11 + 4 * i) (8) (p0)) (11 + 4 * i) (10) (p1)) (11 + 4 * i) (9) (-1)) (11 + 4 * i) (5) (nI 0)) (11 + 4 * i) (6) (-1)) (11 + 4 * i) (7) (nI 0))) := by
  refine cv_start (lv0 := [(0, .ref (G.2.1 (11 + 4 * i))), (1, .int (p0)), (2, .int (p1))]) hD rfl (Nat.le_of_ble_eq_true rfl) rfl ?_
  intro E C R hR hD hN
  refine j_aload_n C 0 dX3_beginAnew_0 rfl rfl ?_
  refine j_iconst C (nI 0) dX3_beginAnew_1 (by decide) ?_
  refine j_putI C hD zK3 (zb_Part hG hi) (zs_Part hG hi) (f := 3) (by decide) rfl zk_X3_22 rfl rfl rfl rfl dX3_beginAnew_2 ?_
  refine j_aload_n C 0 dX3_beginAnew_5 rfl rfl ?_
  refine j_iconst C (nI 0) dX3_beginAnew_6 (by decide) ?_
  refine j_putI C hD zK3 (zb_Part hG hi) (zs_Part hG hi) (f := 4) (by decide) rfl zk_X3_26 rfl rfl (zb_nr (by decide)) (zb_ft (by decide)) dX3_beginAnew_7 ?_
  refine j_aload_n C 0 dX3_beginAnew_10 rfl rfl ?_
  refine j_iload_n C 1 dX3_beginAnew_11 rfl rfl ?_
  refine j_putI C hD zK3 (zb_Part hG hi) (zs_Part hG hi) (f := 8) (by decide) rfl zk_X3_30 rfl rfl rfl rfl dX3_beginAnew_12 ?_
  refine j_aload_n C 0 dX3_beginAnew_15 rfl rfl ?_
  refine j_iload_n C 2 dX3_beginAnew_16 rfl rfl ?_
  refine j_putI C hD zK3 (zb_Part hG hi) (zs_Part hG hi) (f := 10) (by decide) rfl zk_X3_33 rfl rfl rfl rfl dX3_beginAnew_17 ?_
  refine j_aload_n C 0 dX3_beginAnew_20 rfl rfl ?_
  refine j_iconst C (-1) dX3_beginAnew_21 (by decide) ?_
  refine j_putI C hD zK3 (zb_Part hG hi) (zs_Part hG hi) (f := 9) (by decide) rfl zk_X3_36 rfl rfl rfl rfl dX3_beginAnew_22 ?_
  refine j_aload_n C 0 dX3_beginAnew_25 rfl rfl ?_
  refine j_iconst C (nI 0) dX3_beginAnew_26 (by decide) ?_
  refine j_iconst C (-1) dX3_beginAnew_27 (by decide) ?_
  refine j_iconst C (nI 0) dX3_beginAnew_28 (by decide) ?_
  refine j_callV C hR (kX3_stand hD hG (i := i)  hi (nI 0) (-1) (nI 0)) [] zmX3_stand zk_X3_39 zK3 (zb_Part hG hi) (zs_Part hG hi) (by decide) rfl rfl (Nat.le_of_ble_eq_true rfl) dX3_beginAnew_29 (fun Z29 h29 => ?_)
  refine j_Z (Z' := (zu (zu (zu (zu (zu (zu (zu (zu Z (11 + 4 * i) (3) (nI 0)) (11 + 4 * i) (4) (nI 0)) (11 + 4 * i) (8) (p0)) (11 + 4 * i) (10) (p1)) (11 + 4 * i) (9) (-1)) (11 + 4 * i) (5) (nI 0)) (11 + 4 * i) (6) (-1)) (11 + 4 * i) (7) (nI 0))) h29 ?_
  refine j_ret C R dX3_beginAnew_32 ?_
  exact rfl
set_option maxRecDepth 100000 in
set_option maxHeartbeats 4000000 in
theorem kX3_addRow {l : Launch} {D : va_G} {Y : YT} {b0 : Nat} {G : GT} (hD : GD b0 G) (hG : Gok 113 G) {Z : ZT} {i : Nat} (hi : i < 12) {k : Nat} (hk : Z (11 + 4 * i) 3 = nI k) (hk40 : k < 40) (p0 p1 : Int32) {p2 : Int32} (hz : p2 = 0 ∨ p2 = 1) : CV l D Y b0 G yX3_addRow cX3_addRow 4 0 [.ref (G.2.1 (11 + 4 * i)), .int (p0), .int (p1), .int (p2)] Z (fun Z' => Z' = (zu (zu (zu (zu Z (12 + 4 * i) (k) (p0)) (13 + 4 * i) (k) (p1)) (14 + 4 * i) (k) (p2)) (11 + 4 * i) (3) (nI (k + 1)))) := by
  refine cv_start (lv0 := [(0, .ref (G.2.1 (11 + 4 * i))), (1, .int (p0)), (2, .int (p1)), (3, .int (p2))]) hD rfl (Nat.le_of_ble_eq_true rfl) rfl ?_
  intro E C R hR hD hN
  refine j_aload_n C 0 dX3_addRow_0 rfl rfl ?_
  refine j_getI C zK3 (zb_Part hG hi) (zs_Part hG hi) (f := 3) (by decide) rfl zk_X3_22 rfl (nI k) hk dX3_addRow_1 ?_
  refine j_bipush C (nI 40) dX3_addRow_4 (by decide) ?_
  refine j_icmp_ge (tgt := 49) (a := ((k : Nat) : Int)) (b := ((40 : Nat) : Int)) C (nI_toInt (by omega)) (nI_toInt (by omega)) dX3_addRow_6 (by decide) (fun c6 => absurd c6 (by omega)) (fun c6 => ?_)
  refine j_aload_n C 0 dX3_addRow_9 rfl rfl ?_
  refine j_getR C zK3 (zb_Part hG hi) (zs_Part hG hi) (f := 0) (by decide) rfl zk_X3_9 rfl (zf_Part_0 hG hi) dX3_addRow_10 ?_
  refine j_aload_n C 0 dX3_addRow_13 rfl rfl ?_
  refine j_getI C zK3 (zb_Part hG hi) (zs_Part hG hi) (f := 3) (by decide) rfl zk_X3_22 rfl (nI k) hk dX3_addRow_14 ?_
  refine j_iload_n C 1 dX3_addRow_17 rfl rfl ?_
  refine j_iast C hD (zb_Num hG hi) (zs_Num hG hi) (zl_Num hG hi) rfl (by omega) (by decide) dX3_addRow_18 ?_
  refine j_aload_n C 0 dX3_addRow_19 rfl rfl ?_
  refine j_getR C zK3 (zb_Part hG hi) (zs_Part hG hi) (f := 1) (by decide) rfl zk_X3_15 rfl (zf_Part_1 hG hi) dX3_addRow_20 ?_
  refine j_aload_n C 0 dX3_addRow_23 rfl rfl ?_
  refine j_getI C zK3 (zb_Part hG hi) (zs_Part hG hi) (f := 3) (by decide) rfl zk_X3_22 rfl (nI k) ((zu_o (by omega)).trans (hk)) dX3_addRow_24 ?_
  refine j_iload_n C 2 dX3_addRow_27 rfl rfl ?_
  refine j_iast C hD (zb_Tim hG hi) (zs_Tim hG hi) (zl_Tim hG hi) rfl (by omega) (by decide) dX3_addRow_28 ?_
  refine j_aload_n C 0 dX3_addRow_29 rfl rfl ?_
  refine j_getR C zK3 (zb_Part hG hi) (zs_Part hG hi) (f := 2) (by decide) rfl zk_X3_18 rfl (zf_Part_2 hG hi) dX3_addRow_30 ?_
  refine j_aload_n C 0 dX3_addRow_33 rfl rfl ?_
  refine j_getI C zK3 (zb_Part hG hi) (zs_Part hG hi) (f := 3) (by decide) rfl zk_X3_22 rfl (nI k) ((zu_o (by omega)).trans ((zu_o (by omega)).trans (hk))) dX3_addRow_34 ?_
  refine j_iload_n C 3 dX3_addRow_37 rfl rfl ?_
  refine j_zast C hD (zb_Snd hG hi) (zs_Snd hG hi) (zl_Snd hG hi) rfl (by omega) (by decide) hz dX3_addRow_38 ?_
  refine j_aload_n C 0 dX3_addRow_39 rfl rfl ?_
  refine j_dup C dX3_addRow_40 rfl ?_
  refine j_getI C zK3 (zb_Part hG hi) (zs_Part hG hi) (f := 3) (by decide) rfl zk_X3_22 rfl (nI k) ((zu_o (by omega)).trans ((zu_o (by omega)).trans ((zu_o (by omega)).trans (hk)))) dX3_addRow_41 ?_
  refine j_iconst C (nI 1) dX3_addRow_44 (by decide) ?_
  refine j_iadd C (nI (k + 1)) dX3_addRow_45 (nI_add k 1) ?_
  refine j_putI C hD zK3 (zb_Part hG hi) (zs_Part hG hi) (f := 3) (by decide) rfl zk_X3_22 rfl rfl rfl rfl dX3_addRow_46 ?_
  refine j_ret C R dX3_addRow_49 ?_
  exact rfl
set_option maxRecDepth 100000 in
set_option maxHeartbeats 4000000 in
theorem kX3_pass {l : Launch} {D : va_G} {Y : YT} {b0 : Nat} {G : GT} (hD : GD b0 G) (hG : Gok 113 G) {Z : ZT} {i : Nat} (hi : i < 12) {rc : Int32} {rcI : Int} (hrc : Z (11 + 4 * i) 3 = rc) (hrcI : rc.toInt = rcI) {po : Nat} (hpo : Z (11 + 4 * i) 5 = nI po) (h40 : po < 40) (hr : (po : Int) < rcI) {w t : Int32} (hw : Z (11 + 4 * i) 6 = w) (ht : Z (13 + 4 * i) po = t) : CV l D Y b0 G yX3_pass cX3_pass 1 2 [.ref (G.2.1 (11 + 4 * i))] Z (fun Z' => Z' = zu (zu Z (11 + 4 * i) 6 (if w < t then t else w)) (11 + 4 * i) 5 (nI (po + 1))) := by
  refine cv_start (lv0 := [(0, .ref (G.2.1 (11 + 4 * i)))]) hD rfl (Nat.le_of_ble_eq_true rfl) rfl ?_
  intro E C R hR hD hN
  refine j_aload_n C 0 dX3_pass_0 rfl rfl ?_
  refine j_callI C hR (kX3_isReady hD hG (i := i)  hi (rc := rc) (rcI := rcI) hrc hrcI (po := nI po) (poI := ((po : Nat) : Int)) hpo (nI_toInt (by omega))) [] zmX3_isReady zk_X3_56 zK3 (zb_Part hG hi) (zs_Part hG hi) (by decide) rfl rfl (Nat.le_of_ble_eq_true rfl) dX3_pass_1 (fun r1 Z1 h1 => ?_)
  obtain ⟨e1, ⟨rfl, h1⟩ | ⟨rfl, h1⟩⟩ := h1
  ·
    refine j_Z e1 ?_
    refine j_if_eq (tgt := 37) (a := ((1 : Nat) : Int)) C (nI_toInt (by omega)) dX3_pass_4 (by decide) (fun c4 => absurd c4 (by omega)) (fun c4 => ?_)
    refine j_aload_n C 0 dX3_pass_7 rfl rfl ?_
    refine j_aload_n C 0 dX3_pass_8 rfl rfl ?_
    refine j_getI C zK3 (zb_Part hG hi) (zs_Part hG hi) (f := 6) (by decide) rfl zk_X3_46 rfl (w) hw dX3_pass_9 ?_
    refine j_aload_n C 0 dX3_pass_12 rfl rfl ?_
    refine j_getR C zK3 (zb_Part hG hi) (zs_Part hG hi) (f := 1) (by decide) rfl zk_X3_15 rfl (zf_Part_1 hG hi) dX3_pass_13 ?_
    refine j_aload_n C 0 dX3_pass_16 rfl rfl ?_
    refine j_getI C zK3 (zb_Part hG hi) (zs_Part hG hi) (f := 5) (by decide) rfl zk_X3_43 rfl (nI po) hpo dX3_pass_17 ?_
    refine j_iald C (zb_Tim hG hi) (zs_Tim hG hi) (zl_Tim hG hi) rfl (by omega) (by decide) (t) ht dX3_pass_20 ?_
    refine j_max C (hR) (if w < t then t else w) zk_X3_64 dX3_pass_21 (Nat.le_of_ble_eq_true rfl) rfl rfl rfl ?_
    refine j_putI C hD zK3 (zb_Part hG hi) (zs_Part hG hi) (f := 6) (by decide) rfl zk_X3_46 rfl rfl rfl rfl dX3_pass_24 ?_
    refine j_aload_n C 0 dX3_pass_27 rfl rfl ?_
    refine j_dup C dX3_pass_28 rfl ?_
    refine j_getI C zK3 (zb_Part hG hi) (zs_Part hG hi) (f := 5) (by decide) rfl zk_X3_43 rfl (nI po) ((zu_o (by omega)).trans (hpo)) dX3_pass_29 ?_
    refine j_iconst C (nI 1) dX3_pass_32 (by decide) ?_
    refine j_iadd C (nI (po + 1)) dX3_pass_33 (nI_add po 1) ?_
    refine j_putI C hD zK3 (zb_Part hG hi) (zs_Part hG hi) (f := 5) (by decide) rfl zk_X3_43 rfl rfl rfl rfl dX3_pass_34 ?_
    refine j_ret C R dX3_pass_37 ?_
    exact rfl
  ·
    refine j_Z e1 ?_
    exact absurd h1 (by omega)
