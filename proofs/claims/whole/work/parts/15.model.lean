abbrev dnM (Z : ZT) (i : Nat) : Bool := dnz (Z 118 i) (Z 121 i) (Z 117 i)
abbrev rdM (Z : ZT) (i : Nat) : Bool := rdz (Z 121 i) (Z 117 i)
abbrev rtM (Z : ZT) (t : Int32) (i : Nat) : Bool := rtz (Z 121 (36 + i)) (Z 121 i) (Z 117 i) t
def ncM (Z : ZT) (t : Int32) (i : Nat) : Int32 := if rtM Z t i = true then Z 121 (24 + i) + Z 119 i else Z 121 (24 + i)
abbrev shM (Z : ZT) (i : Nat) : Int32 := Z 119 i
abbrev waM (Z : ZT) (i : Nat) : Int32 := Z 121 (12 + i)
def gbz (Z : ZT) (c k : Nat) : Bool := decide ((Z c k).toInt ≠ 0)
set_option maxRecDepth 100000 in
set_option maxHeartbeats 4000000 in
theorem kX5_forgets {l : Launch} {D : va_G} {Y : YT} {b0 : Nat} {G : GT} (hD : GD b0 G) (hG : Gok 132 G) {Z : ZT}  : CV l D Y b0 G yX5_forgets cX5_forgets 2 0 [.ref (G.2.1 (113))] Z (fun Z' => Z' = zfill Z 131 5 (-1)) := by
  refine cv_start (lv0 := [(0, .ref (G.2.1 (113)))]) hD rfl (Nat.le_of_ble_eq_true rfl) rfl ?_
  intro E C R hR hD hN
  have L2 : ∀ (n : Nat) (k : Nat), 5 + 1 ≤ k + n → k ≤ 5 → J E 0 0 G 2 [(1, .int (nI k)), (0, .ref (G.2.1 (113)))] [] (zfill Z (131) (k) (-1)) := by
    intro n
    induction n with
    | zero => intro k hn hk; exact absurd hn (by omega)
    | succ n ih =>
      intro k hn hk
      refine j_iload_n C 0 dX5_forgets_2 rfl rfl ?_
      refine j_iconst C (nI 5) dX5_forgets_3 (by decide) ?_
      refine j_icmp_ge (tgt := 20) (a := ((k : Nat) : Int)) (b := ((5 : Nat) : Int)) C (nI_toInt (by omega)) (nI_toInt (by omega)) dX5_forgets_4 (by decide) (fun c4 => ?_) (fun c4 => ?_)
      ·
        refine j_ret C R dX5_forgets_20 ?_
        have e9 : k = 5 := by omega
        subst e9
        exact rfl
      ·
        refine j_aload_n C 1 dX5_forgets_7 rfl rfl ?_
        refine j_getR C zK5 (zb_M hG) (zs_M hG) (f := 25) (by decide) rfl zk_X5_66 rfl (zf_M_25 hG) dX5_forgets_8 ?_
        refine j_iload_n C 0 dX5_forgets_11 rfl rfl ?_
        refine j_iconst C (-1) dX5_forgets_12 (by decide) ?_
        refine j_iast C hD (zb_rLat hG) (zs_rLat hG) (zl_rLat hG) rfl (by omega) (by decide) dX5_forgets_13 ?_
        refine j_iinc (v := nI (k + 1)) (lv' := [(1, .int (nI (k + 1))), (0, .ref (G.2.1 (113)))]) C 0 dX5_forgets_14 rfl (nI_add k 1) (by rw [hN]; decide) rfl ?_
        refine j_goto (tgt := 2) C dX5_forgets_17 (by decide) ?_
        refine j_Z (Z' := (zfill Z 131 (k + 1) (-1))) zfill_s ?_
        exact ih (k + 1) (by omega) (by omega)
  refine j_iconst C (nI 0) dX5_forgets_0 (by decide) ?_
  refine j_istore_n (lv' := [(1, .int (nI 0)), (0, .ref (G.2.1 (113)))]) C dX5_forgets_1 rfl (by rw [hN]; decide) rfl ?_
  refine j_Z (Z' := (zfill Z 131 0 (-1))) (zfill_0).symm ?_
  exact L2 6 0 (by omega) (by omega)
set_option maxRecDepth 100000 in
set_option maxHeartbeats 4000000 in
theorem kX5_givesNone {l : Launch} {D : va_G} {Y : YT} {b0 : Nat} {G : GT} (hD : GD b0 G) (hG : Gok 132 G) {Z : ZT}  : CV l D Y b0 G yX5_givesNone cX5_givesNone 2 0 [.ref (G.2.1 (113))] Z (fun Z' => Z' = (zu (zfill Z (122) (256) (nI 0)) (113) (13) (nI 0))) := by
  refine cv_start (lv0 := [(0, .ref (G.2.1 (113)))]) hD rfl (Nat.le_of_ble_eq_true rfl) rfl ?_
  intro E C R hR hD hN
  have L2 : ∀ (n : Nat) (k : Nat), 256 + 1 ≤ k + n → k ≤ 256 → J E 0 0 G 2 [(1, .int (nI k)), (0, .ref (G.2.1 (113)))] [] (zfill Z (122) (k) (nI 0)) := by
    intro n
    induction n with
    | zero => intro k hn hk; exact absurd hn (by omega)
    | succ n ih =>
      intro k hn hk
      refine j_iload_n C 0 dX5_givesNone_2 rfl rfl ?_
      refine j_sipush C (nI 256) dX5_givesNone_3 (by decide) ?_
      refine j_icmp_ge (tgt := 22) (a := ((k : Nat) : Int)) (b := ((256 : Nat) : Int)) C (nI_toInt (by omega)) (nI_toInt (by omega)) dX5_givesNone_6 (by decide) (fun c6 => ?_) (fun c6 => ?_)
      ·
        refine j_aload_n C 1 dX5_givesNone_22 rfl rfl ?_
        refine j_iconst C (nI 0) dX5_givesNone_23 (by decide) ?_
        refine j_putI C hD zK5 (zb_M hG) (zs_M hG) (f := 13) (by decide) rfl zk_X5_128 rfl rfl rfl rfl dX5_givesNone_24 ?_
        refine j_ret C R dX5_givesNone_27 ?_
        have e9 : k = 256 := by omega
        subst e9
        exact rfl
      ·
        refine j_aload_n C 1 dX5_givesNone_9 rfl rfl ?_
        refine j_getR C zK5 (zb_M hG) (zs_M hG) (f := 11) (by decide) rfl zk_X5_39 rfl (zf_M_11 hG) dX5_givesNone_10 ?_
        refine j_iload_n C 0 dX5_givesNone_13 rfl rfl ?_
        refine j_iconst C (nI 0) dX5_givesNone_14 (by decide) ?_
        refine j_zast C hD (zb_rGiv hG) (zs_rGiv hG) (zl_rGiv hG) rfl (by omega) (by decide) (by decide) dX5_givesNone_15 ?_
        refine j_iinc (v := nI (k + 1)) (lv' := [(1, .int (nI (k + 1))), (0, .ref (G.2.1 (113)))]) C 0 dX5_givesNone_16 rfl (nI_add k 1) (by rw [hN]; decide) rfl ?_
        refine j_goto (tgt := 2) C dX5_givesNone_19 (by decide) ?_
        refine j_Z (Z' := (zfill Z 122 (k + 1) (nI 0))) zfill_s ?_
        exact ih (k + 1) (by omega) (by omega)
  refine j_iconst C (nI 0) dX5_givesNone_0 (by decide) ?_
  refine j_istore_n (lv' := [(1, .int (nI 0)), (0, .ref (G.2.1 (113)))]) C dX5_givesNone_1 rfl (by rw [hN]; decide) rfl ?_
  refine j_Z (Z' := (zfill Z 122 0 (nI 0))) (zfill_0).symm ?_
  exact L2 257 0 (by omega) (by omega)
set_option maxRecDepth 100000 in
set_option maxHeartbeats 4000000 in
theorem kX5_thrown {l : Launch} {D : va_G} {Y : YT} {b0 : Nat} {G : GT} (hD : GD b0 G) (hG : Gok 132 G) {Z : ZT}  : CI l D Y b0 G yX5_thrown cX5_thrown 1 (some .int) 0 [.ref (G.2.1 (113))] Z (fun r Z' => Z' = Z ∧ r = Z 113 0) := by
  refine ci_start (lv0 := [(0, .ref (G.2.1 (113)))]) hD rfl rfl (Nat.le_of_ble_eq_true rfl) rfl ?_
  intro E C R hR hD hN
  refine j_aload_n C 0 dX5_thrown_0 rfl rfl ?_
  refine j_getI C zK5 (zb_M hG) (zs_M hG) (f := 0) (by decide) rfl zk_X5_72 rfl (Z 113 0) rfl dX5_thrown_1 ?_
  refine j_iret C R dX5_thrown_4 ?_
  exact ⟨rfl, rfl⟩
set_option maxRecDepth 100000 in
set_option maxHeartbeats 4000000 in
theorem kX5_in {l : Launch} {D : va_G} {Y : YT} {b0 : Nat} {G : GT} (hD : GD b0 G) (hG : Gok 132 G) {Z : ZT} {p0 p1 p2 : Int32} {a b c : Int} (ha : p0.toInt = a) (hb : p1.toInt = b) (hc : p2.toInt = c) : CI l D Y b0 G yX5_in cX5_in 3 (some .boolean) 0 [.int (p0), .int (p1), .int (p2)] Z (fun r Z' => Z' = Z ∧ (r = nI 1 ∧ (b ≤ a ∧ a ≤ c) ∨ r = nI 0 ∧ (a < b ∨ c < a))) := by
  refine ci_start (lv0 := [(0, .int (p0)), (1, .int (p1)), (2, .int (p2))]) hD rfl rfl (Nat.le_of_ble_eq_true rfl) rfl ?_
  intro E C R hR hD hN
  refine j_iload_n C 0 dX5_in_0 rfl rfl ?_
  refine j_iload_n C 1 dX5_in_1 rfl rfl ?_
  refine j_icmp_lt (tgt := 14) (a := a) (b := b) C ha hb dX5_in_2 (by decide) (fun c2 => ?_) (fun c2 => ?_)
  ·
    refine j_iconst C (nI 0) dX5_in_14 (by decide) ?_
    refine j_zret C R (by decide) dX5_in_15 ?_
    exact ⟨rfl, by first | exact Or.inl ⟨rfl, by omega⟩ | exact Or.inr ⟨rfl, by omega⟩⟩
  ·
    refine j_iload_n C 0 dX5_in_5 rfl rfl ?_
    refine j_iload_n C 2 dX5_in_6 rfl rfl ?_
    refine j_icmp_gt (tgt := 14) (a := a) (b := c) C ha hc dX5_in_7 (by decide) (fun c7 => ?_) (fun c7 => ?_)
    ·
      refine j_iconst C (nI 0) dX5_in_14 (by decide) ?_
      refine j_zret C R (by decide) dX5_in_15 ?_
      exact ⟨rfl, by first | exact Or.inl ⟨rfl, by omega⟩ | exact Or.inr ⟨rfl, by omega⟩⟩
    ·
      refine j_iconst C (nI 1) dX5_in_10 (by decide) ?_
      refine j_goto (tgt := 15) C dX5_in_11 (by decide) ?_
      refine j_zret C R (by decide) dX5_in_15 ?_
      exact ⟨rfl, by first | exact Or.inl ⟨rfl, by omega⟩ | exact Or.inr ⟨rfl, by omega⟩⟩
set_option maxRecDepth 100000 in
set_option maxHeartbeats 4000000 in
theorem kX5_isPart {l : Launch} {D : va_G} {Y : YT} {b0 : Nat} {G : GT} (hD : GD b0 G) (hG : Gok 132 G) {Z : ZT} {np : Nat} (hnp : Z 113 1 = nI np) (hnp12 : np ≤ 12) {p0 : Int32} {b : Int} (hb : p0.toInt = b) : CI l D Y b0 G yX5_isPart cX5_isPart 2 (some .boolean) 1 [.ref (G.2.1 (113)), .int (p0)] Z (fun r Z' => Z' = Z ∧ (r = nI 1 ∧ (0 ≤ b ∧ b < (np : Int)) ∨ r = nI 0 ∧ (b < 0 ∨ (np : Int) ≤ b))) := by
  refine ci_start (lv0 := [(0, .ref (G.2.1 (113))), (1, .int (p0))]) hD rfl rfl (Nat.le_of_ble_eq_true rfl) rfl ?_
  intro E C R hR hD hN
  refine j_iload_n C 1 dX5_isPart_0 rfl rfl ?_
  refine j_iconst C (nI 0) dX5_isPart_1 (by decide) ?_
  refine j_aload_n C 0 dX5_isPart_2 rfl rfl ?_
  refine j_getI C zK5 (zb_M hG) (zs_M hG) (f := 1) (by decide) rfl zk_X5_75 rfl (nI np) hnp dX5_isPart_3 ?_
  refine j_iconst C (nI 1) dX5_isPart_6 (by decide) ?_
  refine j_isub C (nI np - nI 1) dX5_isPart_7 rfl ?_
  refine j_callS C hR (kX5_in hD hG (p0 := p0) (p1 := nI 0) (p2 := nI np - nI 1) (a := b) (b := ((0 : Nat) : Int)) (c := ((np : Nat) : Int) - ((1 : Nat) : Int)) hb (nI_toInt (by omega)) (pk_sub_toInt (by omega) (by omega))) [] zmX5_in rfl zk_X5_78 (by decide) rfl rfl (Nat.le_of_ble_eq_true rfl) dX5_isPart_8 (fun r8 Z8 h8 => ?_)
  obtain ⟨e8, ⟨rfl, h8⟩ | ⟨rfl, h8⟩⟩ := h8
  ·
    refine j_Z e8 ?_
    refine j_zret C R (by decide) dX5_isPart_11 ?_
    exact ⟨rfl, by first | exact Or.inl ⟨rfl, by omega⟩ | exact Or.inr ⟨rfl, by omega⟩⟩
  ·
    refine j_Z e8 ?_
    refine j_zret C R (by decide) dX5_isPart_11 ?_
    exact ⟨rfl, by first | exact Or.inl ⟨rfl, by omega⟩ | exact Or.inr ⟨rfl, by omega⟩⟩
set_option maxRecDepth 100000 in
set_option maxHeartbeats 4000000 in
theorem kX5_isReady {l : Launch} {D : va_G} {Y : YT} {b0 : Nat} {G : GT} (hD : GD b0 G) (hG : Gok 132 G) {Z : ZT} {i : Nat} (hi : i < 12) {rc : Int32} {rcI : Int} (hrc : Z 117 i = rc) (hrcI : rc.toInt = rcI) {po : Int32} {poI : Int} (hpo : Z 121 i = po) (hpoI : po.toInt = poI) : CI l D Y b0 G yX5_isReady cX5_isReady 2 (some .boolean) 0 [.ref (G.2.1 (113)), .int (nI i)] Z (fun r Z' => Z' = Z ∧ (r = nI 1 ∧ (poI < rcI) ∨ r = nI 0 ∧ (rcI ≤ poI))) := by
  refine ci_start (lv0 := [(0, .ref (G.2.1 (113))), (1, .int (nI i))]) hD rfl rfl (Nat.le_of_ble_eq_true rfl) rfl ?_
  intro E C R hR hD hN
  refine j_aload_n C 0 dX5_isReady_0 rfl rfl ?_
  refine j_getR C zK5 (zb_M hG) (zs_M hG) (f := 10) (by decide) rfl zk_X5_36 rfl (zf_M_10 hG) dX5_isReady_1 ?_
  refine j_iload_n C 1 dX5_isReady_4 rfl rfl ?_
  refine j_iald C (zb_rAt hG) (zs_rAt hG) (zl_rAt hG) rfl (by omega) (by decide) (po) hpo dX5_isReady_5 ?_
  refine j_aload_n C 0 dX5_isReady_6 rfl rfl ?_
  refine j_getR C zK5 (zb_M hG) (zs_M hG) (f := 6) (by decide) rfl zk_X5_24 rfl (zf_M_6 hG) dX5_isReady_7 ?_
  refine j_iload_n C 1 dX5_isReady_10 rfl rfl ?_
  refine j_iald C (zb_rRow hG) (zs_rRow hG) (zl_rRow hG) rfl (by omega) (by decide) (rc) hrc dX5_isReady_11 ?_
  refine j_icmp_ge (tgt := 19) (a := poI) (b := rcI) C hpoI hrcI dX5_isReady_12 (by decide) (fun c12 => ?_) (fun c12 => ?_)
  ·
    refine j_iconst C (nI 0) dX5_isReady_19 (by decide) ?_
    refine j_zret C R (by decide) dX5_isReady_20 ?_
    exact ⟨rfl, by first | exact Or.inl ⟨rfl, by omega⟩ | exact Or.inr ⟨rfl, by omega⟩⟩
  ·
    refine j_iconst C (nI 1) dX5_isReady_15 (by decide) ?_
    refine j_goto (tgt := 20) C dX5_isReady_16 (by decide) ?_
    refine j_zret C R (by decide) dX5_isReady_20 ?_
    exact ⟨rfl, by first | exact Or.inl ⟨rfl, by omega⟩ | exact Or.inr ⟨rfl, by omega⟩⟩
set_option maxRecDepth 100000 in
set_option maxHeartbeats 4000000 in
theorem kX5_isDone {l : Launch} {D : va_G} {Y : YT} {b0 : Nat} {G : GT} (hD : GD b0 G) (hG : Gok 132 G) {Z : ZT} {i : Nat} (hi : i < 12) {rc : Int32} {rcI : Int} (hrc : Z 117 i = rc) (hrcI : rc.toInt = rcI) {po : Int32} {poI : Int} (hpo : Z 121 i = po) (hpoI : po.toInt = poI) {en : Int32} {enI : Int} (hen : Z 118 i = en) (henI : en.toInt = enI) : CI l D Y b0 G yX5_isDone cX5_isDone 2 (some .boolean) 1 [.ref (G.2.1 (113)), .int (nI i)] Z (fun r Z' => Z' = Z ∧ (r = nI 1 ∧ (enI ≠ 0 ∧ rcI ≤ poI) ∨ r = nI 0 ∧ (enI = 0 ∨ poI < rcI))) := by
  refine ci_start (lv0 := [(0, .ref (G.2.1 (113))), (1, .int (nI i))]) hD rfl rfl (Nat.le_of_ble_eq_true rfl) rfl ?_
  intro E C R hR hD hN
  refine j_aload_n C 0 dX5_isDone_0 rfl rfl ?_
  refine j_getR C zK5 (zb_M hG) (zs_M hG) (f := 7) (by decide) rfl zk_X5_27 rfl (zf_M_7 hG) dX5_isDone_1 ?_
  refine j_iload_n C 1 dX5_isDone_4 rfl rfl ?_
  refine j_zald C (zb_rEnd hG) (zs_rEnd hG) (zl_rEnd hG) rfl (by omega) (by decide) (en) hen dX5_isDone_5 ?_
  refine j_if_eq (tgt := 21) (a := enI) C henI dX5_isDone_6 (by decide) (fun c6 => ?_) (fun c6 => ?_)
  ·
    refine j_iconst C (nI 0) dX5_isDone_21 (by decide) ?_
    refine j_zret C R (by decide) dX5_isDone_22 ?_
    exact ⟨rfl, by first | exact Or.inl ⟨rfl, by omega⟩ | exact Or.inr ⟨rfl, by omega⟩⟩
  ·
    refine j_aload_n C 0 dX5_isDone_9 rfl rfl ?_
    refine j_iload_n C 1 dX5_isDone_10 rfl rfl ?_
    refine j_callI C hR (kX5_isReady hD hG (i := i) (by omega) (rc := rc) (rcI := rcI) hrc hrcI (po := po) (poI := poI) hpo hpoI) [] zmX5_isReady zk_X5_82 zK5 (zb_M hG) (zs_M hG) (by decide) rfl rfl (Nat.le_of_ble_eq_true rfl) dX5_isDone_11 (fun r11 Z11 h11 => ?_)
    obtain ⟨e11, ⟨rfl, h11⟩ | ⟨rfl, h11⟩⟩ := h11
    ·
      refine j_Z e11 ?_
      refine j_if_ne (tgt := 21) (a := ((1 : Nat) : Int)) C (nI_toInt (by omega)) dX5_isDone_14 (by decide) (fun c14 => ?_) (fun c14 => absurd c14 (by omega))
      refine j_iconst C (nI 0) dX5_isDone_21 (by decide) ?_
      refine j_zret C R (by decide) dX5_isDone_22 ?_
      exact ⟨rfl, by first | exact Or.inl ⟨rfl, by omega⟩ | exact Or.inr ⟨rfl, by omega⟩⟩
    ·
      refine j_Z e11 ?_
      refine j_if_ne (tgt := 21) (a := ((0 : Nat) : Int)) C (nI_toInt (by omega)) dX5_isDone_14 (by decide) (fun c14 => absurd c14 (by omega)) (fun c14 => ?_)
      refine j_iconst C (nI 1) dX5_isDone_17 (by decide) ?_
      refine j_goto (tgt := 22) C dX5_isDone_18 (by decide) ?_
      refine j_zret C R (by decide) dX5_isDone_22 ?_
      exact ⟨rfl, by first | exact Or.inl ⟨rfl, by omega⟩ | exact Or.inr ⟨rfl, by omega⟩⟩
set_option maxRecDepth 100000 in
set_option maxHeartbeats 4000000 in
theorem kX5_reader {l : Launch} {D : va_G} {Y : YT} {b0 : Nat} {G : GT} (hD : GD b0 G) (hG : Gok 132 G) {Z : ZT} {i : Nat} (hi : i < 12) {re : Int32} (hre : Z 121 (36 + i) = re) : CI l D Y b0 G yX5_reader cX5_reader 2 (some .int) 0 [.ref (G.2.1 (113)), .int (nI i)] Z (fun r Z' => Z' = Z ∧ r = re) := by
  refine ci_start (lv0 := [(0, .ref (G.2.1 (113))), (1, .int (nI i))]) hD rfl rfl (Nat.le_of_ble_eq_true rfl) rfl ?_
  intro E C R hR hD hN
  refine j_aload_n C 0 dX5_reader_0 rfl rfl ?_
  refine j_getR C zK5 (zb_M hG) (zs_M hG) (f := 10) (by decide) rfl zk_X5_36 rfl (zf_M_10 hG) dX5_reader_1 ?_
  refine j_bipush C (nI 36) dX5_reader_4 (by decide) ?_
  refine j_iload_n C 1 dX5_reader_6 rfl rfl ?_
  refine j_iadd C (nI (36 + i)) dX5_reader_7 (nI_add 36 i) ?_
  refine j_iald C (zb_rAt hG) (zs_rAt hG) (zl_rAt hG) rfl (by omega) (by decide) (re) hre dX5_reader_8 ?_
  refine j_iret C R dX5_reader_9 ?_
  exact ⟨rfl, rfl⟩
set_option maxRecDepth 100000 in
set_option maxHeartbeats 4000000 in
theorem kX5_fresh {l : Launch} {D : va_G} {Y : YT} {b0 : Nat} {G : GT} (hD : GD b0 G) (hG : Gok 132 G) {Z : ZT} {i : Nat} (hi : i < 12) : CV l D Y b0 G yX5_fresh cX5_fresh 2 0 [.ref (G.2.1 (113)), .int (nI i)] Z (fun Z' => Z' = (zu (zu (zu (zu Z (121) (i) (nI 0)) (121) (12 + i) (-1)) (121) (24 + i) (nI 0)) (121) (36 + i) (-1))) := by
  refine cv_start (lv0 := [(0, .ref (G.2.1 (113))), (1, .int (nI i))]) hD rfl (Nat.le_of_ble_eq_true rfl) rfl ?_
  intro E C R hR hD hN
  refine j_aload_n C 0 dX5_fresh_0 rfl rfl ?_
  refine j_getR C zK5 (zb_M hG) (zs_M hG) (f := 10) (by decide) rfl zk_X5_36 rfl (zf_M_10 hG) dX5_fresh_1 ?_
  refine j_iload_n C 1 dX5_fresh_4 rfl rfl ?_
  refine j_iconst C (nI 0) dX5_fresh_5 (by decide) ?_
  refine j_iast C hD (zb_rAt hG) (zs_rAt hG) (zl_rAt hG) rfl (by omega) (by decide) dX5_fresh_6 ?_
  refine j_aload_n C 0 dX5_fresh_7 rfl rfl ?_
  refine j_getR C zK5 (zb_M hG) (zs_M hG) (f := 10) (by decide) rfl zk_X5_36 rfl (zf_M_10 hG) dX5_fresh_8 ?_
  refine j_bipush C (nI 12) dX5_fresh_11 (by decide) ?_
  refine j_iload_n C 1 dX5_fresh_13 rfl rfl ?_
  refine j_iadd C (nI (12 + i)) dX5_fresh_14 (nI_add 12 i) ?_
  refine j_iconst C (-1) dX5_fresh_15 (by decide) ?_
  refine j_iast C hD (zb_rAt hG) (zs_rAt hG) (zl_rAt hG) rfl (by omega) (by decide) dX5_fresh_16 ?_
  refine j_aload_n C 0 dX5_fresh_17 rfl rfl ?_
  refine j_getR C zK5 (zb_M hG) (zs_M hG) (f := 10) (by decide) rfl zk_X5_36 rfl (zf_M_10 hG) dX5_fresh_18 ?_
  refine j_bipush C (nI 24) dX5_fresh_21 (by decide) ?_
  refine j_iload_n C 1 dX5_fresh_23 rfl rfl ?_
  refine j_iadd C (nI (24 + i)) dX5_fresh_24 (nI_add 24 i) ?_
  refine j_iconst C (nI 0) dX5_fresh_25 (by decide) ?_
  refine j_iast C hD (zb_rAt hG) (zs_rAt hG) (zl_rAt hG) rfl (by omega) (by decide) dX5_fresh_26 ?_
  refine j_aload_n C 0 dX5_fresh_27 rfl rfl ?_
  refine j_getR C zK5 (zb_M hG) (zs_M hG) (f := 10) (by decide) rfl zk_X5_36 rfl (zf_M_10 hG) dX5_fresh_28 ?_
  refine j_bipush C (nI 36) dX5_fresh_31 (by decide) ?_
  refine j_iload_n C 1 dX5_fresh_33 rfl rfl ?_
  refine j_iadd C (nI (36 + i)) dX5_fresh_34 (nI_add 36 i) ?_
  refine j_iconst C (-1) dX5_fresh_35 (by decide) ?_
  refine j_iast C hD (zb_rAt hG) (zs_rAt hG) (zl_rAt hG) rfl (by omega) (by decide) dX5_fresh_36 ?_
  refine j_ret C R dX5_fresh_37 ?_
  exact rfl
set_option maxRecDepth 100000 in
set_option maxHeartbeats 4000000 in
theorem kX5_adds {l : Launch} {D : va_G} {Y : YT} {b0 : Nat} {G : GT} (hD : GD b0 G) (hG : Gok 132 G) {Z : ZT} {np : Nat} (hnp : Z 113 1 = nI np) (hnp12 : np < 12) (p0 p1 : Int32) : CI l D Y b0 G yX5_adds cX5_adds 3 (some .int) 1 [.ref (G.2.1 (113)), .int (p0), .int (p1)] Z (fun r Z' => Z' = (zu (zu (zu (zu (zu (zu (zu (zu (zu Z (117) (np) (nI 0)) (118) (np) (nI 0)) (119) (np) (p0)) (120) (np) (p1)) (121) (np) (nI 0)) (121) (12 + np) (-1)) (121) (24 + np) (nI 0)) (121) (36 + np) (-1)) (113) (1) (nI (np + 1))) ∧ r = nI np) := by
  refine ci_start (lv0 := [(0, .ref (G.2.1 (113))), (1, .int (p0)), (2, .int (p1))]) hD rfl rfl (Nat.le_of_ble_eq_true rfl) rfl ?_
  intro E C R hR hD hN
  refine j_aload_n C 0 dX5_adds_0 rfl rfl ?_
  refine j_getR C zK5 (zb_M hG) (zs_M hG) (f := 6) (by decide) rfl zk_X5_24 rfl (zf_M_6 hG) dX5_adds_1 ?_
  refine j_aload_n C 0 dX5_adds_4 rfl rfl ?_
  refine j_getI C zK5 (zb_M hG) (zs_M hG) (f := 1) (by decide) rfl zk_X5_75 rfl (nI np) hnp dX5_adds_5 ?_
  refine j_iconst C (nI 0) dX5_adds_8 (by decide) ?_
  refine j_iast C hD (zb_rRow hG) (zs_rRow hG) (zl_rRow hG) rfl (by omega) (by decide) dX5_adds_9 ?_
  refine j_aload_n C 0 dX5_adds_10 rfl rfl ?_
  refine j_getR C zK5 (zb_M hG) (zs_M hG) (f := 7) (by decide) rfl zk_X5_27 rfl (zf_M_7 hG) dX5_adds_11 ?_
  refine j_aload_n C 0 dX5_adds_14 rfl rfl ?_
  refine j_getI C zK5 (zb_M hG) (zs_M hG) (f := 1) (by decide) rfl zk_X5_75 rfl (nI np) ((zu_o (by omega)).trans (hnp)) dX5_adds_15 ?_
  refine j_iconst C (nI 0) dX5_adds_18 (by decide) ?_
  refine j_zast C hD (zb_rEnd hG) (zs_rEnd hG) (zl_rEnd hG) rfl (by omega) (by decide) (by decide) dX5_adds_19 ?_
  refine j_aload_n C 0 dX5_adds_20 rfl rfl ?_
  refine j_getR C zK5 (zb_M hG) (zs_M hG) (f := 8) (by decide) rfl zk_X5_30 rfl (zf_M_8 hG) dX5_adds_21 ?_
  refine j_aload_n C 0 dX5_adds_24 rfl rfl ?_
  refine j_getI C zK5 (zb_M hG) (zs_M hG) (f := 1) (by decide) rfl zk_X5_75 rfl (nI np) ((zu_o (by omega)).trans ((zu_o (by omega)).trans (hnp))) dX5_adds_25 ?_
  refine j_iload_n C 1 dX5_adds_28 rfl rfl ?_
  refine j_iast C hD (zb_rSha hG) (zs_rSha hG) (zl_rSha hG) rfl (by omega) (by decide) dX5_adds_29 ?_
  refine j_aload_n C 0 dX5_adds_30 rfl rfl ?_
  refine j_getR C zK5 (zb_M hG) (zs_M hG) (f := 9) (by decide) rfl zk_X5_33 rfl (zf_M_9 hG) dX5_adds_31 ?_
  refine j_aload_n C 0 dX5_adds_34 rfl rfl ?_
  refine j_getI C zK5 (zb_M hG) (zs_M hG) (f := 1) (by decide) rfl zk_X5_75 rfl (nI np) ((zu_o (by omega)).trans ((zu_o (by omega)).trans ((zu_o (by omega)).trans (hnp)))) dX5_adds_35 ?_
  refine j_iload_n C 2 dX5_adds_38 rfl rfl ?_
  refine j_iast C hD (zb_rOri hG) (zs_rOri hG) (zl_rOri hG) rfl (by omega) (by decide) dX5_adds_39 ?_
  refine j_aload_n C 0 dX5_adds_40 rfl rfl ?_
  refine j_aload_n C 0 dX5_adds_41 rfl rfl ?_
  refine j_getI C zK5 (zb_M hG) (zs_M hG) (f := 1) (by decide) rfl zk_X5_75 rfl (nI np) ((zu_o (by omega)).trans ((zu_o (by omega)).trans ((zu_o (by omega)).trans ((zu_o (by omega)).trans (hnp))))) dX5_adds_42 ?_
  refine j_callV C hR (kX5_fresh hD hG (i := np) (by omega)) [] zmX5_fresh zk_X5_86 zK5 (zb_M hG) (zs_M hG) (by decide) rfl rfl (Nat.le_of_ble_eq_true rfl) dX5_adds_45 (fun Z45 h45 => ?_)
  refine j_Z (Z' := (zu (zu (zu (zu (zu (zu (zu (zu Z (117) (np) (nI 0)) (118) (np) (nI 0)) (119) (np) (p0)) (120) (np) (p1)) (121) (np) (nI 0)) (121) (12 + np) (-1)) (121) (24 + np) (nI 0)) (121) (36 + np) (-1))) h45 ?_
  refine j_aload_n C 0 dX5_adds_48 rfl rfl ?_
  refine j_dup C dX5_adds_49 rfl ?_
  refine j_getI C zK5 (zb_M hG) (zs_M hG) (f := 1) (by decide) rfl zk_X5_75 rfl (nI np) ((zu_o (by omega)).trans ((zu_o (by omega)).trans ((zu_o (by omega)).trans ((zu_o (by omega)).trans ((zu_o (by omega)).trans ((zu_o (by omega)).trans ((zu_o (by omega)).trans ((zu_o (by omega)).trans (hnp))))))))) dX5_adds_50 ?_
  refine j_iconst C (nI 1) dX5_adds_53 (by decide) ?_
  refine j_iadd C (nI (np + 1)) dX5_adds_54 (nI_add np 1) ?_
  refine j_putI C hD zK5 (zb_M hG) (zs_M hG) (f := 1) (by decide) rfl zk_X5_75 rfl rfl rfl rfl dX5_adds_55 ?_
  refine j_aload_n C 0 dX5_adds_58 rfl rfl ?_
  refine j_getI C zK5 (zb_M hG) (zs_M hG) (f := 1) (by decide) rfl zk_X5_75 rfl (nI (np + 1)) zu_s dX5_adds_59 ?_
  refine j_iconst C (nI 1) dX5_adds_62 (by decide) ?_
  refine j_isub C (nI np) dX5_adds_63 (pk_sub (by omega)) ?_
  refine j_iret C R dX5_adds_64 ?_
  exact ⟨rfl, rfl⟩
set_option maxRecDepth 100000 in
set_option maxHeartbeats 4000000 in
theorem kX5_part {l : Launch} {D : va_G} {Y : YT} {b0 : Nat} {G : GT} (hD : GD b0 G) (hG : Gok 132 G) {Z : ZT} {np : Nat} (hnp : Z 113 1 = nI np) (hnp12 : np ≤ 12) (p0 : Int32) : CI l D Y b0 G yX5_part cX5_part 2 (some .int) 2 [.ref (G.2.1 (113)), .int (p0)] Z (fun r Z' => ((p0.toInt < 1 ∨ 9 < p0.toInt) ∧ r = (-12) ∧ Z' = (zu Z 113 0 (nI 0))) ∨ ((1 ≤ p0.toInt ∧ p0.toInt ≤ 9 ∧ 12 ≤ np) ∧ r = (-14) ∧ Z' = (zu Z 113 0 (nI 0))) ∨ ((1 ≤ p0.toInt ∧ p0.toInt ≤ 9 ∧ np < 12) ∧ r = nI np ∧ Z' = (zu (zu (zu (zu (zu (zu (zu (zu (zu (zu Z (113) (0) (nI 0)) (117) (np) (nI 0)) (118) (np) (nI 0)) (119) (np) (p0)) (120) (np) (-1)) (121) (np) (nI 0)) (121) (12 + np) (-1)) (121) (24 + np) (nI 0)) (121) (36 + np) (-1)) (113) (1) (nI (np + 1))))) := by
  refine ci_start (lv0 := [(0, .ref (G.2.1 (113))), (1, .int (p0))]) hD rfl rfl (Nat.le_of_ble_eq_true rfl) rfl ?_
  intro E C R hR hD hN
  refine j_aload_n C 0 dX5_part_0 rfl rfl ?_
  refine j_iconst C (nI 0) dX5_part_1 (by decide) ?_
  refine j_putI C hD zK5 (zb_M hG) (zs_M hG) (f := 0) (by decide) rfl zk_X5_72 rfl rfl rfl rfl dX5_part_2 ?_
  refine j_iload_n C 1 dX5_part_5 rfl rfl ?_
  refine j_iconst C (nI 1) dX5_part_6 (by decide) ?_
  refine j_bipush C (nI 9) dX5_part_7 (by decide) ?_
  refine j_callS C hR (kX5_in hD hG (p0 := p0) (p1 := nI 1) (p2 := nI 9) (a := (p0).toInt) (b := ((1 : Nat) : Int)) (c := ((9 : Nat) : Int)) rfl (nI_toInt (by omega)) (nI_toInt (by omega))) [] zmX5_in rfl zk_X5_78 (by decide) rfl rfl (Nat.le_of_ble_eq_true rfl) dX5_part_9 (fun r9 Z9 h9 => ?_)
  obtain ⟨e9, ⟨rfl, h9⟩ | ⟨rfl, h9⟩⟩ := h9
  ·
    refine j_Z e9 ?_
    refine j_if_ne (tgt := 20) (a := ((1 : Nat) : Int)) C (nI_toInt (by omega)) dX5_part_12 (by decide) (fun c12 => ?_) (fun c12 => absurd c12 (by omega))
    refine j_aload_n C 0 dX5_part_20 rfl rfl ?_
    refine j_getI C zK5 (zb_M hG) (zs_M hG) (f := 1) (by decide) rfl zk_X5_75 rfl (nI np) ((zu_o (by omega)).trans (hnp)) dX5_part_21 ?_
    refine j_bipush C (nI 12) dX5_part_24 (by decide) ?_
    refine j_icmp_ne (tgt := 34) (a := ((np : Nat) : Int)) (b := ((12 : Nat) : Int)) C (nI_toInt (by omega)) (nI_toInt (by omega)) dX5_part_26 (by decide) (fun c26 => ?_) (fun c26 => ?_)
    ·
      refine j_aload_n C 0 dX5_part_34 rfl rfl ?_
      refine j_iload_n C 1 dX5_part_35 rfl rfl ?_
      refine j_iconst C (-1) dX5_part_36 (by decide) ?_
      refine j_callI C hR (kX5_adds hD hG (np := np) ((zu_o (by omega)).trans (hnp)) (by omega) (p0) (-1)) [] zmX5_adds zk_X5_90 zK5 (zb_M hG) (zs_M hG) (by decide) rfl rfl (Nat.le_of_ble_eq_true rfl) dX5_part_37 (fun r37 Z37 h37 => ?_)
      obtain ⟨h37, rfl⟩ := h37
      refine j_Z (Z' := (zu (zu (zu (zu (zu (zu (zu (zu (zu (zu Z (113) (0) (nI 0)) (117) (np) (nI 0)) (118) (np) (nI 0)) (119) (np) (p0)) (120) (np) (-1)) (121) (np) (nI 0)) (121) (12 + np) (-1)) (121) (24 + np) (nI 0)) (121) (36 + np) (-1)) (113) (1) (nI (np + 1)))) h37 ?_
      refine j_iret C R dX5_part_40 ?_
      first | exact Or.inl ⟨by omega, rfl, rfl⟩ | exact Or.inr (Or.inl ⟨by omega, rfl, rfl⟩) | exact Or.inr (Or.inr (⟨by omega, rfl, rfl⟩))
    ·
      refine j_bipush C (-14) dX5_part_29 (by decide) ?_
      refine j_goto (tgt := 40) C dX5_part_31 (by decide) ?_
      refine j_iret C R dX5_part_40 ?_
      first | exact Or.inl ⟨by omega, rfl, rfl⟩ | exact Or.inr (Or.inl ⟨by omega, rfl, rfl⟩) | exact Or.inr (Or.inr (⟨by omega, rfl, rfl⟩))
  ·
    refine j_Z e9 ?_
    refine j_if_ne (tgt := 20) (a := ((0 : Nat) : Int)) C (nI_toInt (by omega)) dX5_part_12 (by decide) (fun c12 => absurd c12 (by omega)) (fun c12 => ?_)
    refine j_bipush C (-12) dX5_part_15 (by decide) ?_
    refine j_goto (tgt := 40) C dX5_part_17 (by decide) ?_
    refine j_iret C R dX5_part_40 ?_
    first | exact Or.inl ⟨by omega, rfl, rfl⟩ | exact Or.inr (Or.inl ⟨by omega, rfl, rfl⟩) | exact Or.inr (Or.inr (⟨by omega, rfl, rfl⟩))
set_option maxRecDepth 100000 in
set_option maxHeartbeats 4000000 in
theorem kX5_lays {l : Launch} {D : va_G} {Y : YT} {b0 : Nat} {G : GT} (hD : GD b0 G) (hG : Gok 132 G) {Z : ZT} {i : Nat} (hi : i < 12) {k : Nat} (hk : Z 117 i = nI k) (hk40 : k < 40) (p1 p2 : Int32) {p3 : Int32} (hz : p3 = 0 ∨ p3 = 1) : CV l D Y b0 G yX5_lays cX5_lays 6 0 [.ref (G.2.1 (113)), .int (nI i), .int (p1), .int (p2), .int (p3)] Z (fun Z' => Z' = (zu (zu (zu (zu Z (114) (40 * i + k) (p1)) (115) (40 * i + k) (p2)) (116) (40 * i + k) (p3)) (117) (i) (nI (k + 1)))) := by
  refine cv_start (lv0 := [(0, .ref (G.2.1 (113))), (1, .int (nI i)), (2, .int (p1)), (3, .int (p2)), (4, .int (p3))]) hD rfl (Nat.le_of_ble_eq_true rfl) rfl ?_
  intro E C R hR hD hN
  refine j_bipush C (nI 40) dX5_lays_0 (by decide) ?_
  refine j_iload_n C 1 dX5_lays_2 rfl rfl ?_
  refine j_imul C (nI (40 * i)) dX5_lays_3 (pk_mul 40 i) ?_
  refine j_aload_n C 0 dX5_lays_4 rfl rfl ?_
  refine j_getR C zK5 (zb_M hG) (zs_M hG) (f := 6) (by decide) rfl zk_X5_24 rfl (zf_M_6 hG) dX5_lays_5 ?_
  refine j_iload_n C 1 dX5_lays_8 rfl rfl ?_
  refine j_iald C (zb_rRow hG) (zs_rRow hG) (zl_rRow hG) rfl (by omega) (by decide) (nI k) hk dX5_lays_9 ?_
  refine j_iadd C (nI (40 * i + k)) dX5_lays_10 (nI_add (40 * i) k) ?_
  refine j_istore (lv' := [(5, .int (nI (40 * i + k))), (0, .ref (G.2.1 (113))), (1, .int (nI i)), (2, .int (p1)), (3, .int (p2)), (4, .int (p3))]) C dX5_lays_11 (by rw [hN]; decide) rfl ?_
  refine j_aload_n C 1 dX5_lays_13 rfl rfl ?_
  refine j_getR C zK5 (zb_M hG) (zs_M hG) (f := 3) (by decide) rfl zk_X5_13 rfl (zf_M_3 hG) dX5_lays_14 ?_
  refine j_iload C 0 dX5_lays_17 rfl ?_
  refine j_iload_n C 3 dX5_lays_19 rfl rfl ?_
  refine j_iast C hD (zb_rNum hG) (zs_rNum hG) (zl_rNum hG) rfl (by omega) (by decide) dX5_lays_20 ?_
  refine j_aload_n C 1 dX5_lays_21 rfl rfl ?_
  refine j_getR C zK5 (zb_M hG) (zs_M hG) (f := 4) (by decide) rfl zk_X5_17 rfl (zf_M_4 hG) dX5_lays_22 ?_
  refine j_iload C 0 dX5_lays_25 rfl ?_
  refine j_iload_n C 4 dX5_lays_27 rfl rfl ?_
  refine j_iast C hD (zb_rTim hG) (zs_rTim hG) (zl_rTim hG) rfl (by omega) (by decide) dX5_lays_28 ?_
  refine j_aload_n C 1 dX5_lays_29 rfl rfl ?_
  refine j_getR C zK5 (zb_M hG) (zs_M hG) (f := 5) (by decide) rfl zk_X5_20 rfl (zf_M_5 hG) dX5_lays_30 ?_
  refine j_iload C 0 dX5_lays_33 rfl ?_
  refine j_iload C 5 dX5_lays_35 rfl ?_
  refine j_zast C hD (zb_rSnd hG) (zs_rSnd hG) (zl_rSnd hG) rfl (by omega) (by decide) hz dX5_lays_37 ?_
  refine j_aload_n C 1 dX5_lays_38 rfl rfl ?_
  refine j_getR C zK5 (zb_M hG) (zs_M hG) (f := 6) (by decide) rfl zk_X5_24 rfl (zf_M_6 hG) dX5_lays_39 ?_
  refine j_iload_n C 2 dX5_lays_42 rfl rfl ?_
  refine j_dup2 C dX5_lays_43 rfl rfl ?_
  refine j_iald C (zb_rRow hG) (zs_rRow hG) (zl_rRow hG) rfl (by omega) (by decide) (nI k) ((zu_o (by omega)).trans ((zu_o (by omega)).trans ((zu_o (by omega)).trans (hk)))) dX5_lays_44 ?_
  refine j_iconst C (nI 1) dX5_lays_45 (by decide) ?_
  refine j_iadd C (nI (k + 1)) dX5_lays_46 (nI_add k 1) ?_
  refine j_iast C hD (zb_rRow hG) (zs_rRow hG) (zl_rRow hG) rfl (by omega) (by decide) dX5_lays_47 ?_
  refine j_ret C R dX5_lays_48 ?_
  exact rfl
set_option maxRecDepth 100000 in
set_option maxHeartbeats 4000000 in
theorem kX5_row {l : Launch} {D : va_G} {Y : YT} {b0 : Nat} {G : GT} (hD : GD b0 G) (hG : Gok 132 G) {Z : ZT} {np : Nat} (hnp : Z 113 1 = nI np) (hnp12 : np ≤ 12) {rc : Nat → Nat} (hrc : ∀ i, i < np → Z 117 i = nI (rc i) ∧ rc i ≤ 40) (p0 p1 p2 : Int32) {p3 : Int32} (hz : p3 = 0 ∨ p3 = 1) : CI l D Y b0 G yX5_row cX5_row 5 (some .int) 2 [.ref (G.2.1 (113)), .int (p0), .int (p1), .int (p2), .int (p3)] Z (fun r Z' => ((p0.toInt < 0 ∨ (np : Int) ≤ p0.toInt) ∧ r = (-11) ∧ Z' = (zu Z 113 0 (nI 0))) ∨ ∃ p : Nat, p < np ∧ p0 = nI p ∧ (((p1.toInt < 0 ∨ 255 < p1.toInt ∨ p2.toInt < 0 ∨ 100000 < p2.toInt) ∧ r = (-12) ∧ Z' = (zu Z 113 0 (nI 0))) ∨ ((0 ≤ p1.toInt ∧ p1.toInt ≤ 255 ∧ 0 ≤ p2.toInt ∧ p2.toInt ≤ 100000 ∧ (Z 118 p).toInt ≠ 0) ∧ r = (-13) ∧ Z' = (zu Z 113 0 (nI 0))) ∨ ((0 ≤ p1.toInt ∧ p1.toInt ≤ 255 ∧ 0 ≤ p2.toInt ∧ p2.toInt ≤ 100000 ∧ (Z 118 p).toInt = 0 ∧ 40 ≤ rc p) ∧ r = (-14) ∧ Z' = (zu Z 113 0 (nI 0))) ∨ ((0 ≤ p1.toInt ∧ p1.toInt ≤ 255 ∧ 0 ≤ p2.toInt ∧ p2.toInt ≤ 100000 ∧ (Z 118 p).toInt = 0 ∧ rc p < 40) ∧ r = nI (rc p + 1) ∧ Z' = (zu (zu (zu (zu (zu Z (113) (0) (nI 0)) (114) (40 * p + (rc p)) (p1)) (115) (40 * p + (rc p)) (p2)) (116) (40 * p + (rc p)) (p3)) (117) (p) (nI (rc p + 1)))))) := by
  refine ci_start (lv0 := [(0, .ref (G.2.1 (113))), (1, .int (p0)), (2, .int (p1)), (3, .int (p2)), (4, .int (p3))]) hD rfl rfl (Nat.le_of_ble_eq_true rfl) rfl ?_
  intro E C R hR hD hN
  refine j_aload_n C 0 dX5_row_0 rfl rfl ?_
  refine j_iconst C (nI 0) dX5_row_1 (by decide) ?_
  refine j_putI C hD zK5 (zb_M hG) (zs_M hG) (f := 0) (by decide) rfl zk_X5_72 rfl rfl rfl rfl dX5_row_2 ?_
  refine j_aload_n C 0 dX5_row_5 rfl rfl ?_
  refine j_iload_n C 1 dX5_row_6 rfl rfl ?_
  refine j_callI C hR (kX5_isPart hD hG (np := np) ((zu_o (by omega)).trans (hnp)) (by omega) (p0 := p0) (b := (p0).toInt) rfl) [] zmX5_isPart zk_X5_94 zK5 (zb_M hG) (zs_M hG) (by decide) rfl rfl (Nat.le_of_ble_eq_true rfl) dX5_row_7 (fun r7 Z7 h7 => ?_)
  obtain ⟨e7, ⟨rfl, h7⟩ | ⟨rfl, h7⟩⟩ := h7
  ·
    refine j_Z e7 ?_
    refine j_if_ne (tgt := 16) (a := ((1 : Nat) : Int)) C (nI_toInt (by omega)) dX5_row_10 (by decide) (fun c10 => ?_) (fun c10 => absurd c10 (by omega))
    obtain ⟨p, hp, rfl⟩ := zi_nat (x := p0) (n := np) (by omega) (by omega)
    obtain ⟨hrcp, hrc40⟩ := hrc p hp
    refine j_iload_n C 2 dX5_row_16 rfl rfl ?_
    refine j_iconst C (nI 0) dX5_row_17 (by decide) ?_
    refine j_sipush C (nI 255) dX5_row_18 (by decide) ?_
    refine j_callS C hR (kX5_in hD hG (p0 := p1) (p1 := nI 0) (p2 := nI 255) (a := (p1).toInt) (b := ((0 : Nat) : Int)) (c := ((255 : Nat) : Int)) rfl (nI_toInt (by omega)) (nI_toInt (by omega))) [] zmX5_in rfl zk_X5_78 (by decide) rfl rfl (Nat.le_of_ble_eq_true rfl) dX5_row_21 (fun r21 Z21 h21 => ?_)
    obtain ⟨e21, ⟨rfl, h21⟩ | ⟨rfl, h21⟩⟩ := h21
    ·
      refine j_Z e21 ?_
      refine j_if_eq (tgt := 37) (a := ((1 : Nat) : Int)) C (nI_toInt (by omega)) dX5_row_24 (by decide) (fun c24 => absurd c24 (by omega)) (fun c24 => ?_)
      refine j_iload_n C 3 dX5_row_27 rfl rfl ?_
      refine j_iconst C (nI 0) dX5_row_28 (by decide) ?_
      refine j_ldc C (nI 100000) zk_X5_97 dX5_row_29 ?_
      refine j_callS C hR (kX5_in hD hG (p0 := p2) (p1 := nI 0) (p2 := nI 100000) (a := (p2).toInt) (b := ((0 : Nat) : Int)) (c := ((100000 : Nat) : Int)) rfl (nI_toInt (by omega)) (nI_toInt (by omega))) [] zmX5_in rfl zk_X5_78 (by decide) rfl rfl (Nat.le_of_ble_eq_true rfl) dX5_row_31 (fun r31 Z31 h31 => ?_)
      obtain ⟨e31, ⟨rfl, h31⟩ | ⟨rfl, h31⟩⟩ := h31
      ·
        refine j_Z e31 ?_
        refine j_if_ne (tgt := 40) (a := ((1 : Nat) : Int)) C (nI_toInt (by omega)) dX5_row_34 (by decide) (fun c34 => ?_) (fun c34 => absurd c34 (by omega))
        refine j_aload_n C 0 dX5_row_40 rfl rfl ?_
        refine j_getR C zK5 (zb_M hG) (zs_M hG) (f := 7) (by decide) rfl zk_X5_27 rfl (zf_M_7 hG) dX5_row_41 ?_
        refine j_iload_n C 1 dX5_row_44 rfl rfl ?_
        refine j_zald C (zb_rEnd hG) (zs_rEnd hG) (zl_rEnd hG) rfl (by omega) (by decide) (Z 118 p) (zu_o (by omega)) dX5_row_45 ?_
        refine j_if_eq (tgt := 52) (a := (Z 118 p).toInt) C rfl dX5_row_46 (by decide) (fun c46 => ?_) (fun c46 => ?_)
        ·
          refine j_aload_n C 0 dX5_row_52 rfl rfl ?_
          refine j_getR C zK5 (zb_M hG) (zs_M hG) (f := 6) (by decide) rfl zk_X5_24 rfl (zf_M_6 hG) dX5_row_53 ?_
          refine j_iload_n C 1 dX5_row_56 rfl rfl ?_
          refine j_iald C (zb_rRow hG) (zs_rRow hG) (zl_rRow hG) rfl (by omega) (by decide) (nI (rc p)) ((zu_o (by omega)).trans (hrcp)) dX5_row_57 ?_
          refine j_bipush C (nI 40) dX5_row_58 (by decide) ?_
          refine j_icmp_ne (tgt := 66) (a := ((rc p : Nat) : Int)) (b := ((40 : Nat) : Int)) C (nI_toInt (by omega)) (nI_toInt (by omega)) dX5_row_60 (by decide) (fun c60 => ?_) (fun c60 => ?_)
          ·
            refine j_aload_n C 0 dX5_row_66 rfl rfl ?_
            refine j_iload_n C 1 dX5_row_67 rfl rfl ?_
            refine j_iload_n C 2 dX5_row_68 rfl rfl ?_
            refine j_iload_n C 3 dX5_row_69 rfl rfl ?_
            refine j_iload C 4 dX5_row_70 rfl ?_
            refine j_callV C hR (kX5_lays hD hG (i := p) (by omega) (k := rc p) ((zu_o (by omega)).trans (hrcp)) (by omega) (p1) (p2) hz) [] zmX5_lays zk_X5_98 zK5 (zb_M hG) (zs_M hG) (by decide) rfl rfl (Nat.le_of_ble_eq_true rfl) dX5_row_72 (fun Z72 h72 => ?_)
            refine j_Z (Z' := (zu (zu (zu (zu (zu Z (113) (0) (nI 0)) (114) (40 * p + (rc p)) (p1)) (115) (40 * p + (rc p)) (p2)) (116) (40 * p + (rc p)) (p3)) (117) (p) (nI (rc p + 1)))) h72 ?_
            refine j_aload_n C 0 dX5_row_75 rfl rfl ?_
            refine j_getR C zK5 (zb_M hG) (zs_M hG) (f := 6) (by decide) rfl zk_X5_24 rfl (zf_M_6 hG) dX5_row_76 ?_
            refine j_iload_n C 1 dX5_row_79 rfl rfl ?_
            refine j_iald C (zb_rRow hG) (zs_rRow hG) (zl_rRow hG) rfl (by omega) (by decide) (nI (rc p + 1)) zu_s dX5_row_80 ?_
            refine j_iret C R dX5_row_81 ?_
            first | exact Or.inr ⟨p, hp, rfl, (Or.inl ⟨by omega, rfl, rfl⟩)⟩ | exact Or.inr ⟨p, hp, rfl, (Or.inr (Or.inl ⟨by omega, rfl, rfl⟩))⟩ | exact Or.inr ⟨p, hp, rfl, (Or.inr (Or.inr (Or.inl ⟨by omega, rfl, rfl⟩)))⟩ | exact Or.inr ⟨p, hp, rfl, (Or.inr (Or.inr (Or.inr (⟨by omega, rfl, rfl⟩))))⟩
          ·
            refine j_bipush C (-14) dX5_row_63 (by decide) ?_
            refine j_iret C R dX5_row_65 ?_
            first | exact Or.inr ⟨p, hp, rfl, (Or.inl ⟨by omega, rfl, rfl⟩)⟩ | exact Or.inr ⟨p, hp, rfl, (Or.inr (Or.inl ⟨by omega, rfl, rfl⟩))⟩ | exact Or.inr ⟨p, hp, rfl, (Or.inr (Or.inr (Or.inl ⟨by omega, rfl, rfl⟩)))⟩ | exact Or.inr ⟨p, hp, rfl, (Or.inr (Or.inr (Or.inr (⟨by omega, rfl, rfl⟩))))⟩
        ·
          refine j_bipush C (-13) dX5_row_49 (by decide) ?_
          refine j_iret C R dX5_row_51 ?_
          first | exact Or.inr ⟨p, hp, rfl, (Or.inl ⟨by omega, rfl, rfl⟩)⟩ | exact Or.inr ⟨p, hp, rfl, (Or.inr (Or.inl ⟨by omega, rfl, rfl⟩))⟩ | exact Or.inr ⟨p, hp, rfl, (Or.inr (Or.inr (Or.inl ⟨by omega, rfl, rfl⟩)))⟩ | exact Or.inr ⟨p, hp, rfl, (Or.inr (Or.inr (Or.inr (⟨by omega, rfl, rfl⟩))))⟩
      ·
        refine j_Z e31 ?_
        refine j_if_ne (tgt := 40) (a := ((0 : Nat) : Int)) C (nI_toInt (by omega)) dX5_row_34 (by decide) (fun c34 => absurd c34 (by omega)) (fun c34 => ?_)
        refine j_bipush C (-12) dX5_row_37 (by decide) ?_
        refine j_iret C R dX5_row_39 ?_
        first | exact Or.inr ⟨p, hp, rfl, (Or.inl ⟨by omega, rfl, rfl⟩)⟩ | exact Or.inr ⟨p, hp, rfl, (Or.inr (Or.inl ⟨by omega, rfl, rfl⟩))⟩ | exact Or.inr ⟨p, hp, rfl, (Or.inr (Or.inr (Or.inl ⟨by omega, rfl, rfl⟩)))⟩ | exact Or.inr ⟨p, hp, rfl, (Or.inr (Or.inr (Or.inr (⟨by omega, rfl, rfl⟩))))⟩
    ·
      refine j_Z e21 ?_
      refine j_if_eq (tgt := 37) (a := ((0 : Nat) : Int)) C (nI_toInt (by omega)) dX5_row_24 (by decide) (fun c24 => ?_) (fun c24 => absurd c24 (by omega))
      refine j_bipush C (-12) dX5_row_37 (by decide) ?_
      refine j_iret C R dX5_row_39 ?_
      first | exact Or.inr ⟨p, hp, rfl, (Or.inl ⟨by omega, rfl, rfl⟩)⟩ | exact Or.inr ⟨p, hp, rfl, (Or.inr (Or.inl ⟨by omega, rfl, rfl⟩))⟩ | exact Or.inr ⟨p, hp, rfl, (Or.inr (Or.inr (Or.inl ⟨by omega, rfl, rfl⟩)))⟩ | exact Or.inr ⟨p, hp, rfl, (Or.inr (Or.inr (Or.inr (⟨by omega, rfl, rfl⟩))))⟩
  ·
    refine j_Z e7 ?_
    refine j_if_ne (tgt := 16) (a := ((0 : Nat) : Int)) C (nI_toInt (by omega)) dX5_row_10 (by decide) (fun c10 => absurd c10 (by omega)) (fun c10 => ?_)
    refine j_bipush C (-11) dX5_row_13 (by decide) ?_
    refine j_iret C R dX5_row_15 ?_
    exact Or.inl ⟨by omega, rfl, rfl⟩
set_option maxRecDepth 100000 in
set_option maxHeartbeats 4000000 in
theorem kX5_end {l : Launch} {D : va_G} {Y : YT} {b0 : Nat} {G : GT} (hD : GD b0 G) (hG : Gok 132 G) {Z : ZT} {np : Nat} (hnp : Z 113 1 = nI np) (hnp12 : np ≤ 12) {rc : Nat → Nat} (hrc : ∀ i, i < np → Z 117 i = nI (rc i) ∧ rc i ≤ 40) (p0 : Int32) : CI l D Y b0 G yX5_end cX5_end 2 (some .int) 2 [.ref (G.2.1 (113)), .int (p0)] Z (fun r Z' => ((p0.toInt < 0 ∨ (np : Int) ≤ p0.toInt) ∧ r = (-11) ∧ Z' = (zu Z 113 0 (nI 0))) ∨ ∃ p : Nat, p < np ∧ p0 = nI p ∧ ((((Z 118 p).toInt ≠ 0) ∧ r = (-13) ∧ Z' = (zu Z 113 0 (nI 0))) ∨ (((Z 118 p).toInt = 0) ∧ r = nI (rc p) ∧ Z' = zu (zu Z 113 0 (nI 0)) 118 p (nI 1)))) := by
  refine ci_start (lv0 := [(0, .ref (G.2.1 (113))), (1, .int (p0))]) hD rfl rfl (Nat.le_of_ble_eq_true rfl) rfl ?_
  intro E C R hR hD hN
  refine j_aload_n C 0 dX5_end_0 rfl rfl ?_
  refine j_iconst C (nI 0) dX5_end_1 (by decide) ?_
  refine j_putI C hD zK5 (zb_M hG) (zs_M hG) (f := 0) (by decide) rfl zk_X5_72 rfl rfl rfl rfl dX5_end_2 ?_
  refine j_aload_n C 0 dX5_end_5 rfl rfl ?_
  refine j_iload_n C 1 dX5_end_6 rfl rfl ?_
  refine j_callI C hR (kX5_isPart hD hG (np := np) ((zu_o (by omega)).trans (hnp)) (by omega) (p0 := p0) (b := (p0).toInt) rfl) [] zmX5_isPart zk_X5_94 zK5 (zb_M hG) (zs_M hG) (by decide) rfl rfl (Nat.le_of_ble_eq_true rfl) dX5_end_7 (fun r7 Z7 h7 => ?_)
  obtain ⟨e7, ⟨rfl, h7⟩ | ⟨rfl, h7⟩⟩ := h7
  ·
    refine j_Z e7 ?_
    refine j_if_ne (tgt := 16) (a := ((1 : Nat) : Int)) C (nI_toInt (by omega)) dX5_end_10 (by decide) (fun c10 => ?_) (fun c10 => absurd c10 (by omega))
    obtain ⟨p, hp, rfl⟩ := zi_nat (x := p0) (n := np) (by omega) (by omega)
    obtain ⟨hrcp, hrc40⟩ := hrc p hp
    refine j_aload_n C 0 dX5_end_16 rfl rfl ?_
    refine j_getR C zK5 (zb_M hG) (zs_M hG) (f := 7) (by decide) rfl zk_X5_27 rfl (zf_M_7 hG) dX5_end_17 ?_
    refine j_iload_n C 1 dX5_end_20 rfl rfl ?_
    refine j_zald C (zb_rEnd hG) (zs_rEnd hG) (zl_rEnd hG) rfl (by omega) (by decide) (Z 118 p) (zu_o (by omega)) dX5_end_21 ?_
    refine j_if_eq (tgt := 28) (a := (Z 118 p).toInt) C rfl dX5_end_22 (by decide) (fun c22 => ?_) (fun c22 => ?_)
    ·
      refine j_aload_n C 0 dX5_end_28 rfl rfl ?_
      refine j_getR C zK5 (zb_M hG) (zs_M hG) (f := 7) (by decide) rfl zk_X5_27 rfl (zf_M_7 hG) dX5_end_29 ?_
      refine j_iload_n C 1 dX5_end_32 rfl rfl ?_
      refine j_iconst C (nI 1) dX5_end_33 (by decide) ?_
      refine j_zast C hD (zb_rEnd hG) (zs_rEnd hG) (zl_rEnd hG) rfl (by omega) (by decide) (by decide) dX5_end_34 ?_
      refine j_aload_n C 0 dX5_end_35 rfl rfl ?_
      refine j_getR C zK5 (zb_M hG) (zs_M hG) (f := 6) (by decide) rfl zk_X5_24 rfl (zf_M_6 hG) dX5_end_36 ?_
      refine j_iload_n C 1 dX5_end_39 rfl rfl ?_
      refine j_iald C (zb_rRow hG) (zs_rRow hG) (zl_rRow hG) rfl (by omega) (by decide) (nI (rc p)) ((zu_o (by omega)).trans ((zu_o (by omega)).trans (hrcp))) dX5_end_40 ?_
      refine j_iret C R dX5_end_41 ?_
      first | exact Or.inr ⟨p, hp, rfl, (Or.inl ⟨by omega, rfl, rfl⟩)⟩ | exact Or.inr ⟨p, hp, rfl, (Or.inr (⟨by omega, rfl, rfl⟩))⟩
    ·
      refine j_bipush C (-13) dX5_end_25 (by decide) ?_
      refine j_iret C R dX5_end_27 ?_
      first | exact Or.inr ⟨p, hp, rfl, (Or.inl ⟨by omega, rfl, rfl⟩)⟩ | exact Or.inr ⟨p, hp, rfl, (Or.inr (⟨by omega, rfl, rfl⟩))⟩
  ·
    refine j_Z e7 ?_
    refine j_if_ne (tgt := 16) (a := ((0 : Nat) : Int)) C (nI_toInt (by omega)) dX5_end_10 (by decide) (fun c10 => absurd c10 (by omega)) (fun c10 => ?_)
    refine j_bipush C (-11) dX5_end_13 (by decide) ?_
    refine j_iret C R dX5_end_15 ?_
    exact Or.inl ⟨by omega, rfl, rfl⟩
set_option maxRecDepth 100000 in
set_option maxHeartbeats 4000000 in
theorem kX5_give {l : Launch} {D : va_G} {Y : YT} {b0 : Nat} {G : GT} (hD : GD b0 G) (hG : Gok 132 G) {Z : ZT} {np : Nat} (hnp : Z 113 1 = nI np) (hnp12 : np ≤ 12) {nt : Nat} (hnt : Z 113 2 = nI nt) (hnt6 : nt ≤ 6) (p0 p1 : Int32) : CI l D Y b0 G yX5_give cX5_give 4 (some .int) 2 [.ref (G.2.1 (113)), .int (p0), .int (p1)] Z (fun r Z' => ((p0.toInt < 0 ∨ (np : Int) ≤ p0.toInt ∨ (p1.toInt ≠ -1 ∧ (p1.toInt < 0 ∨ (nt : Int) ≤ p1.toInt))) ∧ r = (-11) ∧ Z' = (zu Z 113 0 (nI 0))) ∨ ∃ p : Nat, p < np ∧ p0 = nI p ∧ (p1.toInt = -1 ∨ (0 ≤ p1.toInt ∧ p1.toInt < (nt : Int))) ∧ (((dnM Z p = true) ∧ r = (-13) ∧ Z' = (zu Z 113 0 (nI 0))) ∨ ((dnM Z p = false) ∧ r = Z 121 (36 + p) ∧ Z' = zu (zu Z 113 0 (nI 0)) 121 (36 + p) p1))) := by
  refine ci_start (lv0 := [(0, .ref (G.2.1 (113))), (1, .int (p0)), (2, .int (p1))]) hD rfl rfl (Nat.le_of_ble_eq_true rfl) rfl ?_
  intro E C R hR hD hN
  refine j_aload_n C 0 dX5_give_0 rfl rfl ?_
  refine j_iconst C (nI 0) dX5_give_1 (by decide) ?_
  refine j_putI C hD zK5 (zb_M hG) (zs_M hG) (f := 0) (by decide) rfl zk_X5_72 rfl rfl rfl rfl dX5_give_2 ?_
  refine j_aload_n C 0 dX5_give_5 rfl rfl ?_
  refine j_iload_n C 1 dX5_give_6 rfl rfl ?_
  refine j_callI C hR (kX5_isPart hD hG (np := np) ((zu_o (by omega)).trans (hnp)) (by omega) (p0 := p0) (b := (p0).toInt) rfl) [] zmX5_isPart zk_X5_94 zK5 (zb_M hG) (zs_M hG) (by decide) rfl rfl (Nat.le_of_ble_eq_true rfl) dX5_give_7 (fun r7 Z7 h7 => ?_)
  obtain ⟨e7, ⟨rfl, h7⟩ | ⟨rfl, h7⟩⟩ := h7
  ·
    refine j_Z e7 ?_
    refine j_if_eq (tgt := 32) (a := ((1 : Nat) : Int)) C (nI_toInt (by omega)) dX5_give_10 (by decide) (fun c10 => absurd c10 (by omega)) (fun c10 => ?_)
    refine j_iload_n C 2 dX5_give_13 rfl rfl ?_
    refine j_iconst C (-1) dX5_give_14 (by decide) ?_
    refine j_icmp_eq (tgt := 35) (a := (p1).toInt) (b := -1) C rfl (show ((-1 : Int32)).toInt = -1 by decide) dX5_give_15 (by decide) (fun c15 => ?_) (fun c15 => ?_)
    ·
      obtain ⟨p, hp, rfl⟩ := zi_nat (x := p0) (n := np) (by omega) (by omega)
      refine j_aload_n C 0 dX5_give_35 rfl rfl ?_
      refine j_iload_n C 1 dX5_give_36 rfl rfl ?_
      refine j_callI C hR (kX5_isDone hD hG (i := p) (by omega) (rc := Z 117 p) (rcI := (Z 117 p).toInt) (zu_o (by omega)) rfl (po := Z 121 p) (poI := (Z 121 p).toInt) (zu_o (by omega)) rfl (en := Z 118 p) (enI := (Z 118 p).toInt) (zu_o (by omega)) rfl) [] zmX5_isDone zk_X5_102 zK5 (zb_M hG) (zs_M hG) (by decide) rfl rfl (Nat.le_of_ble_eq_true rfl) dX5_give_37 (fun r37 Z37 h37 => ?_)
      obtain ⟨e37, ⟨rfl, h37⟩ | ⟨rfl, h37⟩⟩ := h37
      ·
        refine j_Z e37 ?_
        have hdn : dnM Z p = true := decide_eq_true (by omega)
        refine j_if_eq (tgt := 46) (a := ((1 : Nat) : Int)) C (nI_toInt (by omega)) dX5_give_40 (by decide) (fun c40 => absurd c40 (by omega)) (fun c40 => ?_)
        refine j_bipush C (-13) dX5_give_43 (by decide) ?_
        refine j_iret C R dX5_give_45 ?_
        exact Or.inr ⟨p, hp, rfl, by omega, Or.inl ⟨hdn, rfl, rfl⟩⟩
      ·
        refine j_Z e37 ?_
        have hdn : dnM Z p = false := decide_eq_false (by omega)
        refine j_if_eq (tgt := 46) (a := ((0 : Nat) : Int)) C (nI_toInt (by omega)) dX5_give_40 (by decide) (fun c40 => ?_) (fun c40 => absurd c40 (by omega))
        refine j_aload_n C 0 dX5_give_46 rfl rfl ?_
        refine j_iload_n C 1 dX5_give_47 rfl rfl ?_
        refine j_callI C hR (kX5_reader hD hG (i := p) (by omega) (re := Z (121) (36 + p)) (zu_o (by omega))) [] zmX5_reader zk_X5_105 zK5 (zb_M hG) (zs_M hG) (by decide) rfl rfl (Nat.le_of_ble_eq_true rfl) dX5_give_48 (fun r48 Z48 h48 => ?_)
        obtain ⟨h48, rfl⟩ := h48
        refine j_Z (Z' := (zu Z (113) (0) (nI 0))) h48 ?_
        refine j_istore_n (lv' := [(3, .int (Z (121) (36 + p))), (0, .ref (G.2.1 (113))), (1, .int (nI p)), (2, .int (p1))]) C dX5_give_51 rfl (by rw [hN]; decide) rfl ?_
        refine j_aload_n C 1 dX5_give_52 rfl rfl ?_
        refine j_getR C zK5 (zb_M hG) (zs_M hG) (f := 10) (by decide) rfl zk_X5_36 rfl (zf_M_10 hG) dX5_give_53 ?_
        refine j_bipush C (nI 36) dX5_give_56 (by decide) ?_
        refine j_iload_n C 2 dX5_give_58 rfl rfl ?_
        refine j_iadd C (nI (36 + p)) dX5_give_59 (nI_add 36 p) ?_
        refine j_iload_n C 3 dX5_give_60 rfl rfl ?_
        refine j_iast C hD (zb_rAt hG) (zs_rAt hG) (zl_rAt hG) rfl (by omega) (by decide) dX5_give_61 ?_
        refine j_iload_n C 0 dX5_give_62 rfl rfl ?_
        refine j_iret C R dX5_give_63 ?_
        exact Or.inr ⟨p, hp, rfl, by omega, Or.inr ⟨hdn, rfl, rfl⟩⟩
    ·
      refine j_iload_n C 2 dX5_give_18 rfl rfl ?_
      refine j_iconst C (nI 0) dX5_give_19 (by decide) ?_
      refine j_aload_n C 0 dX5_give_20 rfl rfl ?_
      refine j_getI C zK5 (zb_M hG) (zs_M hG) (f := 2) (by decide) rfl zk_X5_7 rfl (nI nt) ((zu_o (by omega)).trans (hnt)) dX5_give_21 ?_
      refine j_iconst C (nI 1) dX5_give_24 (by decide) ?_
      refine j_isub C (nI nt - nI 1) dX5_give_25 rfl ?_
      refine j_callS C hR (kX5_in hD hG (p0 := p1) (p1 := nI 0) (p2 := nI nt - nI 1) (a := (p1).toInt) (b := ((0 : Nat) : Int)) (c := ((nt : Nat) : Int) - ((1 : Nat) : Int)) rfl (nI_toInt (by omega)) (pk_sub_toInt (by omega) (by omega))) [] zmX5_in rfl zk_X5_78 (by decide) rfl rfl (Nat.le_of_ble_eq_true rfl) dX5_give_26 (fun r26 Z26 h26 => ?_)
      obtain ⟨e26, ⟨rfl, h26⟩ | ⟨rfl, h26⟩⟩ := h26
      ·
        refine j_Z e26 ?_
        refine j_if_ne (tgt := 35) (a := ((1 : Nat) : Int)) C (nI_toInt (by omega)) dX5_give_29 (by decide) (fun c29 => ?_) (fun c29 => absurd c29 (by omega))
        obtain ⟨p, hp, rfl⟩ := zi_nat (x := p0) (n := np) (by omega) (by omega)
        refine j_aload_n C 0 dX5_give_35 rfl rfl ?_
        refine j_iload_n C 1 dX5_give_36 rfl rfl ?_
        refine j_callI C hR (kX5_isDone hD hG (i := p) (by omega) (rc := Z 117 p) (rcI := (Z 117 p).toInt) (zu_o (by omega)) rfl (po := Z 121 p) (poI := (Z 121 p).toInt) (zu_o (by omega)) rfl (en := Z 118 p) (enI := (Z 118 p).toInt) (zu_o (by omega)) rfl) [] zmX5_isDone zk_X5_102 zK5 (zb_M hG) (zs_M hG) (by decide) rfl rfl (Nat.le_of_ble_eq_true rfl) dX5_give_37 (fun r37 Z37 h37 => ?_)
        obtain ⟨e37, ⟨rfl, h37⟩ | ⟨rfl, h37⟩⟩ := h37
        ·
          refine j_Z e37 ?_
          have hdn : dnM Z p = true := decide_eq_true (by omega)
          refine j_if_eq (tgt := 46) (a := ((1 : Nat) : Int)) C (nI_toInt (by omega)) dX5_give_40 (by decide) (fun c40 => absurd c40 (by omega)) (fun c40 => ?_)
          refine j_bipush C (-13) dX5_give_43 (by decide) ?_
          refine j_iret C R dX5_give_45 ?_
          exact Or.inr ⟨p, hp, rfl, by omega, Or.inl ⟨hdn, rfl, rfl⟩⟩
        ·
          refine j_Z e37 ?_
          have hdn : dnM Z p = false := decide_eq_false (by omega)
          refine j_if_eq (tgt := 46) (a := ((0 : Nat) : Int)) C (nI_toInt (by omega)) dX5_give_40 (by decide) (fun c40 => ?_) (fun c40 => absurd c40 (by omega))
          refine j_aload_n C 0 dX5_give_46 rfl rfl ?_
          refine j_iload_n C 1 dX5_give_47 rfl rfl ?_
          refine j_callI C hR (kX5_reader hD hG (i := p) (by omega) (re := Z (121) (36 + p)) (zu_o (by omega))) [] zmX5_reader zk_X5_105 zK5 (zb_M hG) (zs_M hG) (by decide) rfl rfl (Nat.le_of_ble_eq_true rfl) dX5_give_48 (fun r48 Z48 h48 => ?_)
          obtain ⟨h48, rfl⟩ := h48
          refine j_Z (Z' := (zu Z (113) (0) (nI 0))) h48 ?_
          refine j_istore_n (lv' := [(3, .int (Z (121) (36 + p))), (0, .ref (G.2.1 (113))), (1, .int (nI p)), (2, .int (p1))]) C dX5_give_51 rfl (by rw [hN]; decide) rfl ?_
          refine j_aload_n C 1 dX5_give_52 rfl rfl ?_
          refine j_getR C zK5 (zb_M hG) (zs_M hG) (f := 10) (by decide) rfl zk_X5_36 rfl (zf_M_10 hG) dX5_give_53 ?_
          refine j_bipush C (nI 36) dX5_give_56 (by decide) ?_
          refine j_iload_n C 2 dX5_give_58 rfl rfl ?_
          refine j_iadd C (nI (36 + p)) dX5_give_59 (nI_add 36 p) ?_
          refine j_iload_n C 3 dX5_give_60 rfl rfl ?_
          refine j_iast C hD (zb_rAt hG) (zs_rAt hG) (zl_rAt hG) rfl (by omega) (by decide) dX5_give_61 ?_
          refine j_iload_n C 0 dX5_give_62 rfl rfl ?_
          refine j_iret C R dX5_give_63 ?_
          exact Or.inr ⟨p, hp, rfl, by omega, Or.inr ⟨hdn, rfl, rfl⟩⟩
      ·
        refine j_Z e26 ?_
        refine j_if_ne (tgt := 35) (a := ((0 : Nat) : Int)) C (nI_toInt (by omega)) dX5_give_29 (by decide) (fun c29 => absurd c29 (by omega)) (fun c29 => ?_)
        refine j_bipush C (-11) dX5_give_32 (by decide) ?_
        refine j_iret C R dX5_give_34 ?_
        exact Or.inl ⟨by omega, rfl, rfl⟩
  ·
    refine j_Z e7 ?_
    refine j_if_eq (tgt := 32) (a := ((0 : Nat) : Int)) C (nI_toInt (by omega)) dX5_give_10 (by decide) (fun c10 => ?_) (fun c10 => absurd c10 (by omega))
    refine j_bipush C (-11) dX5_give_32 (by decide) ?_
    refine j_iret C R dX5_give_34 ?_
    exact Or.inl ⟨by omega, rfl, rfl⟩
set_option maxRecDepth 100000 in
set_option maxHeartbeats 4000000 in
theorem kX5_latest {l : Launch} {D : va_G} {Y : YT} {b0 : Nat} {G : GT} (hD : GD b0 G) (hG : Gok 132 G) {Z : ZT} (p0 : Int32) : CI l D Y b0 G yX5_latest cX5_latest 2 (some .int) 1 [.ref (G.2.1 (113)), .int (p0)] Z (fun r Z' => ((p0.toInt < 0 ∨ 5 ≤ p0.toInt) ∧ r = (-12) ∧ Z' = (zu Z 113 0 (nI 0))) ∨ ∃ j : Nat, j < 5 ∧ p0 = nI j ∧ r = Z 131 j ∧ Z' = (zu Z 113 0 (nI 0))) := by
  refine ci_start (lv0 := [(0, .ref (G.2.1 (113))), (1, .int (p0))]) hD rfl rfl (Nat.le_of_ble_eq_true rfl) rfl ?_
  intro E C R hR hD hN
  refine j_aload_n C 0 dX5_latest_0 rfl rfl ?_
  refine j_iconst C (nI 0) dX5_latest_1 (by decide) ?_
  refine j_putI C hD zK5 (zb_M hG) (zs_M hG) (f := 0) (by decide) rfl zk_X5_72 rfl rfl rfl rfl dX5_latest_2 ?_
  refine j_iload_n C 1 dX5_latest_5 rfl rfl ?_
  refine j_iconst C (nI 0) dX5_latest_6 (by decide) ?_
  refine j_iconst C (nI 4) dX5_latest_7 (by decide) ?_
  refine j_callS C hR (kX5_in hD hG (p0 := p0) (p1 := nI 0) (p2 := nI 4) (a := (p0).toInt) (b := ((0 : Nat) : Int)) (c := ((4 : Nat) : Int)) rfl (nI_toInt (by omega)) (nI_toInt (by omega))) [] zmX5_in rfl zk_X5_78 (by decide) rfl rfl (Nat.le_of_ble_eq_true rfl) dX5_latest_8 (fun r8 Z8 h8 => ?_)
  obtain ⟨e8, ⟨rfl, h8⟩ | ⟨rfl, h8⟩⟩ := h8
  ·
    refine j_Z e8 ?_
    refine j_if_eq (tgt := 23) (a := ((1 : Nat) : Int)) C (nI_toInt (by omega)) dX5_latest_11 (by decide) (fun c11 => absurd c11 (by omega)) (fun c11 => ?_)
    obtain ⟨j, hj, rfl⟩ := zi_nat (x := p0) (n := 5) (by omega) (by omega)
    refine j_aload_n C 0 dX5_latest_14 rfl rfl ?_
    refine j_getR C zK5 (zb_M hG) (zs_M hG) (f := 25) (by decide) rfl zk_X5_66 rfl (zf_M_25 hG) dX5_latest_15 ?_
    refine j_iload_n C 1 dX5_latest_18 rfl rfl ?_
    refine j_iald C (zb_rLat hG) (zs_rLat hG) (zl_rLat hG) rfl (by omega) (by decide) (Z 131 j) (zu_o (by omega)) dX5_latest_19 ?_
    refine j_goto (tgt := 25) C dX5_latest_20 (by decide) ?_
    refine j_iret C R dX5_latest_25 ?_
    exact Or.inr ⟨j, hj, rfl, rfl, rfl⟩
  ·
    refine j_Z e8 ?_
    refine j_if_eq (tgt := 23) (a := ((0 : Nat) : Int)) C (nI_toInt (by omega)) dX5_latest_11 (by decide) (fun c11 => ?_) (fun c11 => absurd c11 (by omega))
    refine j_bipush C (-12) dX5_latest_23 (by decide) ?_
    refine j_iret C R dX5_latest_25 ?_
    exact Or.inl ⟨by omega, rfl, rfl⟩
set_option maxRecDepth 100000 in
set_option maxHeartbeats 4000000 in
theorem kX5_given {l : Launch} {D : va_G} {Y : YT} {b0 : Nat} {G : GT} (hD : GD b0 G) (hG : Gok 132 G) {Z : ZT} (p0 : Int32) : CI l D Y b0 G yX5_given cX5_given 2 (some .int) 1 [.ref (G.2.1 (113)), .int (p0)] Z (fun r Z' => ((p0.toInt < 0 ∨ 255 < p0.toInt) ∧ r = (-12) ∧ Z' = (zu Z 113 0 (nI 0))) ∨ ∃ j : Nat, j < 256 ∧ p0 = nI j ∧ r = (if (Z 122 j).toInt = 0 then nI 0 else nI 1) ∧ Z' = (zu Z 113 0 (nI 0))) := by
  refine ci_start (lv0 := [(0, .ref (G.2.1 (113))), (1, .int (p0))]) hD rfl rfl (Nat.le_of_ble_eq_true rfl) rfl ?_
  intro E C R hR hD hN
  refine j_aload_n C 0 dX5_given_0 rfl rfl ?_
  refine j_iconst C (nI 0) dX5_given_1 (by decide) ?_
  refine j_putI C hD zK5 (zb_M hG) (zs_M hG) (f := 0) (by decide) rfl zk_X5_72 rfl rfl rfl rfl dX5_given_2 ?_
  refine j_iload_n C 1 dX5_given_5 rfl rfl ?_
  refine j_iconst C (nI 0) dX5_given_6 (by decide) ?_
  refine j_sipush C (nI 255) dX5_given_7 (by decide) ?_
  refine j_callS C hR (kX5_in hD hG (p0 := p0) (p1 := nI 0) (p2 := nI 255) (a := (p0).toInt) (b := ((0 : Nat) : Int)) (c := ((255 : Nat) : Int)) rfl (nI_toInt (by omega)) (nI_toInt (by omega))) [] zmX5_in rfl zk_X5_78 (by decide) rfl rfl (Nat.le_of_ble_eq_true rfl) dX5_given_10 (fun r10 Z10 h10 => ?_)
  obtain ⟨e10, ⟨rfl, h10⟩ | ⟨rfl, h10⟩⟩ := h10
  ·
    refine j_Z e10 ?_
    refine j_if_ne (tgt := 21) (a := ((1 : Nat) : Int)) C (nI_toInt (by omega)) dX5_given_13 (by decide) (fun c13 => ?_) (fun c13 => absurd c13 (by omega))
    obtain ⟨j, hj, rfl⟩ := zi_nat (x := p0) (n := 256) (by omega) (by omega)
    refine j_aload_n C 0 dX5_given_21 rfl rfl ?_
    refine j_getR C zK5 (zb_M hG) (zs_M hG) (f := 11) (by decide) rfl zk_X5_39 rfl (zf_M_11 hG) dX5_given_22 ?_
    refine j_iload_n C 1 dX5_given_25 rfl rfl ?_
    refine j_zald C (zb_rGiv hG) (zs_rGiv hG) (zl_rGiv hG) rfl (by omega) (by decide) (Z 122 j) (zu_o (by omega)) dX5_given_26 ?_
    refine j_if_eq (tgt := 34) (a := (Z 122 j).toInt) C rfl dX5_given_27 (by decide) (fun c27 => ?_) (fun c27 => ?_)
    ·
      refine j_iconst C (nI 0) dX5_given_34 (by decide) ?_
      refine j_iret C R dX5_given_35 ?_
      exact Or.inr ⟨j, hj, rfl, by simp [c27], rfl⟩
    ·
      refine j_iconst C (nI 1) dX5_given_30 (by decide) ?_
      refine j_goto (tgt := 35) C dX5_given_31 (by decide) ?_
      refine j_iret C R dX5_given_35 ?_
      exact Or.inr ⟨j, hj, rfl, by simp [c27], rfl⟩
  ·
    refine j_Z e10 ?_
    refine j_if_ne (tgt := 21) (a := ((0 : Nat) : Int)) C (nI_toInt (by omega)) dX5_given_13 (by decide) (fun c13 => absurd c13 (by omega)) (fun c13 => ?_)
    refine j_bipush C (-12) dX5_given_16 (by decide) ?_
    refine j_goto (tgt := 35) C dX5_given_18 (by decide) ?_
    refine j_iret C R dX5_given_35 ?_
    exact Or.inl ⟨by omega, rfl, rfl⟩
set_option maxRecDepth 100000 in
set_option maxHeartbeats 4000000 in
theorem kX5_aside {l : Launch} {D : va_G} {Y : YT} {b0 : Nat} {G : GT} (hD : GD b0 G) (hG : Gok 132 G) {Z : ZT} {na : Nat} (hna : Z 113 13 = nI na) (hna100 : na ≤ 100) (p0 p1 : Int32) : CI l D Y b0 G yX5_aside cX5_aside 3 (some .int) 1 [.ref (G.2.1 (113)), .int (p0), .int (p1)] Z (fun r Z' => ((p0.toInt < 0 ∨ (na : Int) ≤ p0.toInt) ∧ r = (-11) ∧ Z' = (zu Z 113 0 (nI 0))) ∨ ∃ j : Nat, j < na ∧ p0 = nI j ∧ ((((p1.toInt < 0 ∨ 1 < p1.toInt) ∧ r = (-12) ∧ Z' = (zu Z 113 0 (nI 0)))) ∨ ∃ w : Nat, w < 2 ∧ p1 = nI w ∧ r = Z 123 (2 * j + w) ∧ Z' = (zu Z 113 0 (nI 0)))) := by
  refine ci_start (lv0 := [(0, .ref (G.2.1 (113))), (1, .int (p0)), (2, .int (p1))]) hD rfl rfl (Nat.le_of_ble_eq_true rfl) rfl ?_
  intro E C R hR hD hN
  refine j_aload_n C 0 dX5_aside_0 rfl rfl ?_
  refine j_iconst C (nI 0) dX5_aside_1 (by decide) ?_
  refine j_putI C hD zK5 (zb_M hG) (zs_M hG) (f := 0) (by decide) rfl zk_X5_72 rfl rfl rfl rfl dX5_aside_2 ?_
  refine j_iload_n C 1 dX5_aside_5 rfl rfl ?_
  refine j_iconst C (nI 0) dX5_aside_6 (by decide) ?_
  refine j_aload_n C 0 dX5_aside_7 rfl rfl ?_
  refine j_getI C zK5 (zb_M hG) (zs_M hG) (f := 13) (by decide) rfl zk_X5_128 rfl (nI na) ((zu_o (by omega)).trans (hna)) dX5_aside_8 ?_
  refine j_iconst C (nI 1) dX5_aside_11 (by decide) ?_
  refine j_isub C (nI na - nI 1) dX5_aside_12 rfl ?_
  refine j_callS C hR (kX5_in hD hG (p0 := p0) (p1 := nI 0) (p2 := nI na - nI 1) (a := (p0).toInt) (b := ((0 : Nat) : Int)) (c := ((na : Nat) : Int) - ((1 : Nat) : Int)) rfl (nI_toInt (by omega)) (pk_sub_toInt (by omega) (by omega))) [] zmX5_in rfl zk_X5_78 (by decide) rfl rfl (Nat.le_of_ble_eq_true rfl) dX5_aside_13 (fun r13 Z13 h13 => ?_)
  obtain ⟨e13, ⟨rfl, h13⟩ | ⟨rfl, h13⟩⟩ := h13
  ·
    refine j_Z e13 ?_
    refine j_if_ne (tgt := 24) (a := ((1 : Nat) : Int)) C (nI_toInt (by omega)) dX5_aside_16 (by decide) (fun c16 => ?_) (fun c16 => absurd c16 (by omega))
    obtain ⟨j, hj, rfl⟩ := zi_nat (x := p0) (n := na) (by omega) (by omega)
    refine j_iload_n C 2 dX5_aside_24 rfl rfl ?_
    refine j_iconst C (nI 0) dX5_aside_25 (by decide) ?_
    refine j_iconst C (nI 1) dX5_aside_26 (by decide) ?_
    refine j_callS C hR (kX5_in hD hG (p0 := p1) (p1 := nI 0) (p2 := nI 1) (a := (p1).toInt) (b := ((0 : Nat) : Int)) (c := ((1 : Nat) : Int)) rfl (nI_toInt (by omega)) (nI_toInt (by omega))) [] zmX5_in rfl zk_X5_78 (by decide) rfl rfl (Nat.le_of_ble_eq_true rfl) dX5_aside_27 (fun r27 Z27 h27 => ?_)
    obtain ⟨e27, ⟨rfl, h27⟩ | ⟨rfl, h27⟩⟩ := h27
    ·
      refine j_Z e27 ?_
      refine j_if_ne (tgt := 38) (a := ((1 : Nat) : Int)) C (nI_toInt (by omega)) dX5_aside_30 (by decide) (fun c30 => ?_) (fun c30 => absurd c30 (by omega))
      obtain ⟨w, hw, rfl⟩ := zi_nat (x := p1) (n := 2) (by omega) (by omega)
      refine j_aload_n C 0 dX5_aside_38 rfl rfl ?_
      refine j_getR C zK5 (zb_M hG) (zs_M hG) (f := 12) (by decide) rfl zk_X5_42 rfl (zf_M_12 hG) dX5_aside_39 ?_
      refine j_iconst C (nI 2) dX5_aside_42 (by decide) ?_
      refine j_iload_n C 1 dX5_aside_43 rfl rfl ?_
      refine j_imul C (nI (2 * j)) dX5_aside_44 (pk_mul 2 j) ?_
      refine j_iload_n C 2 dX5_aside_45 rfl rfl ?_
      refine j_iadd C (nI (2 * j + w)) dX5_aside_46 (nI_add (2 * j) w) ?_
      refine j_iald C (zb_rNot hG) (zs_rNot hG) (zl_rNot hG) rfl (by omega) (by decide) (Z (123) (2 * j + w)) (zu_o (by omega)) dX5_aside_47 ?_
      refine j_iret C R dX5_aside_48 ?_
      exact Or.inr ⟨j, hj, rfl, Or.inr ⟨w, hw, rfl, rfl, rfl⟩⟩
    ·
      refine j_Z e27 ?_
      refine j_if_ne (tgt := 38) (a := ((0 : Nat) : Int)) C (nI_toInt (by omega)) dX5_aside_30 (by decide) (fun c30 => absurd c30 (by omega)) (fun c30 => ?_)
      refine j_bipush C (-12) dX5_aside_33 (by decide) ?_
      refine j_goto (tgt := 48) C dX5_aside_35 (by decide) ?_
      refine j_iret C R dX5_aside_48 ?_
      exact Or.inr ⟨j, hj, rfl, Or.inl ⟨by omega, rfl, rfl⟩⟩
  ·
    refine j_Z e13 ?_
    refine j_if_ne (tgt := 24) (a := ((0 : Nat) : Int)) C (nI_toInt (by omega)) dX5_aside_16 (by decide) (fun c16 => absurd c16 (by omega)) (fun c16 => ?_)
    refine j_bipush C (-11) dX5_aside_19 (by decide) ?_
    refine j_goto (tgt := 48) C dX5_aside_21 (by decide) ?_
    refine j_iret C R dX5_aside_48 ?_
    exact Or.inl ⟨by omega, rfl, rfl⟩
theorem zlz {Z : ZT} {s : Nat} {a b a' b' : Int32} (h1 : a = a') (h2 : b = b') : zu (zu Z 130 s a) 129 s b = zu (zu Z 130 s a') 129 s b' := by rw [h1, h2]
set_option maxRecDepth 100000 in
set_option maxHeartbeats 4000000 in
theorem kX5_lose {l : Launch} {D : va_G} {Y : YT} {b0 : Nat} {G : GT} (hD : GD b0 G) (hG : Gok 132 G) {Z : ZT} {md : Nat} (hmd : Z 113 22 = nI md) (hmd9 : md < 2 ^ 19) (p0 p1 : Int32) : CI l D Y b0 G yX5_lose cX5_lose 5 (some .int) 1 [.ref (G.2.1 (113)), .int (p0), .int (p1)] Z (fun r Z' => ((p0.toInt < 1 ∨ 50 < p0.toInt) ∧ r = (-12) ∧ Z' = (zu Z 113 0 (nI 0))) ∨ ∃ a : Nat, a < 51 ∧ p0 = nI a ∧ 1 ≤ p0.toInt ∧ r = (if p1.toInt = 0 then (if (Z 129 ((md + a) % 64)).toInt = 0 then nI 1 else nI 0) else (if (Z 130 ((md + a) % 64)).toInt = 0 then nI 1 else nI 0)) ∧ Z' = zu (zu (zu Z 113 0 (nI 0)) 130 ((md + a) % 64) (if (Z 130 ((md + a) % 64)).toInt = 0 ∧ p1.toInt = 0 then nI 0 else nI 1)) 129 ((md + a) % 64) (if (Z 129 ((md + a) % 64)).toInt = 0 ∧ p1.toInt ≠ 0 then nI 0 else nI 1)) := by
  refine ci_start (lv0 := [(0, .ref (G.2.1 (113))), (1, .int (p0)), (2, .int (p1))]) hD rfl rfl (Nat.le_of_ble_eq_true rfl) rfl ?_
  intro E C R hR hD hN
  refine j_aload_n C 0 dX5_lose_0 rfl rfl ?_
  refine j_iconst C (nI 0) dX5_lose_1 (by decide) ?_
  refine j_putI C hD zK5 (zb_M hG) (zs_M hG) (f := 0) (by decide) rfl zk_X5_72 rfl rfl rfl rfl dX5_lose_2 ?_
  refine j_iload_n C 1 dX5_lose_5 rfl rfl ?_
  refine j_iconst C (nI 1) dX5_lose_6 (by decide) ?_
  refine j_bipush C (nI 50) dX5_lose_7 (by decide) ?_
  refine j_callS C hR (kX5_in hD hG (p0 := p0) (p1 := nI 1) (p2 := nI 50) (a := (p0).toInt) (b := ((1 : Nat) : Int)) (c := ((50 : Nat) : Int)) rfl (nI_toInt (by omega)) (nI_toInt (by omega))) [] zmX5_in rfl zk_X5_78 (by decide) rfl rfl (Nat.le_of_ble_eq_true rfl) dX5_lose_9 (fun r9 Z9 h9 => ?_)
  obtain ⟨e9, ⟨rfl, h9⟩ | ⟨rfl, h9⟩⟩ := h9
  ·
    refine j_Z e9 ?_
    refine j_if_ne (tgt := 18) (a := ((1 : Nat) : Int)) C (nI_toInt (by omega)) dX5_lose_12 (by decide) (fun c12 => ?_) (fun c12 => absurd c12 (by omega))
    obtain ⟨a, ha, rfl⟩ := zi_nat (x := p0) (n := 51) (by omega) (by omega)
    refine j_aload_n C 0 dX5_lose_18 rfl rfl ?_
    refine j_getI C zK5 (zb_M hG) (zs_M hG) (f := 22) (by decide) rfl zk_X5_112 rfl (nI md) ((zu_o (by omega)).trans (hmd)) dX5_lose_19 ?_
    refine j_iload_n C 1 dX5_lose_22 rfl rfl ?_
    refine j_iadd C (nI (md + a)) dX5_lose_23 (nI_add md a) ?_
    refine j_bipush C (nI 64) dX5_lose_24 (by decide) ?_
    refine j_irem C (nI ((md + a) % 64)) dX5_lose_26 (nI_ne0 (by omega) (by omega)) (pk_rem (by omega) (by omega) (by omega)) ?_
    refine j_istore_n (lv' := [(3, .int (nI ((md + a) % 64))), (0, .ref (G.2.1 (113))), (1, .int (nI a)), (2, .int (p1))]) C dX5_lose_27 rfl (by rw [hN]; decide) rfl ?_
    refine j_iload_n C 3 dX5_lose_28 rfl rfl ?_
    refine j_if_eq (tgt := 41) (a := (p1).toInt) C rfl dX5_lose_29 (by decide) (fun c29 => ?_) (fun c29 => ?_)
    ·
      refine j_aload_n C 1 dX5_lose_41 rfl rfl ?_
      refine j_getR C zK5 (zb_M hG) (zs_M hG) (f := 20) (by decide) rfl zk_X5_60 rfl (zf_M_20 hG) dX5_lose_42 ?_
      refine j_iload_n C 0 dX5_lose_45 rfl rfl ?_
      refine j_zald C (zb_rLos hG) (zs_rLos hG) (zl_rLos hG) rfl (by omega) (by decide) (Z (129) ((md + a) % 64)) (zu_o (by omega)) dX5_lose_46 ?_
      refine j_istore (lv' := [(4, .int (Z (129) ((md + a) % 64))), (3, .int (nI ((md + a) % 64))), (0, .ref (G.2.1 (113))), (1, .int (nI a)), (2, .int (p1))]) C dX5_lose_47 (by rw [hN]; decide) rfl ?_
      refine j_aload_n C 2 dX5_lose_49 rfl rfl ?_
      refine j_getR C zK5 (zb_M hG) (zs_M hG) (f := 21) (by decide) rfl zk_X5_63 rfl (zf_M_21 hG) dX5_lose_50 ?_
      refine j_iload_n C 1 dX5_lose_53 rfl rfl ?_
      refine j_aload_n C 2 dX5_lose_54 rfl rfl ?_
      refine j_getR C zK5 (zb_M hG) (zs_M hG) (f := 21) (by decide) rfl zk_X5_63 rfl (zf_M_21 hG) dX5_lose_55 ?_
      refine j_iload_n C 1 dX5_lose_58 rfl rfl ?_
      refine j_zald C (zb_rTwi hG) (zs_rTwi hG) (zl_rTwi hG) rfl (by omega) (by decide) (Z (130) ((md + a) % 64)) (zu_o (by omega)) dX5_lose_59 ?_
      refine j_if_ne (tgt := 67) (a := (Z (130) ((md + a) % 64)).toInt) C rfl dX5_lose_60 (by decide) (fun c60 => ?_) (fun c60 => ?_)
      ·
        refine j_iconst C (nI 1) dX5_lose_67 (by decide) ?_
        refine j_goto (tgt := 72) C dX5_lose_68 (by decide) ?_
        refine j_zast C hD (zb_rTwi hG) (zs_rTwi hG) (zl_rTwi hG) rfl (by omega) (by decide) (by decide) dX5_lose_72 ?_
        refine j_aload_n C 2 dX5_lose_73 rfl rfl ?_
        refine j_getR C zK5 (zb_M hG) (zs_M hG) (f := 20) (by decide) rfl zk_X5_60 rfl (zf_M_20 hG) dX5_lose_74 ?_
        refine j_iload_n C 1 dX5_lose_77 rfl rfl ?_
        refine j_aload_n C 2 dX5_lose_78 rfl rfl ?_
        refine j_getR C zK5 (zb_M hG) (zs_M hG) (f := 20) (by decide) rfl zk_X5_60 rfl (zf_M_20 hG) dX5_lose_79 ?_
        refine j_iload_n C 1 dX5_lose_82 rfl rfl ?_
        refine j_zald C (zb_rLos hG) (zs_rLos hG) (zl_rLos hG) rfl (by omega) (by decide) (Z (129) ((md + a) % 64)) ((zu_o (by omega)).trans ((zu_o (by omega)))) dX5_lose_83 ?_
        refine j_if_ne (tgt := 91) (a := (Z (129) ((md + a) % 64)).toInt) C rfl dX5_lose_84 (by decide) (fun c84 => ?_) (fun c84 => ?_)
        ·
          refine j_iconst C (nI 1) dX5_lose_91 (by decide) ?_
          refine j_goto (tgt := 96) C dX5_lose_92 (by decide) ?_
          refine j_zast C hD (zb_rLos hG) (zs_rLos hG) (zl_rLos hG) rfl (by omega) (by decide) (by decide) dX5_lose_96 ?_
          refine j_iload C 0 dX5_lose_97 rfl ?_
          refine j_if_eq (tgt := 106) (a := (Z (129) ((md + a) % 64)).toInt) C rfl dX5_lose_99 (by decide) (fun c99 => ?_) (fun c99 => ?_)
          ·
            refine j_iconst C (nI 1) dX5_lose_106 (by decide) ?_
            refine j_iret C R dX5_lose_107 ?_
            exact Or.inr ⟨a, ha, rfl, by omega, by (repeat' split) <;> first | rfl | (exfalso; omega), by refine zlz ?_ ?_ <;> (split <;> first | rfl | (exfalso; omega))⟩
          ·
            refine j_iconst C (nI 0) dX5_lose_102 (by decide) ?_
            refine j_goto (tgt := 107) C dX5_lose_103 (by decide) ?_
            refine j_iret C R dX5_lose_107 ?_
            exact Or.inr ⟨a, ha, rfl, by omega, by (repeat' split) <;> first | rfl | (exfalso; omega), by refine zlz ?_ ?_ <;> (split <;> first | rfl | (exfalso; omega))⟩
        ·
          refine j_iload_n C 4 dX5_lose_87 rfl rfl ?_
          refine j_if_ne (tgt := 95) (a := (p1).toInt) C rfl dX5_lose_88 (by decide) (fun c88 => ?_) (fun c88 => ?_)
          ·
            refine j_iconst C (nI 0) dX5_lose_95 (by decide) ?_
            refine j_zast C hD (zb_rLos hG) (zs_rLos hG) (zl_rLos hG) rfl (by omega) (by decide) (by decide) dX5_lose_96 ?_
            refine j_iload C 0 dX5_lose_97 rfl ?_
            refine j_if_eq (tgt := 106) (a := (Z (129) ((md + a) % 64)).toInt) C rfl dX5_lose_99 (by decide) (fun c99 => ?_) (fun c99 => ?_)
            ·
              refine j_iconst C (nI 1) dX5_lose_106 (by decide) ?_
              refine j_iret C R dX5_lose_107 ?_
              exact Or.inr ⟨a, ha, rfl, by omega, by (repeat' split) <;> first | rfl | (exfalso; omega), by refine zlz ?_ ?_ <;> (split <;> first | rfl | (exfalso; omega))⟩
            ·
              refine j_iconst C (nI 0) dX5_lose_102 (by decide) ?_
              refine j_goto (tgt := 107) C dX5_lose_103 (by decide) ?_
              refine j_iret C R dX5_lose_107 ?_
              exact Or.inr ⟨a, ha, rfl, by omega, by (repeat' split) <;> first | rfl | (exfalso; omega), by refine zlz ?_ ?_ <;> (split <;> first | rfl | (exfalso; omega))⟩
          ·
            refine j_iconst C (nI 1) dX5_lose_91 (by decide) ?_
            refine j_goto (tgt := 96) C dX5_lose_92 (by decide) ?_
            refine j_zast C hD (zb_rLos hG) (zs_rLos hG) (zl_rLos hG) rfl (by omega) (by decide) (by decide) dX5_lose_96 ?_
            refine j_iload C 0 dX5_lose_97 rfl ?_
            refine j_if_eq (tgt := 106) (a := (Z (129) ((md + a) % 64)).toInt) C rfl dX5_lose_99 (by decide) (fun c99 => ?_) (fun c99 => ?_)
            ·
              refine j_iconst C (nI 1) dX5_lose_106 (by decide) ?_
              refine j_iret C R dX5_lose_107 ?_
              exact Or.inr ⟨a, ha, rfl, by omega, by (repeat' split) <;> first | rfl | (exfalso; omega), by refine zlz ?_ ?_ <;> (split <;> first | rfl | (exfalso; omega))⟩
            ·
              refine j_iconst C (nI 0) dX5_lose_102 (by decide) ?_
              refine j_goto (tgt := 107) C dX5_lose_103 (by decide) ?_
              refine j_iret C R dX5_lose_107 ?_
              exact Or.inr ⟨a, ha, rfl, by omega, by (repeat' split) <;> first | rfl | (exfalso; omega), by refine zlz ?_ ?_ <;> (split <;> first | rfl | (exfalso; omega))⟩
      ·
        refine j_iload_n C 4 dX5_lose_63 rfl rfl ?_
        refine j_if_eq (tgt := 71) (a := (p1).toInt) C rfl dX5_lose_64 (by decide) (fun c64 => ?_) (fun c64 => ?_)
        ·
          refine j_iconst C (nI 0) dX5_lose_71 (by decide) ?_
          refine j_zast C hD (zb_rTwi hG) (zs_rTwi hG) (zl_rTwi hG) rfl (by omega) (by decide) (by decide) dX5_lose_72 ?_
          refine j_aload_n C 2 dX5_lose_73 rfl rfl ?_
          refine j_getR C zK5 (zb_M hG) (zs_M hG) (f := 20) (by decide) rfl zk_X5_60 rfl (zf_M_20 hG) dX5_lose_74 ?_
          refine j_iload_n C 1 dX5_lose_77 rfl rfl ?_
          refine j_aload_n C 2 dX5_lose_78 rfl rfl ?_
          refine j_getR C zK5 (zb_M hG) (zs_M hG) (f := 20) (by decide) rfl zk_X5_60 rfl (zf_M_20 hG) dX5_lose_79 ?_
          refine j_iload_n C 1 dX5_lose_82 rfl rfl ?_
          refine j_zald C (zb_rLos hG) (zs_rLos hG) (zl_rLos hG) rfl (by omega) (by decide) (Z (129) ((md + a) % 64)) ((zu_o (by omega)).trans ((zu_o (by omega)))) dX5_lose_83 ?_
          refine j_if_ne (tgt := 91) (a := (Z (129) ((md + a) % 64)).toInt) C rfl dX5_lose_84 (by decide) (fun c84 => ?_) (fun c84 => ?_)
          ·
            refine j_iconst C (nI 1) dX5_lose_91 (by decide) ?_
            refine j_goto (tgt := 96) C dX5_lose_92 (by decide) ?_
            refine j_zast C hD (zb_rLos hG) (zs_rLos hG) (zl_rLos hG) rfl (by omega) (by decide) (by decide) dX5_lose_96 ?_
            refine j_iload C 0 dX5_lose_97 rfl ?_
            refine j_if_eq (tgt := 106) (a := (Z (129) ((md + a) % 64)).toInt) C rfl dX5_lose_99 (by decide) (fun c99 => ?_) (fun c99 => ?_)
            ·
              refine j_iconst C (nI 1) dX5_lose_106 (by decide) ?_
              refine j_iret C R dX5_lose_107 ?_
              exact Or.inr ⟨a, ha, rfl, by omega, by (repeat' split) <;> first | rfl | (exfalso; omega), by refine zlz ?_ ?_ <;> (split <;> first | rfl | (exfalso; omega))⟩
            ·
              refine j_iconst C (nI 0) dX5_lose_102 (by decide) ?_
              refine j_goto (tgt := 107) C dX5_lose_103 (by decide) ?_
              refine j_iret C R dX5_lose_107 ?_
              exact Or.inr ⟨a, ha, rfl, by omega, by (repeat' split) <;> first | rfl | (exfalso; omega), by refine zlz ?_ ?_ <;> (split <;> first | rfl | (exfalso; omega))⟩
          ·
            refine j_iload_n C 4 dX5_lose_87 rfl rfl ?_
            refine j_if_ne (tgt := 95) (a := (p1).toInt) C rfl dX5_lose_88 (by decide) (fun c88 => ?_) (fun c88 => ?_)
            ·
              refine j_iconst C (nI 0) dX5_lose_95 (by decide) ?_
              refine j_zast C hD (zb_rLos hG) (zs_rLos hG) (zl_rLos hG) rfl (by omega) (by decide) (by decide) dX5_lose_96 ?_
              refine j_iload C 0 dX5_lose_97 rfl ?_
              refine j_if_eq (tgt := 106) (a := (Z (129) ((md + a) % 64)).toInt) C rfl dX5_lose_99 (by decide) (fun c99 => ?_) (fun c99 => ?_)
              ·
                refine j_iconst C (nI 1) dX5_lose_106 (by decide) ?_
                refine j_iret C R dX5_lose_107 ?_
                exact Or.inr ⟨a, ha, rfl, by omega, by (repeat' split) <;> first | rfl | (exfalso; omega), by refine zlz ?_ ?_ <;> (split <;> first | rfl | (exfalso; omega))⟩
              ·
                refine j_iconst C (nI 0) dX5_lose_102 (by decide) ?_
                refine j_goto (tgt := 107) C dX5_lose_103 (by decide) ?_
                refine j_iret C R dX5_lose_107 ?_
                exact Or.inr ⟨a, ha, rfl, by omega, by (repeat' split) <;> first | rfl | (exfalso; omega), by refine zlz ?_ ?_ <;> (split <;> first | rfl | (exfalso; omega))⟩
            ·
              refine j_iconst C (nI 1) dX5_lose_91 (by decide) ?_
              refine j_goto (tgt := 96) C dX5_lose_92 (by decide) ?_
              refine j_zast C hD (zb_rLos hG) (zs_rLos hG) (zl_rLos hG) rfl (by omega) (by decide) (by decide) dX5_lose_96 ?_
              refine j_iload C 0 dX5_lose_97 rfl ?_
              refine j_if_eq (tgt := 106) (a := (Z (129) ((md + a) % 64)).toInt) C rfl dX5_lose_99 (by decide) (fun c99 => ?_) (fun c99 => ?_)
              ·
                refine j_iconst C (nI 1) dX5_lose_106 (by decide) ?_
                refine j_iret C R dX5_lose_107 ?_
                exact Or.inr ⟨a, ha, rfl, by omega, by (repeat' split) <;> first | rfl | (exfalso; omega), by refine zlz ?_ ?_ <;> (split <;> first | rfl | (exfalso; omega))⟩
              ·
                refine j_iconst C (nI 0) dX5_lose_102 (by decide) ?_
                refine j_goto (tgt := 107) C dX5_lose_103 (by decide) ?_
                refine j_iret C R dX5_lose_107 ?_
                exact Or.inr ⟨a, ha, rfl, by omega, by (repeat' split) <;> first | rfl | (exfalso; omega), by refine zlz ?_ ?_ <;> (split <;> first | rfl | (exfalso; omega))⟩
        ·
          refine j_iconst C (nI 1) dX5_lose_67 (by decide) ?_
          refine j_goto (tgt := 72) C dX5_lose_68 (by decide) ?_
          refine j_zast C hD (zb_rTwi hG) (zs_rTwi hG) (zl_rTwi hG) rfl (by omega) (by decide) (by decide) dX5_lose_72 ?_
          refine j_aload_n C 2 dX5_lose_73 rfl rfl ?_
          refine j_getR C zK5 (zb_M hG) (zs_M hG) (f := 20) (by decide) rfl zk_X5_60 rfl (zf_M_20 hG) dX5_lose_74 ?_
          refine j_iload_n C 1 dX5_lose_77 rfl rfl ?_
          refine j_aload_n C 2 dX5_lose_78 rfl rfl ?_
          refine j_getR C zK5 (zb_M hG) (zs_M hG) (f := 20) (by decide) rfl zk_X5_60 rfl (zf_M_20 hG) dX5_lose_79 ?_
          refine j_iload_n C 1 dX5_lose_82 rfl rfl ?_
          refine j_zald C (zb_rLos hG) (zs_rLos hG) (zl_rLos hG) rfl (by omega) (by decide) (Z (129) ((md + a) % 64)) ((zu_o (by omega)).trans ((zu_o (by omega)))) dX5_lose_83 ?_
          refine j_if_ne (tgt := 91) (a := (Z (129) ((md + a) % 64)).toInt) C rfl dX5_lose_84 (by decide) (fun c84 => ?_) (fun c84 => ?_)
          ·
            refine j_iconst C (nI 1) dX5_lose_91 (by decide) ?_
            refine j_goto (tgt := 96) C dX5_lose_92 (by decide) ?_
            refine j_zast C hD (zb_rLos hG) (zs_rLos hG) (zl_rLos hG) rfl (by omega) (by decide) (by decide) dX5_lose_96 ?_
            refine j_iload C 0 dX5_lose_97 rfl ?_
            refine j_if_eq (tgt := 106) (a := (Z (129) ((md + a) % 64)).toInt) C rfl dX5_lose_99 (by decide) (fun c99 => ?_) (fun c99 => ?_)
            ·
              refine j_iconst C (nI 1) dX5_lose_106 (by decide) ?_
              refine j_iret C R dX5_lose_107 ?_
              exact Or.inr ⟨a, ha, rfl, by omega, by (repeat' split) <;> first | rfl | (exfalso; omega), by refine zlz ?_ ?_ <;> (split <;> first | rfl | (exfalso; omega))⟩
            ·
              refine j_iconst C (nI 0) dX5_lose_102 (by decide) ?_
              refine j_goto (tgt := 107) C dX5_lose_103 (by decide) ?_
              refine j_iret C R dX5_lose_107 ?_
              exact Or.inr ⟨a, ha, rfl, by omega, by (repeat' split) <;> first | rfl | (exfalso; omega), by refine zlz ?_ ?_ <;> (split <;> first | rfl | (exfalso; omega))⟩
          ·
            refine j_iload_n C 4 dX5_lose_87 rfl rfl ?_
            refine j_if_ne (tgt := 95) (a := (p1).toInt) C rfl dX5_lose_88 (by decide) (fun c88 => ?_) (fun c88 => ?_)
            ·
              refine j_iconst C (nI 0) dX5_lose_95 (by decide) ?_
              refine j_zast C hD (zb_rLos hG) (zs_rLos hG) (zl_rLos hG) rfl (by omega) (by decide) (by decide) dX5_lose_96 ?_
              refine j_iload C 0 dX5_lose_97 rfl ?_
              refine j_if_eq (tgt := 106) (a := (Z (129) ((md + a) % 64)).toInt) C rfl dX5_lose_99 (by decide) (fun c99 => ?_) (fun c99 => ?_)
              ·
                refine j_iconst C (nI 1) dX5_lose_106 (by decide) ?_
                refine j_iret C R dX5_lose_107 ?_
                exact Or.inr ⟨a, ha, rfl, by omega, by (repeat' split) <;> first | rfl | (exfalso; omega), by refine zlz ?_ ?_ <;> (split <;> first | rfl | (exfalso; omega))⟩
              ·
                refine j_iconst C (nI 0) dX5_lose_102 (by decide) ?_
                refine j_goto (tgt := 107) C dX5_lose_103 (by decide) ?_
                refine j_iret C R dX5_lose_107 ?_
                exact Or.inr ⟨a, ha, rfl, by omega, by (repeat' split) <;> first | rfl | (exfalso; omega), by refine zlz ?_ ?_ <;> (split <;> first | rfl | (exfalso; omega))⟩
            ·
              refine j_iconst C (nI 1) dX5_lose_91 (by decide) ?_
              refine j_goto (tgt := 96) C dX5_lose_92 (by decide) ?_
              refine j_zast C hD (zb_rLos hG) (zs_rLos hG) (zl_rLos hG) rfl (by omega) (by decide) (by decide) dX5_lose_96 ?_
              refine j_iload C 0 dX5_lose_97 rfl ?_
              refine j_if_eq (tgt := 106) (a := (Z (129) ((md + a) % 64)).toInt) C rfl dX5_lose_99 (by decide) (fun c99 => ?_) (fun c99 => ?_)
              ·
                refine j_iconst C (nI 1) dX5_lose_106 (by decide) ?_
                refine j_iret C R dX5_lose_107 ?_
                exact Or.inr ⟨a, ha, rfl, by omega, by (repeat' split) <;> first | rfl | (exfalso; omega), by refine zlz ?_ ?_ <;> (split <;> first | rfl | (exfalso; omega))⟩
              ·
                refine j_iconst C (nI 0) dX5_lose_102 (by decide) ?_
                refine j_goto (tgt := 107) C dX5_lose_103 (by decide) ?_
                refine j_iret C R dX5_lose_107 ?_
                exact Or.inr ⟨a, ha, rfl, by omega, by (repeat' split) <;> first | rfl | (exfalso; omega), by refine zlz ?_ ?_ <;> (split <;> first | rfl | (exfalso; omega))⟩
    ·
      refine j_aload_n C 1 dX5_lose_32 rfl rfl ?_
      refine j_getR C zK5 (zb_M hG) (zs_M hG) (f := 21) (by decide) rfl zk_X5_63 rfl (zf_M_21 hG) dX5_lose_33 ?_
      refine j_iload_n C 0 dX5_lose_36 rfl rfl ?_
      refine j_zald C (zb_rTwi hG) (zs_rTwi hG) (zl_rTwi hG) rfl (by omega) (by decide) (Z (130) ((md + a) % 64)) (zu_o (by omega)) dX5_lose_37 ?_
      refine j_goto (tgt := 47) C dX5_lose_38 (by decide) ?_
      refine j_istore (lv' := [(4, .int (Z (130) ((md + a) % 64))), (3, .int (nI ((md + a) % 64))), (0, .ref (G.2.1 (113))), (1, .int (nI a)), (2, .int (p1))]) C dX5_lose_47 (by rw [hN]; decide) rfl ?_
      refine j_aload_n C 2 dX5_lose_49 rfl rfl ?_
      refine j_getR C zK5 (zb_M hG) (zs_M hG) (f := 21) (by decide) rfl zk_X5_63 rfl (zf_M_21 hG) dX5_lose_50 ?_
      refine j_iload_n C 1 dX5_lose_53 rfl rfl ?_
      refine j_aload_n C 2 dX5_lose_54 rfl rfl ?_
      refine j_getR C zK5 (zb_M hG) (zs_M hG) (f := 21) (by decide) rfl zk_X5_63 rfl (zf_M_21 hG) dX5_lose_55 ?_
      refine j_iload_n C 1 dX5_lose_58 rfl rfl ?_
      refine j_zald C (zb_rTwi hG) (zs_rTwi hG) (zl_rTwi hG) rfl (by omega) (by decide) (Z (130) ((md + a) % 64)) (zu_o (by omega)) dX5_lose_59 ?_
      refine j_if_ne (tgt := 67) (a := (Z (130) ((md + a) % 64)).toInt) C rfl dX5_lose_60 (by decide) (fun c60 => ?_) (fun c60 => ?_)
      ·
        refine j_iconst C (nI 1) dX5_lose_67 (by decide) ?_
        refine j_goto (tgt := 72) C dX5_lose_68 (by decide) ?_
        refine j_zast C hD (zb_rTwi hG) (zs_rTwi hG) (zl_rTwi hG) rfl (by omega) (by decide) (by decide) dX5_lose_72 ?_
        refine j_aload_n C 2 dX5_lose_73 rfl rfl ?_
        refine j_getR C zK5 (zb_M hG) (zs_M hG) (f := 20) (by decide) rfl zk_X5_60 rfl (zf_M_20 hG) dX5_lose_74 ?_
        refine j_iload_n C 1 dX5_lose_77 rfl rfl ?_
        refine j_aload_n C 2 dX5_lose_78 rfl rfl ?_
        refine j_getR C zK5 (zb_M hG) (zs_M hG) (f := 20) (by decide) rfl zk_X5_60 rfl (zf_M_20 hG) dX5_lose_79 ?_
        refine j_iload_n C 1 dX5_lose_82 rfl rfl ?_
        refine j_zald C (zb_rLos hG) (zs_rLos hG) (zl_rLos hG) rfl (by omega) (by decide) (Z (129) ((md + a) % 64)) ((zu_o (by omega)).trans ((zu_o (by omega)))) dX5_lose_83 ?_
        refine j_if_ne (tgt := 91) (a := (Z (129) ((md + a) % 64)).toInt) C rfl dX5_lose_84 (by decide) (fun c84 => ?_) (fun c84 => ?_)
        ·
          refine j_iconst C (nI 1) dX5_lose_91 (by decide) ?_
          refine j_goto (tgt := 96) C dX5_lose_92 (by decide) ?_
          refine j_zast C hD (zb_rLos hG) (zs_rLos hG) (zl_rLos hG) rfl (by omega) (by decide) (by decide) dX5_lose_96 ?_
          refine j_iload C 0 dX5_lose_97 rfl ?_
          refine j_if_eq (tgt := 106) (a := (Z (130) ((md + a) % 64)).toInt) C rfl dX5_lose_99 (by decide) (fun c99 => ?_) (fun c99 => ?_)
          ·
            refine j_iconst C (nI 1) dX5_lose_106 (by decide) ?_
            refine j_iret C R dX5_lose_107 ?_
            exact Or.inr ⟨a, ha, rfl, by omega, by (repeat' split) <;> first | rfl | (exfalso; omega), by refine zlz ?_ ?_ <;> (split <;> first | rfl | (exfalso; omega))⟩
          ·
            refine j_iconst C (nI 0) dX5_lose_102 (by decide) ?_
            refine j_goto (tgt := 107) C dX5_lose_103 (by decide) ?_
            refine j_iret C R dX5_lose_107 ?_
            exact Or.inr ⟨a, ha, rfl, by omega, by (repeat' split) <;> first | rfl | (exfalso; omega), by refine zlz ?_ ?_ <;> (split <;> first | rfl | (exfalso; omega))⟩
        ·
          refine j_iload_n C 4 dX5_lose_87 rfl rfl ?_
          refine j_if_ne (tgt := 95) (a := (p1).toInt) C rfl dX5_lose_88 (by decide) (fun c88 => ?_) (fun c88 => ?_)
          ·
            refine j_iconst C (nI 0) dX5_lose_95 (by decide) ?_
            refine j_zast C hD (zb_rLos hG) (zs_rLos hG) (zl_rLos hG) rfl (by omega) (by decide) (by decide) dX5_lose_96 ?_
            refine j_iload C 0 dX5_lose_97 rfl ?_
            refine j_if_eq (tgt := 106) (a := (Z (130) ((md + a) % 64)).toInt) C rfl dX5_lose_99 (by decide) (fun c99 => ?_) (fun c99 => ?_)
            ·
              refine j_iconst C (nI 1) dX5_lose_106 (by decide) ?_
              refine j_iret C R dX5_lose_107 ?_
              exact Or.inr ⟨a, ha, rfl, by omega, by (repeat' split) <;> first | rfl | (exfalso; omega), by refine zlz ?_ ?_ <;> (split <;> first | rfl | (exfalso; omega))⟩
            ·
              refine j_iconst C (nI 0) dX5_lose_102 (by decide) ?_
              refine j_goto (tgt := 107) C dX5_lose_103 (by decide) ?_
              refine j_iret C R dX5_lose_107 ?_
              exact Or.inr ⟨a, ha, rfl, by omega, by (repeat' split) <;> first | rfl | (exfalso; omega), by refine zlz ?_ ?_ <;> (split <;> first | rfl | (exfalso; omega))⟩
          ·
            refine j_iconst C (nI 1) dX5_lose_91 (by decide) ?_
            refine j_goto (tgt := 96) C dX5_lose_92 (by decide) ?_
            refine j_zast C hD (zb_rLos hG) (zs_rLos hG) (zl_rLos hG) rfl (by omega) (by decide) (by decide) dX5_lose_96 ?_
            refine j_iload C 0 dX5_lose_97 rfl ?_
            refine j_if_eq (tgt := 106) (a := (Z (130) ((md + a) % 64)).toInt) C rfl dX5_lose_99 (by decide) (fun c99 => ?_) (fun c99 => ?_)
            ·
              refine j_iconst C (nI 1) dX5_lose_106 (by decide) ?_
              refine j_iret C R dX5_lose_107 ?_
              exact Or.inr ⟨a, ha, rfl, by omega, by (repeat' split) <;> first | rfl | (exfalso; omega), by refine zlz ?_ ?_ <;> (split <;> first | rfl | (exfalso; omega))⟩
            ·
              refine j_iconst C (nI 0) dX5_lose_102 (by decide) ?_
              refine j_goto (tgt := 107) C dX5_lose_103 (by decide) ?_
              refine j_iret C R dX5_lose_107 ?_
              exact Or.inr ⟨a, ha, rfl, by omega, by (repeat' split) <;> first | rfl | (exfalso; omega), by refine zlz ?_ ?_ <;> (split <;> first | rfl | (exfalso; omega))⟩
      ·
        refine j_iload_n C 4 dX5_lose_63 rfl rfl ?_
        refine j_if_eq (tgt := 71) (a := (p1).toInt) C rfl dX5_lose_64 (by decide) (fun c64 => ?_) (fun c64 => ?_)
        ·
          refine j_iconst C (nI 0) dX5_lose_71 (by decide) ?_
          refine j_zast C hD (zb_rTwi hG) (zs_rTwi hG) (zl_rTwi hG) rfl (by omega) (by decide) (by decide) dX5_lose_72 ?_
          refine j_aload_n C 2 dX5_lose_73 rfl rfl ?_
          refine j_getR C zK5 (zb_M hG) (zs_M hG) (f := 20) (by decide) rfl zk_X5_60 rfl (zf_M_20 hG) dX5_lose_74 ?_
          refine j_iload_n C 1 dX5_lose_77 rfl rfl ?_
          refine j_aload_n C 2 dX5_lose_78 rfl rfl ?_
          refine j_getR C zK5 (zb_M hG) (zs_M hG) (f := 20) (by decide) rfl zk_X5_60 rfl (zf_M_20 hG) dX5_lose_79 ?_
          refine j_iload_n C 1 dX5_lose_82 rfl rfl ?_
          refine j_zald C (zb_rLos hG) (zs_rLos hG) (zl_rLos hG) rfl (by omega) (by decide) (Z (129) ((md + a) % 64)) ((zu_o (by omega)).trans ((zu_o (by omega)))) dX5_lose_83 ?_
          refine j_if_ne (tgt := 91) (a := (Z (129) ((md + a) % 64)).toInt) C rfl dX5_lose_84 (by decide) (fun c84 => ?_) (fun c84 => ?_)
          ·
            refine j_iconst C (nI 1) dX5_lose_91 (by decide) ?_
            refine j_goto (tgt := 96) C dX5_lose_92 (by decide) ?_
            refine j_zast C hD (zb_rLos hG) (zs_rLos hG) (zl_rLos hG) rfl (by omega) (by decide) (by decide) dX5_lose_96 ?_
            refine j_iload C 0 dX5_lose_97 rfl ?_
            refine j_if_eq (tgt := 106) (a := (Z (130) ((md + a) % 64)).toInt) C rfl dX5_lose_99 (by decide) (fun c99 => ?_) (fun c99 => ?_)
            ·
              refine j_iconst C (nI 1) dX5_lose_106 (by decide) ?_
              refine j_iret C R dX5_lose_107 ?_
              exact Or.inr ⟨a, ha, rfl, by omega, by (repeat' split) <;> first | rfl | (exfalso; omega), by refine zlz ?_ ?_ <;> (split <;> first | rfl | (exfalso; omega))⟩
            ·
              refine j_iconst C (nI 0) dX5_lose_102 (by decide) ?_
              refine j_goto (tgt := 107) C dX5_lose_103 (by decide) ?_
              refine j_iret C R dX5_lose_107 ?_
              exact Or.inr ⟨a, ha, rfl, by omega, by (repeat' split) <;> first | rfl | (exfalso; omega), by refine zlz ?_ ?_ <;> (split <;> first | rfl | (exfalso; omega))⟩
          ·
            refine j_iload_n C 4 dX5_lose_87 rfl rfl ?_
            refine j_if_ne (tgt := 95) (a := (p1).toInt) C rfl dX5_lose_88 (by decide) (fun c88 => ?_) (fun c88 => ?_)
            ·
              refine j_iconst C (nI 0) dX5_lose_95 (by decide) ?_
              refine j_zast C hD (zb_rLos hG) (zs_rLos hG) (zl_rLos hG) rfl (by omega) (by decide) (by decide) dX5_lose_96 ?_
              refine j_iload C 0 dX5_lose_97 rfl ?_
              refine j_if_eq (tgt := 106) (a := (Z (130) ((md + a) % 64)).toInt) C rfl dX5_lose_99 (by decide) (fun c99 => ?_) (fun c99 => ?_)
              ·
                refine j_iconst C (nI 1) dX5_lose_106 (by decide) ?_
                refine j_iret C R dX5_lose_107 ?_
                exact Or.inr ⟨a, ha, rfl, by omega, by (repeat' split) <;> first | rfl | (exfalso; omega), by refine zlz ?_ ?_ <;> (split <;> first | rfl | (exfalso; omega))⟩
              ·
                refine j_iconst C (nI 0) dX5_lose_102 (by decide) ?_
                refine j_goto (tgt := 107) C dX5_lose_103 (by decide) ?_
                refine j_iret C R dX5_lose_107 ?_
                exact Or.inr ⟨a, ha, rfl, by omega, by (repeat' split) <;> first | rfl | (exfalso; omega), by refine zlz ?_ ?_ <;> (split <;> first | rfl | (exfalso; omega))⟩
            ·
              refine j_iconst C (nI 1) dX5_lose_91 (by decide) ?_
              refine j_goto (tgt := 96) C dX5_lose_92 (by decide) ?_
              refine j_zast C hD (zb_rLos hG) (zs_rLos hG) (zl_rLos hG) rfl (by omega) (by decide) (by decide) dX5_lose_96 ?_
              refine j_iload C 0 dX5_lose_97 rfl ?_
              refine j_if_eq (tgt := 106) (a := (Z (130) ((md + a) % 64)).toInt) C rfl dX5_lose_99 (by decide) (fun c99 => ?_) (fun c99 => ?_)
              ·
                refine j_iconst C (nI 1) dX5_lose_106 (by decide) ?_
                refine j_iret C R dX5_lose_107 ?_
                exact Or.inr ⟨a, ha, rfl, by omega, by (repeat' split) <;> first | rfl | (exfalso; omega), by refine zlz ?_ ?_ <;> (split <;> first | rfl | (exfalso; omega))⟩
              ·
                refine j_iconst C (nI 0) dX5_lose_102 (by decide) ?_
                refine j_goto (tgt := 107) C dX5_lose_103 (by decide) ?_
                refine j_iret C R dX5_lose_107 ?_
                exact Or.inr ⟨a, ha, rfl, by omega, by (repeat' split) <;> first | rfl | (exfalso; omega), by refine zlz ?_ ?_ <;> (split <;> first | rfl | (exfalso; omega))⟩
        ·
          refine j_iconst C (nI 1) dX5_lose_67 (by decide) ?_
          refine j_goto (tgt := 72) C dX5_lose_68 (by decide) ?_
          refine j_zast C hD (zb_rTwi hG) (zs_rTwi hG) (zl_rTwi hG) rfl (by omega) (by decide) (by decide) dX5_lose_72 ?_
          refine j_aload_n C 2 dX5_lose_73 rfl rfl ?_
          refine j_getR C zK5 (zb_M hG) (zs_M hG) (f := 20) (by decide) rfl zk_X5_60 rfl (zf_M_20 hG) dX5_lose_74 ?_
          refine j_iload_n C 1 dX5_lose_77 rfl rfl ?_
          refine j_aload_n C 2 dX5_lose_78 rfl rfl ?_
          refine j_getR C zK5 (zb_M hG) (zs_M hG) (f := 20) (by decide) rfl zk_X5_60 rfl (zf_M_20 hG) dX5_lose_79 ?_
          refine j_iload_n C 1 dX5_lose_82 rfl rfl ?_
          refine j_zald C (zb_rLos hG) (zs_rLos hG) (zl_rLos hG) rfl (by omega) (by decide) (Z (129) ((md + a) % 64)) ((zu_o (by omega)).trans ((zu_o (by omega)))) dX5_lose_83 ?_
          refine j_if_ne (tgt := 91) (a := (Z (129) ((md + a) % 64)).toInt) C rfl dX5_lose_84 (by decide) (fun c84 => ?_) (fun c84 => ?_)
          ·
            refine j_iconst C (nI 1) dX5_lose_91 (by decide) ?_
            refine j_goto (tgt := 96) C dX5_lose_92 (by decide) ?_
            refine j_zast C hD (zb_rLos hG) (zs_rLos hG) (zl_rLos hG) rfl (by omega) (by decide) (by decide) dX5_lose_96 ?_
            refine j_iload C 0 dX5_lose_97 rfl ?_
            refine j_if_eq (tgt := 106) (a := (Z (130) ((md + a) % 64)).toInt) C rfl dX5_lose_99 (by decide) (fun c99 => ?_) (fun c99 => ?_)
            ·
              refine j_iconst C (nI 1) dX5_lose_106 (by decide) ?_
              refine j_iret C R dX5_lose_107 ?_
              exact Or.inr ⟨a, ha, rfl, by omega, by (repeat' split) <;> first | rfl | (exfalso; omega), by refine zlz ?_ ?_ <;> (split <;> first | rfl | (exfalso; omega))⟩
            ·
              refine j_iconst C (nI 0) dX5_lose_102 (by decide) ?_
              refine j_goto (tgt := 107) C dX5_lose_103 (by decide) ?_
              refine j_iret C R dX5_lose_107 ?_
              exact Or.inr ⟨a, ha, rfl, by omega, by (repeat' split) <;> first | rfl | (exfalso; omega), by refine zlz ?_ ?_ <;> (split <;> first | rfl | (exfalso; omega))⟩
          ·
            refine j_iload_n C 4 dX5_lose_87 rfl rfl ?_
            refine j_if_ne (tgt := 95) (a := (p1).toInt) C rfl dX5_lose_88 (by decide) (fun c88 => ?_) (fun c88 => ?_)
            ·
              refine j_iconst C (nI 0) dX5_lose_95 (by decide) ?_
              refine j_zast C hD (zb_rLos hG) (zs_rLos hG) (zl_rLos hG) rfl (by omega) (by decide) (by decide) dX5_lose_96 ?_
              refine j_iload C 0 dX5_lose_97 rfl ?_
              refine j_if_eq (tgt := 106) (a := (Z (130) ((md + a) % 64)).toInt) C rfl dX5_lose_99 (by decide) (fun c99 => ?_) (fun c99 => ?_)
              ·
                refine j_iconst C (nI 1) dX5_lose_106 (by decide) ?_
                refine j_iret C R dX5_lose_107 ?_
                exact Or.inr ⟨a, ha, rfl, by omega, by (repeat' split) <;> first | rfl | (exfalso; omega), by refine zlz ?_ ?_ <;> (split <;> first | rfl | (exfalso; omega))⟩
              ·
                refine j_iconst C (nI 0) dX5_lose_102 (by decide) ?_
                refine j_goto (tgt := 107) C dX5_lose_103 (by decide) ?_
                refine j_iret C R dX5_lose_107 ?_
                exact Or.inr ⟨a, ha, rfl, by omega, by (repeat' split) <;> first | rfl | (exfalso; omega), by refine zlz ?_ ?_ <;> (split <;> first | rfl | (exfalso; omega))⟩
            ·
              refine j_iconst C (nI 1) dX5_lose_91 (by decide) ?_
              refine j_goto (tgt := 96) C dX5_lose_92 (by decide) ?_
              refine j_zast C hD (zb_rLos hG) (zs_rLos hG) (zl_rLos hG) rfl (by omega) (by decide) (by decide) dX5_lose_96 ?_
              refine j_iload C 0 dX5_lose_97 rfl ?_
              refine j_if_eq (tgt := 106) (a := (Z (130) ((md + a) % 64)).toInt) C rfl dX5_lose_99 (by decide) (fun c99 => ?_) (fun c99 => ?_)
              ·
                refine j_iconst C (nI 1) dX5_lose_106 (by decide) ?_
                refine j_iret C R dX5_lose_107 ?_
                exact Or.inr ⟨a, ha, rfl, by omega, by (repeat' split) <;> first | rfl | (exfalso; omega), by refine zlz ?_ ?_ <;> (split <;> first | rfl | (exfalso; omega))⟩
              ·
                refine j_iconst C (nI 0) dX5_lose_102 (by decide) ?_
                refine j_goto (tgt := 107) C dX5_lose_103 (by decide) ?_
                refine j_iret C R dX5_lose_107 ?_
                exact Or.inr ⟨a, ha, rfl, by omega, by (repeat' split) <;> first | rfl | (exfalso; omega), by refine zlz ?_ ?_ <;> (split <;> first | rfl | (exfalso; omega))⟩
  ·
    refine j_Z e9 ?_
    refine j_if_ne (tgt := 18) (a := ((0 : Nat) : Int)) C (nI_toInt (by omega)) dX5_lose_12 (by decide) (fun c12 => absurd c12 (by omega)) (fun c12 => ?_)
    refine j_bipush C (-12) dX5_lose_15 (by decide) ?_
    refine j_iret C R dX5_lose_17 ?_
    exact Or.inl ⟨by omega, rfl, rfl⟩
