theorem zmx {w t : Int32} {wI tI : Int} (hw : w.toInt = wI) (ht : t.toInt = tI) (h : wI < tI) : (if w < t then t else w) = t := if_pos ((zi_lt hw ht).mpr h)
theorem zmx2 {w t : Int32} {wI tI : Int} (hw : w.toInt = wI) (ht : t.toInt = tI) (h : tI ≤ wI) : (if w < t then t else w) = w := if_neg (fun q => by have := (zi_lt hw ht).mp q; omega)
set_option maxRecDepth 100000 in
set_option maxHeartbeats 4000000 in
theorem kX5_passes {l : Launch} {D : va_G} {Y : YT} {b0 : Nat} {G : GT} (hD : GD b0 G) (hG : Gok 132 G) {Z : ZT} {i : Nat} (hi : i < 12) {po : Nat} (hpo : Z 121 i = nI po) (hpo40 : po < 40) {w : Int32} {wI : Int} (hw : Z 121 (12 + i) = w) (hwI : w.toInt = wI) {t : Int32} {tI : Int} (ht : Z 115 (40 * i + po) = t) (htI : t.toInt = tI) : CV l D Y b0 G yX5_passes cX5_passes 3 0 [.ref (G.2.1 (113)), .int (nI i)] Z (fun Z' => Z' = zu (zu Z 121 i (nI (po + 1))) 121 (12 + i) (if w < t then t else w)) := by
  refine cv_start (lv0 := [(0, .ref (G.2.1 (113))), (1, .int (nI i))]) hD rfl (Nat.le_of_ble_eq_true rfl) rfl ?_
  intro E C R hR hD hN
  refine j_aload_n C 0 dX5_passes_0 rfl rfl ?_
  refine j_getR C zK5 (zb_M hG) (zs_M hG) (f := 4) (by decide) rfl zk_X5_17 rfl (zf_M_4 hG) dX5_passes_1 ?_
  refine j_bipush C (nI 40) dX5_passes_4 (by decide) ?_
  refine j_iload_n C 1 dX5_passes_6 rfl rfl ?_
  refine j_imul C (nI (40 * i)) dX5_passes_7 (pk_mul 40 i) ?_
  refine j_aload_n C 0 dX5_passes_8 rfl rfl ?_
  refine j_getR C zK5 (zb_M hG) (zs_M hG) (f := 10) (by decide) rfl zk_X5_36 rfl (zf_M_10 hG) dX5_passes_9 ?_
  refine j_iload_n C 1 dX5_passes_12 rfl rfl ?_
  refine j_iald C (zb_rAt hG) (zs_rAt hG) (zl_rAt hG) rfl (by omega) (by decide) (nI po) hpo dX5_passes_13 ?_
  refine j_iadd C (nI (40 * i + po)) dX5_passes_14 (nI_add (40 * i) po) ?_
  refine j_iald C (zb_rTim hG) (zs_rTim hG) (zl_rTim hG) rfl (by omega) (by decide) (t) ht dX5_passes_15 ?_
  refine j_istore_n (lv' := [(2, .int (t)), (0, .ref (G.2.1 (113))), (1, .int (nI i))]) C dX5_passes_16 rfl (by rw [hN]; decide) rfl ?_
  refine j_aload_n C 1 dX5_passes_17 rfl rfl ?_
  refine j_getR C zK5 (zb_M hG) (zs_M hG) (f := 10) (by decide) rfl zk_X5_36 rfl (zf_M_10 hG) dX5_passes_18 ?_
  refine j_iload_n C 2 dX5_passes_21 rfl rfl ?_
  refine j_dup2 C dX5_passes_22 rfl rfl ?_
  refine j_iald C (zb_rAt hG) (zs_rAt hG) (zl_rAt hG) rfl (by omega) (by decide) (nI po) hpo dX5_passes_23 ?_
  refine j_iconst C (nI 1) dX5_passes_24 (by decide) ?_
  refine j_iadd C (nI (po + 1)) dX5_passes_25 (nI_add po 1) ?_
  refine j_iast C hD (zb_rAt hG) (zs_rAt hG) (zl_rAt hG) rfl (by omega) (by decide) dX5_passes_26 ?_
  refine j_aload_n C 1 dX5_passes_27 rfl rfl ?_
  refine j_getR C zK5 (zb_M hG) (zs_M hG) (f := 10) (by decide) rfl zk_X5_36 rfl (zf_M_10 hG) dX5_passes_28 ?_
  refine j_bipush C (nI 12) dX5_passes_31 (by decide) ?_
  refine j_iload_n C 2 dX5_passes_33 rfl rfl ?_
  refine j_iadd C (nI (12 + i)) dX5_passes_34 (nI_add 12 i) ?_
  refine j_iload_n C 0 dX5_passes_35 rfl rfl ?_
  refine j_aload_n C 1 dX5_passes_36 rfl rfl ?_
  refine j_getR C zK5 (zb_M hG) (zs_M hG) (f := 10) (by decide) rfl zk_X5_36 rfl (zf_M_10 hG) dX5_passes_37 ?_
  refine j_bipush C (nI 12) dX5_passes_40 (by decide) ?_
  refine j_iload_n C 2 dX5_passes_42 rfl rfl ?_
  refine j_iadd C (nI (12 + i)) dX5_passes_43 (nI_add 12 i) ?_
  refine j_iald C (zb_rAt hG) (zs_rAt hG) (zl_rAt hG) rfl (by omega) (by decide) (w) ((zu_o (by omega)).trans (hw)) dX5_passes_44 ?_
  refine j_icmp_le (tgt := 52) (a := tI) (b := wI) C htI hwI dX5_passes_45 (by decide) (fun c45 => ?_) (fun c45 => ?_)
  ·
    refine j_aload_n C 1 dX5_passes_52 rfl rfl ?_
    refine j_getR C zK5 (zb_M hG) (zs_M hG) (f := 10) (by decide) rfl zk_X5_36 rfl (zf_M_10 hG) dX5_passes_53 ?_
    refine j_bipush C (nI 12) dX5_passes_56 (by decide) ?_
    refine j_iload_n C 2 dX5_passes_58 rfl rfl ?_
    refine j_iadd C (nI (12 + i)) dX5_passes_59 (nI_add 12 i) ?_
    refine j_iald C (zb_rAt hG) (zs_rAt hG) (zl_rAt hG) rfl (by omega) (by decide) (w) ((zu_o (by omega)).trans (hw)) dX5_passes_60 ?_
    refine j_iast C hD (zb_rAt hG) (zs_rAt hG) (zl_rAt hG) rfl (by omega) (by decide) dX5_passes_61 ?_
    refine j_ret C R dX5_passes_62 ?_
    rw [zmx2 hwI htI (by omega)]
  ·
    refine j_iload_n C 0 dX5_passes_48 rfl rfl ?_
    refine j_goto (tgt := 61) C dX5_passes_49 (by decide) ?_
    refine j_iast C hD (zb_rAt hG) (zs_rAt hG) (zl_rAt hG) rfl (by omega) (by decide) dX5_passes_61 ?_
    refine j_ret C R dX5_passes_62 ?_
    rw [zmx hwI htI (by omega)]
set_option maxRecDepth 100000 in
set_option maxHeartbeats 4000000 in
theorem kX5_notes {l : Launch} {D : va_G} {Y : YT} {b0 : Nat} {G : GT} (hD : GD b0 G) (hG : Gok 132 G) {Z : ZT} {na : Nat} (hna : Z 113 13 = nI na) (hna100 : na ≤ 100) (p0 p1 : Int32) : CV l D Y b0 G yX5_notes cX5_notes 3 0 [.ref (G.2.1 (113)), .int (p0), .int (p1)] Z (fun Z' => (na < 100 ∧ Z' = (zu (zu (zu Z (123) (2 * na) (p0)) (123) (2 * na + 1) (p1)) (113) (13) (nI (na + 1)))) ∨ (100 ≤ na ∧ Z' = Z)) := by
  refine cv_start (lv0 := [(0, .ref (G.2.1 (113))), (1, .int (p0)), (2, .int (p1))]) hD rfl (Nat.le_of_ble_eq_true rfl) rfl ?_
  intro E C R hR hD hN
  refine j_aload_n C 0 dX5_notes_0 rfl rfl ?_
  refine j_getI C zK5 (zb_M hG) (zs_M hG) (f := 13) (by decide) rfl zk_X5_128 rfl (nI na) hna dX5_notes_1 ?_
  refine j_bipush C (nI 100) dX5_notes_4 (by decide) ?_
  refine j_icmp_ge (tgt := 45) (a := ((na : Nat) : Int)) (b := ((100 : Nat) : Int)) C (nI_toInt (by omega)) (nI_toInt (by omega)) dX5_notes_6 (by decide) (fun c6 => ?_) (fun c6 => ?_)
  ·
    refine j_ret C R dX5_notes_45 ?_
    first | exact Or.inl ⟨by omega, rfl⟩ | exact Or.inr ⟨by omega, rfl⟩
  ·
    refine j_aload_n C 0 dX5_notes_9 rfl rfl ?_
    refine j_getR C zK5 (zb_M hG) (zs_M hG) (f := 12) (by decide) rfl zk_X5_42 rfl (zf_M_12 hG) dX5_notes_10 ?_
    refine j_iconst C (nI 2) dX5_notes_13 (by decide) ?_
    refine j_aload_n C 0 dX5_notes_14 rfl rfl ?_
    refine j_getI C zK5 (zb_M hG) (zs_M hG) (f := 13) (by decide) rfl zk_X5_128 rfl (nI na) hna dX5_notes_15 ?_
    refine j_imul C (nI (2 * na)) dX5_notes_18 (pk_mul 2 na) ?_
    refine j_iload_n C 1 dX5_notes_19 rfl rfl ?_
    refine j_iast C hD (zb_rNot hG) (zs_rNot hG) (zl_rNot hG) rfl (by omega) (by decide) dX5_notes_20 ?_
    refine j_aload_n C 0 dX5_notes_21 rfl rfl ?_
    refine j_getR C zK5 (zb_M hG) (zs_M hG) (f := 12) (by decide) rfl zk_X5_42 rfl (zf_M_12 hG) dX5_notes_22 ?_
    refine j_iconst C (nI 2) dX5_notes_25 (by decide) ?_
    refine j_aload_n C 0 dX5_notes_26 rfl rfl ?_
    refine j_getI C zK5 (zb_M hG) (zs_M hG) (f := 13) (by decide) rfl zk_X5_128 rfl (nI na) ((zu_o (by omega)).trans (hna)) dX5_notes_27 ?_
    refine j_imul C (nI (2 * na)) dX5_notes_30 (pk_mul 2 na) ?_
    refine j_iconst C (nI 1) dX5_notes_31 (by decide) ?_
    refine j_iadd C (nI (2 * na + 1)) dX5_notes_32 (nI_add (2 * na) 1) ?_
    refine j_iload_n C 2 dX5_notes_33 rfl rfl ?_
    refine j_iast C hD (zb_rNot hG) (zs_rNot hG) (zl_rNot hG) rfl (by omega) (by decide) dX5_notes_34 ?_
    refine j_aload_n C 0 dX5_notes_35 rfl rfl ?_
    refine j_dup C dX5_notes_36 rfl ?_
    refine j_getI C zK5 (zb_M hG) (zs_M hG) (f := 13) (by decide) rfl zk_X5_128 rfl (nI na) ((zu_o (by omega)).trans ((zu_o (by omega)).trans (hna))) dX5_notes_37 ?_
    refine j_iconst C (nI 1) dX5_notes_40 (by decide) ?_
    refine j_iadd C (nI (na + 1)) dX5_notes_41 (nI_add na 1) ?_
    refine j_putI C hD zK5 (zb_M hG) (zs_M hG) (f := 13) (by decide) rfl zk_X5_128 rfl rfl rfl rfl dX5_notes_42 ?_
    refine j_ret C R dX5_notes_45 ?_
    first | exact Or.inl ⟨by omega, rfl⟩ | exact Or.inr ⟨by omega, rfl⟩
def MFx (Z : ZT) (c po nu md na : Nat) (r : Int32) (Z' : ZT) : Prop := (((Z 129 ((md + 1) % 64)).toInt ≠ 0) ∧ r = (-2) ∧ Z' = (zu (zu (zu (zu (zu (zu (zu (zu (zu Z (113) (22) (nI (md + 1))) (129) ((md + 1) % 64) (nI 0)) (130) ((md + 1) % 64) (nI 0)) (131) (0) (nI c)) (131) (1) (nI po)) (131) (2) (Z 115 (40 * c + po))) (131) (3) (nI (md + 1))) (131) (4) (Z 121 (24 + c))) (113) (23) (Z 113 23 + nI 1))) ∨ (((Z 129 ((md + 1) % 64)).toInt = 0 ∧ (Z 116 (40 * c + po)).toInt = 0 ∧ na < 100) ∧ r = (-3) ∧ Z' = (zu (zu (zu (zu (zu (zu (zu (zu (zu (zu (zu (zu (zu Z (113) (22) (nI (md + 1))) (129) ((md + 1) % 64) (nI 0)) (130) ((md + 1) % 64) (nI 0)) (131) (0) (nI c)) (131) (1) (nI po)) (131) (2) (Z 115 (40 * c + po))) (131) (3) (nI (md + 1))) (131) (4) (Z 121 (24 + c))) (123) (2 * na) (nI c)) (123) (2 * na + 1) (nI po)) (113) (13) (nI (na + 1))) (121) (c) (nI (po + 1))) (121) (12 + c) (if Z 121 (12 + c) < Z 115 (40 * c + po) then Z 115 (40 * c + po) else Z 121 (12 + c)))) ∨ (((Z 129 ((md + 1) % 64)).toInt = 0 ∧ (Z 116 (40 * c + po)).toInt = 0 ∧ 100 ≤ na) ∧ r = (-3) ∧ Z' = (zu (zu (zu (zu (zu (zu (zu (zu (zu (zu Z (113) (22) (nI (md + 1))) (129) ((md + 1) % 64) (nI 0)) (130) ((md + 1) % 64) (nI 0)) (131) (0) (nI c)) (131) (1) (nI po)) (131) (2) (Z 115 (40 * c + po))) (131) (3) (nI (md + 1))) (131) (4) (Z 121 (24 + c))) (121) (c) (nI (po + 1))) (121) (12 + c) (if Z 121 (12 + c) < Z 115 (40 * c + po) then Z 115 (40 * c + po) else Z 121 (12 + c)))) ∨ (((Z 129 ((md + 1) % 64)).toInt = 0 ∧ (Z 116 (40 * c + po)).toInt ≠ 0 ∧ (Z 122 nu).toInt ≠ 0) ∧ r = (-4) ∧ Z' = (zu (zu (zu (zu (zu (zu (zu (zu (zu (zu (zu Z (113) (22) (nI (md + 1))) (129) ((md + 1) % 64) (nI 0)) (130) ((md + 1) % 64) (nI 0)) (131) (0) (nI c)) (131) (1) (nI po)) (131) (2) (Z 115 (40 * c + po))) (131) (3) (nI (md + 1))) (131) (4) (Z 121 (24 + c))) (113) (24) (Z 113 24 + nI 1)) (121) (c) (nI (po + 1))) (121) (12 + c) (if Z 121 (12 + c) < Z 115 (40 * c + po) then Z 115 (40 * c + po) else Z 121 (12 + c)))) ∨ (((Z 129 ((md + 1) % 64)).toInt = 0 ∧ (Z 116 (40 * c + po)).toInt ≠ 0 ∧ (Z 122 nu).toInt = 0 ∧ (Z 130 ((md + 1) % 64)).toInt = 0) ∧ r = nI nu ∧ Z' = (zu (zu (zu (zu (zu (zu (zu (zu (zu (zu (zu Z (113) (22) (nI (md + 1))) (129) ((md + 1) % 64) (nI 0)) (130) ((md + 1) % 64) (nI 0)) (131) (0) (nI c)) (131) (1) (nI po)) (131) (2) (Z 115 (40 * c + po))) (131) (3) (nI (md + 1))) (131) (4) (Z 121 (24 + c))) (122) (nu) (nI 1)) (121) (c) (nI (po + 1))) (121) (12 + c) (if Z 121 (12 + c) < Z 115 (40 * c + po) then Z 115 (40 * c + po) else Z 121 (12 + c)))) ∨ (((Z 129 ((md + 1) % 64)).toInt = 0 ∧ (Z 116 (40 * c + po)).toInt ≠ 0 ∧ (Z 122 nu).toInt = 0 ∧ (Z 130 ((md + 1) % 64)).toInt ≠ 0) ∧ r = nI nu ∧ Z' = (zu (zu (zu (zu (zu (zu (zu (zu (zu Z (113) (22) (nI (md + 1))) (129) ((md + 1) % 64) (nI 0)) (130) ((md + 1) % 64) (nI 0)) (131) (0) (nI c)) (131) (1) (nI po)) (131) (2) (Z 115 (40 * c + po))) (131) (3) (nI (md + 1))) (131) (4) (Z 121 (24 + c))) (122) (nu) (nI 1)))
set_option maxRecDepth 100000 in
set_option maxHeartbeats 4000000 in
theorem kX5_read {l : Launch} {D : va_G} {Y : YT} {b0 : Nat} {G : GT} (hD : GD b0 G) (hG : Gok 132 G) {Z : ZT} {Zi : ZT} (hZi : zu Zi 113 0 (nI 0) = Z) {np : Nat} (hnp : Z 113 1 = nI np) (hnp12 : np ≤ 12) {nt : Nat} (hnt : Z 113 2 = nI nt) (hnt6 : nt ≤ 6) {rc : Nat → Nat} (hrc : ∀ i, i < np → Z 117 i = nI (rc i) ∧ rc i ≤ 40) {po : Nat → Nat} (hpon : ∀ i, i < np → Z 121 i = nI (po i)) (hpo40 : ∀ i, i < np → po i ≤ 40) {nu : Nat → Nat → Nat} (hnu : ∀ i, i < np → ∀ j, j < rc i → Z 114 (40 * i + j) = nI (nu i j) ∧ nu i j < 256) {md na : Nat} (hmd : Z 113 22 = nI md) (hmd9 : md < 2 ^ 19) (hna : Z 113 13 = nI na) (hna100 : na ≤ 100) (p0 : Int32) : CI l D Y b0 G yX5_read cX5_read 7 (some .int) 2 [.ref (G.2.1 (113)), .int (p0)] Zi (fun r Z' => ((p0.toInt < 0 ∨ (nt : Int) ≤ p0.toInt) ∧ r = (-11) ∧ Z' = Z) ∨ ((0 ≤ p0.toInt ∧ p0.toInt < (nt : Int)) ∧ nxb (rtM Z p0) (ncM Z p0) np = none ∧ r = (-1) ∧ Z' = zaf Z np (fun i _ => ncM Z p0 i) [2]) ∨ ((0 ≤ p0.toInt ∧ p0.toInt < (nt : Int)) ∧ ∃ c Z1, nxb (rtM Z p0) (ncM Z p0) np = some c ∧ Z1 = zu (zaf Z np (fun i _ => ncM Z p0 i) [2]) 121 (24 + c) (ncM Z p0 c - nxs (rtM Z p0) (shM Z) np) ∧ MFx Z1 c (po c) (nu c (po c)) md na r Z')) := by
  refine ci_start (lv0 := [(0, .ref (G.2.1 (113))), (1, .int (p0))]) hD rfl rfl (Nat.le_of_ble_eq_true rfl) rfl ?_
  intro E C R hR hD hN
  refine j_aload_n C 0 dX5_read_0 rfl rfl ?_
  refine j_iconst C (nI 0) dX5_read_1 (by decide) ?_
  refine j_putI C hD zK5 (zb_M hG) (zs_M hG) (f := 0) (by decide) rfl zk_X5_72 rfl rfl rfl rfl dX5_read_2 ?_
  refine j_Z hZi ?_
  refine j_iload_n C 1 dX5_read_5 rfl rfl ?_
  refine j_iconst C (nI 0) dX5_read_6 (by decide) ?_
  refine j_aload_n C 0 dX5_read_7 rfl rfl ?_
  refine j_getI C zK5 (zb_M hG) (zs_M hG) (f := 2) (by decide) rfl zk_X5_7 rfl (nI nt) hnt dX5_read_8 ?_
  refine j_iconst C (nI 1) dX5_read_11 (by decide) ?_
  refine j_isub C (nI nt - nI 1) dX5_read_12 rfl ?_
  refine j_callS C hR (kX5_in hD hG (p0 := p0) (p1 := nI 0) (p2 := nI nt - nI 1) (a := (p0).toInt) (b := ((0 : Nat) : Int)) (c := ((nt : Nat) : Int) - ((1 : Nat) : Int)) rfl (nI_toInt (by omega)) (pk_sub_toInt (by omega) (by omega))) [] zmX5_in rfl zk_X5_78 (by decide) rfl rfl (Nat.le_of_ble_eq_true rfl) dX5_read_13 (fun r13 Z13 h13 => ?_)
  obtain ⟨e13, ⟨rfl, h13⟩ | ⟨rfl, h13⟩⟩ := h13
  ·
    refine j_Z e13 ?_
    refine j_if_ne (tgt := 22) (a := ((1 : Nat) : Int)) C (nI_toInt (by omega)) dX5_read_16 (by decide) (fun c16 => ?_) (fun c16 => absurd c16 (by omega))
    refine j_aload_n C 0 dX5_read_22 rfl rfl ?_
    refine j_iload_n C 1 dX5_read_23 rfl rfl ?_
    refine j_callI C hR (kX5_nextOf hD hG (np := np) hnp (by omega) (p0)) [] zmX5_nextOf zk_X5_109 zK5 (zb_M hG) (zs_M hG) (by decide) rfl rfl (Nat.le_of_ble_eq_true rfl) dX5_read_24 (fun r24 Z24 h24 => ?_)
    rcases h24 with ⟨hb, rfl, e24⟩ | ⟨c, hb, rfl, e24⟩
    ·
      refine j_Z (Z' := (zaf Z (np) (fun i _ => ncM Z p0 i) [2])) e24 ?_
      refine j_istore_n (lv' := [(2, .int (-1)), (0, .ref (G.2.1 (113))), (1, .int (p0))]) C dX5_read_27 rfl (by rw [hN]; decide) rfl ?_
      refine j_iload_n C 0 dX5_read_28 rfl rfl ?_
      refine j_iconst C (-1) dX5_read_29 (by decide) ?_
      refine j_icmp_ne (tgt := 35) (a := -1) (b := -1) C (show ((-1 : Int32)).toInt = -1 by decide) (show ((-1 : Int32)).toInt = -1 by decide) dX5_read_30 (by decide) (fun c30 => absurd c30 (by omega)) (fun c30 => ?_)
      refine j_iconst C (-1) dX5_read_33 (by decide) ?_
      refine j_iret C R dX5_read_34 ?_
      exact Or.inr (Or.inl ⟨by omega, hb, rfl, rfl⟩)
    ·
      obtain ⟨hcn, hrtc⟩ := nxb_spec hb
      obtain ⟨hrcc, hrc40⟩ := hrc c hcn
      have hpoc := hpon c hcn
      have hpo9 := hpo40 c hcn
      have hlt : po c < rc c := by
        have q := (of_decide_eq_true hrtc).2
        rw [hrcc, hpoc, nI_toInt (by omega), nI_toInt (by omega)] at q
        omega
      obtain ⟨hnuc, hnu256⟩ := hnu c hcn (po c) hlt
      obtain ⟨Z1, eZ1⟩ : ∃ z, z = (zu (zaf Z (np) (fun i _ => ncM Z p0 i) [2]) (121) (24 + c) (ncM Z p0 c - nxs (rtM Z p0) (shM Z) np)) := ⟨_, rfl⟩
      have f0 : Z1 117 c = nI (rc c) := by rw [eZ1]; exact ((zu_o (by omega)).trans ((zaf_o (by omega)).trans (hrcc)))
      have f1 : Z1 121 c = nI (po c) := by rw [eZ1]; exact ((zu_o (by omega)).trans ((zaf_g 0 (by omega) (by decide)).trans (hpoc)))
      have f2 : Z1 114 (40 * c + (po c)) = nI (nu c (po c)) := by rw [eZ1]; exact ((zu_o (by omega)).trans ((zaf_o (by omega)).trans (hnuc)))
      have f3 : Z1 113 22 = nI md := by rw [eZ1]; exact ((zu_o (by omega)).trans ((zaf_o (by omega)).trans (hmd)))
      have f4 : Z1 113 13 = nI na := by rw [eZ1]; exact ((zu_o (by omega)).trans ((zaf_o (by omega)).trans (hna)))
      refine j_Z (e24.trans eZ1.symm) ?_
      refine j_istore_n (lv' := [(2, .int (nI c)), (0, .ref (G.2.1 (113))), (1, .int (p0))]) C dX5_read_27 rfl (by rw [hN]; decide) rfl ?_
      refine j_iload_n C 0 dX5_read_28 rfl rfl ?_
      refine j_iconst C (-1) dX5_read_29 (by decide) ?_
      refine j_icmp_ne (tgt := 35) (a := ((c : Nat) : Int)) (b := -1) C (nI_toInt (by omega)) (show ((-1 : Int32)).toInt = -1 by decide) dX5_read_30 (by decide) (fun c30 => ?_) (fun c30 => absurd c30 (by omega))
      refine j_aload_n C 1 dX5_read_35 rfl rfl ?_
      refine j_getR C zK5 (zb_M hG) (zs_M hG) (f := 10) (by decide) rfl zk_X5_36 rfl (zf_M_10 hG) dX5_read_36 ?_
      refine j_iload_n C 0 dX5_read_39 rfl rfl ?_
      refine j_iald C (zb_rAt hG) (zs_rAt hG) (zl_rAt hG) rfl (by omega) (by decide) (nI (po c)) f1 dX5_read_40 ?_
      refine j_istore_n (lv' := [(3, .int (nI (po c))), (2, .int (nI c)), (0, .ref (G.2.1 (113))), (1, .int (p0))]) C dX5_read_41 rfl (by rw [hN]; decide) rfl ?_
      refine j_bipush C (nI 40) dX5_read_42 (by decide) ?_
      refine j_iload_n C 1 dX5_read_44 rfl rfl ?_
      refine j_imul C (nI (40 * c)) dX5_read_45 (pk_mul 40 c) ?_
      refine j_iload_n C 0 dX5_read_46 rfl rfl ?_
      refine j_iadd C (nI (40 * c + (po c))) dX5_read_47 (nI_add (40 * c) (po c)) ?_
      refine j_istore (lv' := [(4, .int (nI (40 * c + (po c)))), (3, .int (nI (po c))), (2, .int (nI c)), (0, .ref (G.2.1 (113))), (1, .int (p0))]) C dX5_read_48 (by rw [hN]; decide) rfl ?_
      refine j_aload_n C 3 dX5_read_50 rfl rfl ?_
      refine j_dup C dX5_read_51 rfl ?_
      refine j_getI C zK5 (zb_M hG) (zs_M hG) (f := 22) (by decide) rfl zk_X5_112 rfl (nI md) f3 dX5_read_52 ?_
      refine j_iconst C (nI 1) dX5_read_55 (by decide) ?_
      refine j_iadd C (nI (md + 1)) dX5_read_56 (nI_add md 1) ?_
      refine j_putI C hD zK5 (zb_M hG) (zs_M hG) (f := 22) (by decide) rfl zk_X5_112 rfl rfl rfl rfl dX5_read_57 ?_
      refine j_aload_n C 3 dX5_read_60 rfl rfl ?_
      refine j_getR C zK5 (zb_M hG) (zs_M hG) (f := 20) (by decide) rfl zk_X5_60 rfl (zf_M_20 hG) dX5_read_61 ?_
      refine j_aload_n C 3 dX5_read_64 rfl rfl ?_
      refine j_getI C zK5 (zb_M hG) (zs_M hG) (f := 22) (by decide) rfl zk_X5_112 rfl (nI (md + 1)) zu_s dX5_read_65 ?_
      refine j_bipush C (nI 64) dX5_read_68 (by decide) ?_
      refine j_irem C (nI ((md + 1) % 64)) dX5_read_70 (nI_ne0 (by omega) (by omega)) (pk_rem (by omega) (by omega) (by omega)) ?_
      refine j_zald C (zb_rLos hG) (zs_rLos hG) (zl_rLos hG) rfl (by omega) (by decide) (Z1 (129) ((md + 1) % 64)) (zu_o (by omega)) dX5_read_71 ?_
      refine j_istore (lv' := [(5, .int (Z1 (129) ((md + 1) % 64))), (4, .int (nI (40 * c + (po c)))), (3, .int (nI (po c))), (2, .int (nI c)), (0, .ref (G.2.1 (113))), (1, .int (p0))]) C dX5_read_72 (by rw [hN]; decide) rfl ?_
      refine j_aload_n C 4 dX5_read_74 rfl rfl ?_
      refine j_getR C zK5 (zb_M hG) (zs_M hG) (f := 21) (by decide) rfl zk_X5_63 rfl (zf_M_21 hG) dX5_read_75 ?_
      refine j_aload_n C 4 dX5_read_78 rfl rfl ?_
      refine j_getI C zK5 (zb_M hG) (zs_M hG) (f := 22) (by decide) rfl zk_X5_112 rfl (nI (md + 1)) zu_s dX5_read_79 ?_
      refine j_bipush C (nI 64) dX5_read_82 (by decide) ?_
      refine j_irem C (nI ((md + 1) % 64)) dX5_read_84 (nI_ne0 (by omega) (by omega)) (pk_rem (by omega) (by omega) (by omega)) ?_
      refine j_zald C (zb_rTwi hG) (zs_rTwi hG) (zl_rTwi hG) rfl (by omega) (by decide) (Z1 (130) ((md + 1) % 64)) (zu_o (by omega)) dX5_read_85 ?_
      refine j_istore (lv' := [(6, .int (Z1 (130) ((md + 1) % 64))), (5, .int (Z1 (129) ((md + 1) % 64))), (4, .int (nI (40 * c + (po c)))), (3, .int (nI (po c))), (2, .int (nI c)), (0, .ref (G.2.1 (113))), (1, .int (p0))]) C dX5_read_86 (by rw [hN]; decide) rfl ?_
      refine j_aload_n C 5 dX5_read_88 rfl rfl ?_
      refine j_getR C zK5 (zb_M hG) (zs_M hG) (f := 20) (by decide) rfl zk_X5_60 rfl (zf_M_20 hG) dX5_read_89 ?_
      refine j_aload_n C 5 dX5_read_92 rfl rfl ?_
      refine j_getI C zK5 (zb_M hG) (zs_M hG) (f := 22) (by decide) rfl zk_X5_112 rfl (nI (md + 1)) zu_s dX5_read_93 ?_
      refine j_bipush C (nI 64) dX5_read_96 (by decide) ?_
      refine j_irem C (nI ((md + 1) % 64)) dX5_read_98 (nI_ne0 (by omega) (by omega)) (pk_rem (by omega) (by omega) (by omega)) ?_
      refine j_iconst C (nI 0) dX5_read_99 (by decide) ?_
      refine j_zast C hD (zb_rLos hG) (zs_rLos hG) (zl_rLos hG) rfl (by omega) (by decide) (by decide) dX5_read_100 ?_
      refine j_aload_n C 5 dX5_read_101 rfl rfl ?_
      refine j_getR C zK5 (zb_M hG) (zs_M hG) (f := 21) (by decide) rfl zk_X5_63 rfl (zf_M_21 hG) dX5_read_102 ?_
      refine j_aload_n C 5 dX5_read_105 rfl rfl ?_
      refine j_getI C zK5 (zb_M hG) (zs_M hG) (f := 22) (by decide) rfl zk_X5_112 rfl (nI (md + 1)) ((zu_o (by omega)).trans (zu_s)) dX5_read_106 ?_
      refine j_bipush C (nI 64) dX5_read_109 (by decide) ?_
      refine j_irem C (nI ((md + 1) % 64)) dX5_read_111 (nI_ne0 (by omega) (by omega)) (pk_rem (by omega) (by omega) (by omega)) ?_
      refine j_iconst C (nI 0) dX5_read_112 (by decide) ?_
      refine j_zast C hD (zb_rTwi hG) (zs_rTwi hG) (zl_rTwi hG) rfl (by omega) (by decide) (by decide) dX5_read_113 ?_
      refine j_aload_n C 5 dX5_read_114 rfl rfl ?_
      refine j_getR C zK5 (zb_M hG) (zs_M hG) (f := 25) (by decide) rfl zk_X5_66 rfl (zf_M_25 hG) dX5_read_115 ?_
      refine j_iconst C (nI 0) dX5_read_118 (by decide) ?_
      refine j_iload_n C 4 dX5_read_119 rfl rfl ?_
      refine j_iast C hD (zb_rLat hG) (zs_rLat hG) (zl_rLat hG) rfl (by omega) (by decide) dX5_read_120 ?_
      refine j_aload_n C 5 dX5_read_121 rfl rfl ?_
      refine j_getR C zK5 (zb_M hG) (zs_M hG) (f := 25) (by decide) rfl zk_X5_66 rfl (zf_M_25 hG) dX5_read_122 ?_
      refine j_iconst C (nI 1) dX5_read_125 (by decide) ?_
      refine j_iload_n C 3 dX5_read_126 rfl rfl ?_
      refine j_iast C hD (zb_rLat hG) (zs_rLat hG) (zl_rLat hG) rfl (by omega) (by decide) dX5_read_127 ?_
      refine j_aload_n C 5 dX5_read_128 rfl rfl ?_
      refine j_getR C zK5 (zb_M hG) (zs_M hG) (f := 25) (by decide) rfl zk_X5_66 rfl (zf_M_25 hG) dX5_read_129 ?_
      refine j_iconst C (nI 2) dX5_read_132 (by decide) ?_
      refine j_aload_n C 5 dX5_read_133 rfl rfl ?_
      refine j_getR C zK5 (zb_M hG) (zs_M hG) (f := 4) (by decide) rfl zk_X5_17 rfl (zf_M_4 hG) dX5_read_134 ?_
      refine j_iload C 2 dX5_read_137 rfl ?_
      refine j_iald C (zb_rTim hG) (zs_rTim hG) (zl_rTim hG) rfl (by omega) (by decide) (Z1 (115) (40 * c + (po c))) ((zu_o (by omega)).trans ((zu_o (by omega)).trans ((zu_o (by omega)).trans ((zu_o (by omega)).trans ((zu_o (by omega))))))) dX5_read_139 ?_
      refine j_iast C hD (zb_rLat hG) (zs_rLat hG) (zl_rLat hG) rfl (by omega) (by decide) dX5_read_140 ?_
      refine j_aload_n C 5 dX5_read_141 rfl rfl ?_
      refine j_getR C zK5 (zb_M hG) (zs_M hG) (f := 25) (by decide) rfl zk_X5_66 rfl (zf_M_25 hG) dX5_read_142 ?_
      refine j_iconst C (nI 3) dX5_read_145 (by decide) ?_
      refine j_aload_n C 5 dX5_read_146 rfl rfl ?_
      refine j_getI C zK5 (zb_M hG) (zs_M hG) (f := 22) (by decide) rfl zk_X5_112 rfl (nI (md + 1)) ((zu_o (by omega)).trans ((zu_o (by omega)).trans ((zu_o (by omega)).trans ((zu_o (by omega)).trans ((zu_o (by omega)).trans (zu_s)))))) dX5_read_147 ?_
      refine j_iast C hD (zb_rLat hG) (zs_rLat hG) (zl_rLat hG) rfl (by omega) (by decide) dX5_read_150 ?_
      refine j_aload_n C 5 dX5_read_151 rfl rfl ?_
      refine j_getR C zK5 (zb_M hG) (zs_M hG) (f := 25) (by decide) rfl zk_X5_66 rfl (zf_M_25 hG) dX5_read_152 ?_
      refine j_iconst C (nI 4) dX5_read_155 (by decide) ?_
      refine j_aload_n C 5 dX5_read_156 rfl rfl ?_
      refine j_getR C zK5 (zb_M hG) (zs_M hG) (f := 10) (by decide) rfl zk_X5_36 rfl (zf_M_10 hG) dX5_read_157 ?_
      refine j_bipush C (nI 24) dX5_read_160 (by decide) ?_
      refine j_iload_n C 4 dX5_read_162 rfl rfl ?_
      refine j_iadd C (nI (24 + c)) dX5_read_163 (nI_add 24 c) ?_
      refine j_iald C (zb_rAt hG) (zs_rAt hG) (zl_rAt hG) rfl (by omega) (by decide) (Z1 (121) (24 + c)) ((zu_o (by omega)).trans ((zu_o (by omega)).trans ((zu_o (by omega)).trans ((zu_o (by omega)).trans ((zu_o (by omega)).trans ((zu_o (by omega)).trans ((zu_o (by omega))))))))) dX5_read_164 ?_
      refine j_iast C hD (zb_rLat hG) (zs_rLat hG) (zl_rLat hG) rfl (by omega) (by decide) dX5_read_165 ?_
      refine j_iload C 1 dX5_read_166 rfl ?_
      refine j_if_eq (tgt := 184) (a := (Z1 (129) ((md + 1) % 64)).toInt) C rfl dX5_read_168 (by decide) (fun c168 => ?_) (fun c168 => ?_)
      ·
        refine j_aload_n C 5 dX5_read_184 rfl rfl ?_
        refine j_getR C zK5 (zb_M hG) (zs_M hG) (f := 5) (by decide) rfl zk_X5_20 rfl (zf_M_5 hG) dX5_read_185 ?_
        refine j_iload C 2 dX5_read_188 rfl ?_
        refine j_zald C (zb_rSnd hG) (zs_rSnd hG) (zl_rSnd hG) rfl (by omega) (by decide) (Z1 (116) (40 * c + (po c))) ((zu_o (by omega)).trans ((zu_o (by omega)).trans ((zu_o (by omega)).trans ((zu_o (by omega)).trans ((zu_o (by omega)).trans ((zu_o (by omega)).trans ((zu_o (by omega)).trans ((zu_o (by omega)))))))))) dX5_read_190 ?_
        refine j_if_ne (tgt := 208) (a := (Z1 (116) (40 * c + (po c))).toInt) C rfl dX5_read_191 (by decide) (fun c191 => ?_) (fun c191 => ?_)
        ·
          refine j_aload_n C 5 dX5_read_208 rfl rfl ?_
          refine j_getR C zK5 (zb_M hG) (zs_M hG) (f := 11) (by decide) rfl zk_X5_39 rfl (zf_M_11 hG) dX5_read_209 ?_
          refine j_aload_n C 5 dX5_read_212 rfl rfl ?_
          refine j_getR C zK5 (zb_M hG) (zs_M hG) (f := 3) (by decide) rfl zk_X5_13 rfl (zf_M_3 hG) dX5_read_213 ?_
          refine j_iload C 2 dX5_read_216 rfl ?_
          refine j_iald C (zb_rNum hG) (zs_rNum hG) (zl_rNum hG) rfl (by omega) (by decide) (nI (nu c (po c))) ((zu_o (by omega)).trans ((zu_o (by omega)).trans ((zu_o (by omega)).trans ((zu_o (by omega)).trans ((zu_o (by omega)).trans ((zu_o (by omega)).trans ((zu_o (by omega)).trans ((zu_o (by omega)).trans (f2))))))))) dX5_read_218 ?_
          refine j_zald C (zb_rGiv hG) (zs_rGiv hG) (zl_rGiv hG) rfl (by omega) (by decide) (Z1 (122) (nu c (po c))) ((zu_o (by omega)).trans ((zu_o (by omega)).trans ((zu_o (by omega)).trans ((zu_o (by omega)).trans ((zu_o (by omega)).trans ((zu_o (by omega)).trans ((zu_o (by omega)).trans ((zu_o (by omega)))))))))) dX5_read_219 ?_
          refine j_if_eq (tgt := 241) (a := (Z1 (122) (nu c (po c))).toInt) C rfl dX5_read_220 (by decide) (fun c220 => ?_) (fun c220 => ?_)
          ·
            refine j_aload_n C 5 dX5_read_241 rfl rfl ?_
            refine j_getR C zK5 (zb_M hG) (zs_M hG) (f := 11) (by decide) rfl zk_X5_39 rfl (zf_M_11 hG) dX5_read_242 ?_
            refine j_aload_n C 5 dX5_read_245 rfl rfl ?_
            refine j_getR C zK5 (zb_M hG) (zs_M hG) (f := 3) (by decide) rfl zk_X5_13 rfl (zf_M_3 hG) dX5_read_246 ?_
            refine j_iload C 2 dX5_read_249 rfl ?_
            refine j_iald C (zb_rNum hG) (zs_rNum hG) (zl_rNum hG) rfl (by omega) (by decide) (nI (nu c (po c))) ((zu_o (by omega)).trans ((zu_o (by omega)).trans ((zu_o (by omega)).trans ((zu_o (by omega)).trans ((zu_o (by omega)).trans ((zu_o (by omega)).trans ((zu_o (by omega)).trans ((zu_o (by omega)).trans (f2))))))))) dX5_read_251 ?_
            refine j_iconst C (nI 1) dX5_read_252 (by decide) ?_
            refine j_zast C hD (zb_rGiv hG) (zs_rGiv hG) (zl_rGiv hG) rfl (by omega) (by decide) (by decide) dX5_read_253 ?_
            refine j_iload C 0 dX5_read_254 rfl ?_
            refine j_if_ne (tgt := 264) (a := (Z1 (130) ((md + 1) % 64)).toInt) C rfl dX5_read_256 (by decide) (fun c256 => ?_) (fun c256 => ?_)
            ·
              refine j_aload_n C 5 dX5_read_264 rfl rfl ?_
              refine j_getR C zK5 (zb_M hG) (zs_M hG) (f := 3) (by decide) rfl zk_X5_13 rfl (zf_M_3 hG) dX5_read_265 ?_
              refine j_iload C 2 dX5_read_268 rfl ?_
              refine j_iald C (zb_rNum hG) (zs_rNum hG) (zl_rNum hG) rfl (by omega) (by decide) (nI (nu c (po c))) ((zu_o (by omega)).trans ((zu_o (by omega)).trans ((zu_o (by omega)).trans ((zu_o (by omega)).trans ((zu_o (by omega)).trans ((zu_o (by omega)).trans ((zu_o (by omega)).trans ((zu_o (by omega)).trans ((zu_o (by omega)).trans (f2)))))))))) dX5_read_270 ?_
              refine j_iret C R dX5_read_271 ?_
              first | exact Or.inr (Or.inr ⟨by omega, c, Z1, hb, eZ1, (Or.inl ⟨by omega, rfl, rfl⟩)⟩) | exact Or.inr (Or.inr ⟨by omega, c, Z1, hb, eZ1, (Or.inr (Or.inl ⟨by omega, rfl, rfl⟩))⟩) | exact Or.inr (Or.inr ⟨by omega, c, Z1, hb, eZ1, (Or.inr (Or.inr (Or.inl ⟨by omega, rfl, rfl⟩)))⟩) | exact Or.inr (Or.inr ⟨by omega, c, Z1, hb, eZ1, (Or.inr (Or.inr (Or.inr (Or.inl ⟨by omega, rfl, rfl⟩))))⟩) | exact Or.inr (Or.inr ⟨by omega, c, Z1, hb, eZ1, (Or.inr (Or.inr (Or.inr (Or.inr (Or.inl ⟨by omega, rfl, rfl⟩)))))⟩) | exact Or.inr (Or.inr ⟨by omega, c, Z1, hb, eZ1, (Or.inr (Or.inr (Or.inr (Or.inr (Or.inr (⟨by omega, rfl, rfl⟩))))))⟩)
            ·
              refine j_aload_n C 5 dX5_read_259 rfl rfl ?_
              refine j_iload_n C 4 dX5_read_260 rfl rfl ?_
              refine j_callV C hR (kX5_passes hD hG (i := c) (by omega) (po := po c) ((zu_o (by omega)).trans ((zu_o (by omega)).trans ((zu_o (by omega)).trans ((zu_o (by omega)).trans ((zu_o (by omega)).trans ((zu_o (by omega)).trans ((zu_o (by omega)).trans ((zu_o (by omega)).trans ((zu_o (by omega)).trans (f1)))))))))) (by omega) (w := Z1 (121) (12 + c)) (wI := (Z1 (121) (12 + c)).toInt) ((zu_o (by omega)).trans ((zu_o (by omega)).trans ((zu_o (by omega)).trans ((zu_o (by omega)).trans ((zu_o (by omega)).trans ((zu_o (by omega)).trans ((zu_o (by omega)).trans ((zu_o (by omega)).trans ((zu_o (by omega))))))))))) rfl (t := Z1 (115) (40 * c + (po c))) (tI := (Z1 (115) (40 * c + (po c))).toInt) ((zu_o (by omega)).trans ((zu_o (by omega)).trans ((zu_o (by omega)).trans ((zu_o (by omega)).trans ((zu_o (by omega)).trans ((zu_o (by omega)).trans ((zu_o (by omega)).trans ((zu_o (by omega)).trans ((zu_o (by omega))))))))))) rfl) [] zmX5_passes zk_X5_122 zK5 (zb_M hG) (zs_M hG) (by decide) rfl rfl (Nat.le_of_ble_eq_true rfl) dX5_read_261 (fun Z261 h261 => ?_)
              refine j_Z (Z' := (zu (zu (zu (zu (zu (zu (zu (zu (zu (zu (zu Z1 (113) (22) (nI (md + 1))) (129) ((md + 1) % 64) (nI 0)) (130) ((md + 1) % 64) (nI 0)) (131) (0) (nI c)) (131) (1) (nI (po c))) (131) (2) (Z1 (115) (40 * c + (po c)))) (131) (3) (nI (md + 1))) (131) (4) (Z1 (121) (24 + c))) (122) (nu c (po c)) (nI 1)) (121) (c) (nI (po c + 1))) (121) (12 + c) (if Z1 (121) (12 + c) < Z1 (115) (40 * c + (po c)) then Z1 (115) (40 * c + (po c)) else Z1 (121) (12 + c)))) h261 ?_
              refine j_aload_n C 5 dX5_read_264 rfl rfl ?_
              refine j_getR C zK5 (zb_M hG) (zs_M hG) (f := 3) (by decide) rfl zk_X5_13 rfl (zf_M_3 hG) dX5_read_265 ?_
              refine j_iload C 2 dX5_read_268 rfl ?_
              refine j_iald C (zb_rNum hG) (zs_rNum hG) (zl_rNum hG) rfl (by omega) (by decide) (nI (nu c (po c))) ((zu_o (by omega)).trans ((zu_o (by omega)).trans ((zu_o (by omega)).trans ((zu_o (by omega)).trans ((zu_o (by omega)).trans ((zu_o (by omega)).trans ((zu_o (by omega)).trans ((zu_o (by omega)).trans ((zu_o (by omega)).trans ((zu_o (by omega)).trans ((zu_o (by omega)).trans (f2)))))))))))) dX5_read_270 ?_
              refine j_iret C R dX5_read_271 ?_
              first | exact Or.inr (Or.inr ⟨by omega, c, Z1, hb, eZ1, (Or.inl ⟨by omega, rfl, rfl⟩)⟩) | exact Or.inr (Or.inr ⟨by omega, c, Z1, hb, eZ1, (Or.inr (Or.inl ⟨by omega, rfl, rfl⟩))⟩) | exact Or.inr (Or.inr ⟨by omega, c, Z1, hb, eZ1, (Or.inr (Or.inr (Or.inl ⟨by omega, rfl, rfl⟩)))⟩) | exact Or.inr (Or.inr ⟨by omega, c, Z1, hb, eZ1, (Or.inr (Or.inr (Or.inr (Or.inl ⟨by omega, rfl, rfl⟩))))⟩) | exact Or.inr (Or.inr ⟨by omega, c, Z1, hb, eZ1, (Or.inr (Or.inr (Or.inr (Or.inr (Or.inl ⟨by omega, rfl, rfl⟩)))))⟩) | exact Or.inr (Or.inr ⟨by omega, c, Z1, hb, eZ1, (Or.inr (Or.inr (Or.inr (Or.inr (Or.inr (⟨by omega, rfl, rfl⟩))))))⟩)
          ·
            refine j_aload_n C 5 dX5_read_223 rfl rfl ?_
            refine j_dup C dX5_read_224 rfl ?_
            refine j_getI C zK5 (zb_M hG) (zs_M hG) (f := 24) (by decide) rfl zk_X5_125 rfl (Z1 113 24) ((zu_o (by omega)).trans ((zu_o (by omega)).trans ((zu_o (by omega)).trans ((zu_o (by omega)).trans ((zu_o (by omega)).trans ((zu_o (by omega)).trans ((zu_o (by omega)).trans ((zu_o (by omega)))))))))) dX5_read_225 ?_
            refine j_iconst C (nI 1) dX5_read_228 (by decide) ?_
            refine j_iadd C ((Z1 113 24) + (nI 1)) dX5_read_229 rfl ?_
            refine j_putI C hD zK5 (zb_M hG) (zs_M hG) (f := 24) (by decide) rfl zk_X5_125 rfl rfl rfl rfl dX5_read_230 ?_
            refine j_aload_n C 5 dX5_read_233 rfl rfl ?_
            refine j_iload_n C 4 dX5_read_234 rfl rfl ?_
            refine j_callV C hR (kX5_passes hD hG (i := c) (by omega) (po := po c) ((zu_o (by omega)).trans ((zu_o (by omega)).trans ((zu_o (by omega)).trans ((zu_o (by omega)).trans ((zu_o (by omega)).trans ((zu_o (by omega)).trans ((zu_o (by omega)).trans ((zu_o (by omega)).trans ((zu_o (by omega)).trans (f1)))))))))) (by omega) (w := Z1 (121) (12 + c)) (wI := (Z1 (121) (12 + c)).toInt) ((zu_o (by omega)).trans ((zu_o (by omega)).trans ((zu_o (by omega)).trans ((zu_o (by omega)).trans ((zu_o (by omega)).trans ((zu_o (by omega)).trans ((zu_o (by omega)).trans ((zu_o (by omega)).trans ((zu_o (by omega))))))))))) rfl (t := Z1 (115) (40 * c + (po c))) (tI := (Z1 (115) (40 * c + (po c))).toInt) ((zu_o (by omega)).trans ((zu_o (by omega)).trans ((zu_o (by omega)).trans ((zu_o (by omega)).trans ((zu_o (by omega)).trans ((zu_o (by omega)).trans ((zu_o (by omega)).trans ((zu_o (by omega)).trans ((zu_o (by omega))))))))))) rfl) [] zmX5_passes zk_X5_122 zK5 (zb_M hG) (zs_M hG) (by decide) rfl rfl (Nat.le_of_ble_eq_true rfl) dX5_read_235 (fun Z235 h235 => ?_)
            refine j_Z (Z' := (zu (zu (zu (zu (zu (zu (zu (zu (zu (zu (zu Z1 (113) (22) (nI (md + 1))) (129) ((md + 1) % 64) (nI 0)) (130) ((md + 1) % 64) (nI 0)) (131) (0) (nI c)) (131) (1) (nI (po c))) (131) (2) (Z1 (115) (40 * c + (po c)))) (131) (3) (nI (md + 1))) (131) (4) (Z1 (121) (24 + c))) (113) (24) ((Z1 113 24) + (nI 1))) (121) (c) (nI (po c + 1))) (121) (12 + c) (if Z1 (121) (12 + c) < Z1 (115) (40 * c + (po c)) then Z1 (115) (40 * c + (po c)) else Z1 (121) (12 + c)))) h235 ?_
            refine j_bipush C (-4) dX5_read_238 (by decide) ?_
            refine j_iret C R dX5_read_240 ?_
            first | exact Or.inr (Or.inr ⟨by omega, c, Z1, hb, eZ1, (Or.inl ⟨by omega, rfl, rfl⟩)⟩) | exact Or.inr (Or.inr ⟨by omega, c, Z1, hb, eZ1, (Or.inr (Or.inl ⟨by omega, rfl, rfl⟩))⟩) | exact Or.inr (Or.inr ⟨by omega, c, Z1, hb, eZ1, (Or.inr (Or.inr (Or.inl ⟨by omega, rfl, rfl⟩)))⟩) | exact Or.inr (Or.inr ⟨by omega, c, Z1, hb, eZ1, (Or.inr (Or.inr (Or.inr (Or.inl ⟨by omega, rfl, rfl⟩))))⟩) | exact Or.inr (Or.inr ⟨by omega, c, Z1, hb, eZ1, (Or.inr (Or.inr (Or.inr (Or.inr (Or.inl ⟨by omega, rfl, rfl⟩)))))⟩) | exact Or.inr (Or.inr ⟨by omega, c, Z1, hb, eZ1, (Or.inr (Or.inr (Or.inr (Or.inr (Or.inr (⟨by omega, rfl, rfl⟩))))))⟩)
        ·
          refine j_aload_n C 5 dX5_read_194 rfl rfl ?_
          refine j_iload_n C 4 dX5_read_195 rfl rfl ?_
          refine j_iload_n C 3 dX5_read_196 rfl rfl ?_
          refine j_callV C hR (kX5_notes hD hG (na := na) ((zu_o (by omega)).trans ((zu_o (by omega)).trans ((zu_o (by omega)).trans ((zu_o (by omega)).trans ((zu_o (by omega)).trans ((zu_o (by omega)).trans ((zu_o (by omega)).trans ((zu_o (by omega)).trans (f4))))))))) (by omega) (nI c) (nI (po c))) [] zmX5_notes zk_X5_118 zK5 (zb_M hG) (zs_M hG) (by decide) rfl rfl (Nat.le_of_ble_eq_true rfl) dX5_read_197 (fun Z197 h197 => ?_)
          rcases h197 with ⟨h197, e197⟩ | ⟨h197, e197⟩
          ·
            refine j_Z (Z' := (zu (zu (zu (zu (zu (zu (zu (zu (zu (zu (zu Z1 (113) (22) (nI (md + 1))) (129) ((md + 1) % 64) (nI 0)) (130) ((md + 1) % 64) (nI 0)) (131) (0) (nI c)) (131) (1) (nI (po c))) (131) (2) (Z1 (115) (40 * c + (po c)))) (131) (3) (nI (md + 1))) (131) (4) (Z1 (121) (24 + c))) (123) (2 * na) (nI c)) (123) (2 * na + 1) (nI (po c))) (113) (13) (nI (na + 1)))) e197 ?_
            refine j_aload_n C 5 dX5_read_200 rfl rfl ?_
            refine j_iload_n C 4 dX5_read_201 rfl rfl ?_
            refine j_callV C hR (kX5_passes hD hG (i := c) (by omega) (po := po c) ((zu_o (by omega)).trans ((zu_o (by omega)).trans ((zu_o (by omega)).trans ((zu_o (by omega)).trans ((zu_o (by omega)).trans ((zu_o (by omega)).trans ((zu_o (by omega)).trans ((zu_o (by omega)).trans ((zu_o (by omega)).trans ((zu_o (by omega)).trans ((zu_o (by omega)).trans (f1)))))))))))) (by omega) (w := Z1 (121) (12 + c)) (wI := (Z1 (121) (12 + c)).toInt) ((zu_o (by omega)).trans ((zu_o (by omega)).trans ((zu_o (by omega)).trans ((zu_o (by omega)).trans ((zu_o (by omega)).trans ((zu_o (by omega)).trans ((zu_o (by omega)).trans ((zu_o (by omega)).trans ((zu_o (by omega)).trans ((zu_o (by omega)).trans ((zu_o (by omega))))))))))))) rfl (t := Z1 (115) (40 * c + (po c))) (tI := (Z1 (115) (40 * c + (po c))).toInt) ((zu_o (by omega)).trans ((zu_o (by omega)).trans ((zu_o (by omega)).trans ((zu_o (by omega)).trans ((zu_o (by omega)).trans ((zu_o (by omega)).trans ((zu_o (by omega)).trans ((zu_o (by omega)).trans ((zu_o (by omega)).trans ((zu_o (by omega)).trans ((zu_o (by omega))))))))))))) rfl) [] zmX5_passes zk_X5_122 zK5 (zb_M hG) (zs_M hG) (by decide) rfl rfl (Nat.le_of_ble_eq_true rfl) dX5_read_202 (fun Z202 h202 => ?_)
            refine j_Z (Z' := (zu (zu (zu (zu (zu (zu (zu (zu (zu (zu (zu (zu (zu Z1 (113) (22) (nI (md + 1))) (129) ((md + 1) % 64) (nI 0)) (130) ((md + 1) % 64) (nI 0)) (131) (0) (nI c)) (131) (1) (nI (po c))) (131) (2) (Z1 (115) (40 * c + (po c)))) (131) (3) (nI (md + 1))) (131) (4) (Z1 (121) (24 + c))) (123) (2 * na) (nI c)) (123) (2 * na + 1) (nI (po c))) (113) (13) (nI (na + 1))) (121) (c) (nI (po c + 1))) (121) (12 + c) (if Z1 (121) (12 + c) < Z1 (115) (40 * c + (po c)) then Z1 (115) (40 * c + (po c)) else Z1 (121) (12 + c)))) h202 ?_
            refine j_bipush C (-3) dX5_read_205 (by decide) ?_
            refine j_iret C R dX5_read_207 ?_
            first | exact Or.inr (Or.inr ⟨by omega, c, Z1, hb, eZ1, (Or.inl ⟨by omega, rfl, rfl⟩)⟩) | exact Or.inr (Or.inr ⟨by omega, c, Z1, hb, eZ1, (Or.inr (Or.inl ⟨by omega, rfl, rfl⟩))⟩) | exact Or.inr (Or.inr ⟨by omega, c, Z1, hb, eZ1, (Or.inr (Or.inr (Or.inl ⟨by omega, rfl, rfl⟩)))⟩) | exact Or.inr (Or.inr ⟨by omega, c, Z1, hb, eZ1, (Or.inr (Or.inr (Or.inr (Or.inl ⟨by omega, rfl, rfl⟩))))⟩) | exact Or.inr (Or.inr ⟨by omega, c, Z1, hb, eZ1, (Or.inr (Or.inr (Or.inr (Or.inr (Or.inl ⟨by omega, rfl, rfl⟩)))))⟩) | exact Or.inr (Or.inr ⟨by omega, c, Z1, hb, eZ1, (Or.inr (Or.inr (Or.inr (Or.inr (Or.inr (⟨by omega, rfl, rfl⟩))))))⟩)
          ·
            refine j_Z (Z' := (zu (zu (zu (zu (zu (zu (zu (zu Z1 (113) (22) (nI (md + 1))) (129) ((md + 1) % 64) (nI 0)) (130) ((md + 1) % 64) (nI 0)) (131) (0) (nI c)) (131) (1) (nI (po c))) (131) (2) (Z1 (115) (40 * c + (po c)))) (131) (3) (nI (md + 1))) (131) (4) (Z1 (121) (24 + c)))) e197 ?_
            refine j_aload_n C 5 dX5_read_200 rfl rfl ?_
            refine j_iload_n C 4 dX5_read_201 rfl rfl ?_
            refine j_callV C hR (kX5_passes hD hG (i := c) (by omega) (po := po c) ((zu_o (by omega)).trans ((zu_o (by omega)).trans ((zu_o (by omega)).trans ((zu_o (by omega)).trans ((zu_o (by omega)).trans ((zu_o (by omega)).trans ((zu_o (by omega)).trans ((zu_o (by omega)).trans (f1))))))))) (by omega) (w := Z1 (121) (12 + c)) (wI := (Z1 (121) (12 + c)).toInt) ((zu_o (by omega)).trans ((zu_o (by omega)).trans ((zu_o (by omega)).trans ((zu_o (by omega)).trans ((zu_o (by omega)).trans ((zu_o (by omega)).trans ((zu_o (by omega)).trans ((zu_o (by omega)))))))))) rfl (t := Z1 (115) (40 * c + (po c))) (tI := (Z1 (115) (40 * c + (po c))).toInt) ((zu_o (by omega)).trans ((zu_o (by omega)).trans ((zu_o (by omega)).trans ((zu_o (by omega)).trans ((zu_o (by omega)).trans ((zu_o (by omega)).trans ((zu_o (by omega)).trans ((zu_o (by omega)))))))))) rfl) [] zmX5_passes zk_X5_122 zK5 (zb_M hG) (zs_M hG) (by decide) rfl rfl (Nat.le_of_ble_eq_true rfl) dX5_read_202 (fun Z202 h202 => ?_)
            refine j_Z (Z' := (zu (zu (zu (zu (zu (zu (zu (zu (zu (zu Z1 (113) (22) (nI (md + 1))) (129) ((md + 1) % 64) (nI 0)) (130) ((md + 1) % 64) (nI 0)) (131) (0) (nI c)) (131) (1) (nI (po c))) (131) (2) (Z1 (115) (40 * c + (po c)))) (131) (3) (nI (md + 1))) (131) (4) (Z1 (121) (24 + c))) (121) (c) (nI (po c + 1))) (121) (12 + c) (if Z1 (121) (12 + c) < Z1 (115) (40 * c + (po c)) then Z1 (115) (40 * c + (po c)) else Z1 (121) (12 + c)))) h202 ?_
            refine j_bipush C (-3) dX5_read_205 (by decide) ?_
            refine j_iret C R dX5_read_207 ?_
            first | exact Or.inr (Or.inr ⟨by omega, c, Z1, hb, eZ1, (Or.inl ⟨by omega, rfl, rfl⟩)⟩) | exact Or.inr (Or.inr ⟨by omega, c, Z1, hb, eZ1, (Or.inr (Or.inl ⟨by omega, rfl, rfl⟩))⟩) | exact Or.inr (Or.inr ⟨by omega, c, Z1, hb, eZ1, (Or.inr (Or.inr (Or.inl ⟨by omega, rfl, rfl⟩)))⟩) | exact Or.inr (Or.inr ⟨by omega, c, Z1, hb, eZ1, (Or.inr (Or.inr (Or.inr (Or.inl ⟨by omega, rfl, rfl⟩))))⟩) | exact Or.inr (Or.inr ⟨by omega, c, Z1, hb, eZ1, (Or.inr (Or.inr (Or.inr (Or.inr (Or.inl ⟨by omega, rfl, rfl⟩)))))⟩) | exact Or.inr (Or.inr ⟨by omega, c, Z1, hb, eZ1, (Or.inr (Or.inr (Or.inr (Or.inr (Or.inr (⟨by omega, rfl, rfl⟩))))))⟩)
      ·
        refine j_aload_n C 5 dX5_read_171 rfl rfl ?_
        refine j_dup C dX5_read_172 rfl ?_
        refine j_getI C zK5 (zb_M hG) (zs_M hG) (f := 23) (by decide) rfl zk_X5_115 rfl (Z1 113 23) ((zu_o (by omega)).trans ((zu_o (by omega)).trans ((zu_o (by omega)).trans ((zu_o (by omega)).trans ((zu_o (by omega)).trans ((zu_o (by omega)).trans ((zu_o (by omega)).trans ((zu_o (by omega)))))))))) dX5_read_173 ?_
        refine j_iconst C (nI 1) dX5_read_176 (by decide) ?_
        refine j_iadd C ((Z1 113 23) + (nI 1)) dX5_read_177 rfl ?_
        refine j_putI C hD zK5 (zb_M hG) (zs_M hG) (f := 23) (by decide) rfl zk_X5_115 rfl rfl rfl rfl dX5_read_178 ?_
        refine j_bipush C (-2) dX5_read_181 (by decide) ?_
        refine j_iret C R dX5_read_183 ?_
        first | exact Or.inr (Or.inr ⟨by omega, c, Z1, hb, eZ1, (Or.inl ⟨by omega, rfl, rfl⟩)⟩) | exact Or.inr (Or.inr ⟨by omega, c, Z1, hb, eZ1, (Or.inr (Or.inl ⟨by omega, rfl, rfl⟩))⟩) | exact Or.inr (Or.inr ⟨by omega, c, Z1, hb, eZ1, (Or.inr (Or.inr (Or.inl ⟨by omega, rfl, rfl⟩)))⟩) | exact Or.inr (Or.inr ⟨by omega, c, Z1, hb, eZ1, (Or.inr (Or.inr (Or.inr (Or.inl ⟨by omega, rfl, rfl⟩))))⟩) | exact Or.inr (Or.inr ⟨by omega, c, Z1, hb, eZ1, (Or.inr (Or.inr (Or.inr (Or.inr (Or.inl ⟨by omega, rfl, rfl⟩)))))⟩) | exact Or.inr (Or.inr ⟨by omega, c, Z1, hb, eZ1, (Or.inr (Or.inr (Or.inr (Or.inr (Or.inr (⟨by omega, rfl, rfl⟩))))))⟩)
  ·
    refine j_Z e13 ?_
    refine j_if_ne (tgt := 22) (a := ((0 : Nat) : Int)) C (nI_toInt (by omega)) dX5_read_16 (by decide) (fun c16 => absurd c16 (by omega)) (fun c16 => ?_)
    refine j_bipush C (-11) dX5_read_19 (by decide) ?_
    refine j_iret C R dX5_read_21 ?_
    exact Or.inl ⟨by omega, rfl, rfl⟩
