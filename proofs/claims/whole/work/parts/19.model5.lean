def stM (Z : ZT) (t : Int32) (rc : Nat → Nat) (i g : Nat) : Int32 := if g = 0 then nI (fpk (fun j => Z 115 (40 * i + j)) t (rc i)) else if g = 1 then -1 else nI 0
def srM (Z : ZT) (t : Int32) (rc : Nat → Nat) (i : Nat) : Bool := decide (fpk (fun j => Z 115 (40 * i + j)) t (rc i) < rc i)
def scM (Z : ZT) (q : Nat) (i g : Nat) : Int32 := if dnM Z i = true then -1 else nI (zcn (fun j => !dnM Z j) i % q)
set_option maxRecDepth 100000 in
set_option maxHeartbeats 4000000 in
theorem kX5_start {l : Launch} {D : va_G} {Y : YT} {b0 : Nat} {G : GT} (hD : GD b0 G) (hG : Gok 132 G) {Z : ZT} {Zi : ZT} (hZi : zu Zi 113 0 (nI 0) = Z) {np : Nat} (hnp : Z 113 1 = nI np) (hnp12 : np ≤ 12) {rc : Nat → Nat} (hrc : ∀ i, i < np → Z 117 i = nI (rc i) ∧ rc i ≤ 40) (p0 : Int32) : CI l D Y b0 G yX5_start cX5_start 5 (some .int) 1 [.ref (G.2.1 (113)), .int (p0)] Zi (fun r Z' => ((p0.toInt < 0 ∨ 100000 < p0.toInt) ∧ r = (-12) ∧ Z' = Z) ∨ ((0 ≤ p0.toInt ∧ p0.toInt ≤ 100000) ∧ r = nI (zcn (srM Z p0 rc) np) ∧ Z' = (zu (zfill (zaf Z (np) (stM Z p0 rc) [0, 1, 2]) (122) (256) (nI 0)) (113) (13) (nI 0)))) := by
  refine ci_start (lv0 := [(0, .ref (G.2.1 (113))), (1, .int (p0))]) hD rfl rfl (Nat.le_of_ble_eq_true rfl) rfl ?_
  intro E C R hR hD hN
  have L33 : ∀ (n : Nat) (k : Nat) (hkn : k < np) (cv : Int32) (j : Nat), rc k + 1 ≤ j + n → j ≤ rc k → (∀ i, i < j → (Z 115 (40 * k + i)).toInt < p0.toInt) → J E 0 0 G 66 [(4, .int (nI (fpk (fun j => Z 115 (40 * k + j)) p0 (rc k)))), (3, .int (nI k)), (2, .int (cv)), (0, .ref (G.2.1 (113))), (1, .int (p0))] [] (zaf Z (k) (stM Z p0 rc) [0, 1, 2]) → J E 0 0 G 33 [(4, .int (nI j)), (3, .int (nI k)), (2, .int (cv)), (0, .ref (G.2.1 (113))), (1, .int (p0))] [] (zaf Z (k) (stM Z p0 rc) [0, 1, 2]) := by
    intro n
    induction n with
    | zero => intro k hkn cv j hn hj hjj hcont; exact absurd hn (by omega)
    | succ n ih =>
      intro k hkn cv j hn hj hjj hcont
      have hrc9 := (hrc k hkn).2
      refine j_iload C 0 dX5_start_33 rfl ?_
      refine j_aload_n C 3 dX5_start_35 rfl rfl ?_
      refine j_getR C zK5 (zb_M hG) (zs_M hG) (f := 6) (by decide) rfl zk_X5_24 rfl (zf_M_6 hG) dX5_start_36 ?_
      refine j_iload_n C 1 dX5_start_39 rfl rfl ?_
      refine j_iald C (zb_rRow hG) (zs_rRow hG) (zl_rRow hG) rfl (by omega) (by decide) (nI (rc k)) ((zaf_o (by omega)).trans ((hrc k hkn).1)) dX5_start_40 ?_
      refine j_icmp_ge (tgt := 66) (a := ((j : Nat) : Int)) (b := ((rc k : Nat) : Int)) C (nI_toInt (by omega)) (nI_toInt (by omega)) dX5_start_41 (by decide) (fun c41 => ?_) (fun c41 => ?_)
      ·
        refine j_sub (lv' := [(4, .int (nI j)), (3, .int (nI k)), (2, .int (cv)), (0, .ref (G.2.1 (113))), (1, .int (p0))]) [0, 1, 2, 3, 4] rfl ?_
        refine j_lv (lv' := [(4, .int (nI (fpk (fun j => Z 115 (40 * k + j)) p0 (rc k)))), (3, .int (nI k)), (2, .int (cv)), (0, .ref (G.2.1 (113))), (1, .int (p0))]) (by rw [show j = fpk (fun j => Z 115 (40 * k + j)) p0 (rc k) from fpk_eq hj hjj (fun h9 => by omega)]) ?_
        exact hcont
      ·
        refine j_aload_n C 3 dX5_start_44 rfl rfl ?_
        refine j_getR C zK5 (zb_M hG) (zs_M hG) (f := 4) (by decide) rfl zk_X5_17 rfl (zf_M_4 hG) dX5_start_45 ?_
        refine j_bipush C (nI 40) dX5_start_48 (by decide) ?_
        refine j_iload_n C 1 dX5_start_50 rfl rfl ?_
        refine j_imul C (nI (40 * k)) dX5_start_51 (pk_mul 40 k) ?_
        refine j_iload C 0 dX5_start_52 rfl ?_
        refine j_iadd C (nI (40 * k + j)) dX5_start_54 (nI_add (40 * k) j) ?_
        refine j_iald C (zb_rTim hG) (zs_rTim hG) (zl_rTim hG) rfl (by omega) (by decide) (Z (115) (40 * k + j)) (zaf_o (by omega)) dX5_start_55 ?_
        refine j_iload_n C 4 dX5_start_56 rfl rfl ?_
        refine j_icmp_ge (tgt := 66) (a := (Z (115) (40 * k + j)).toInt) (b := (p0).toInt) C rfl rfl dX5_start_57 (by decide) (fun c57 => ?_) (fun c57 => ?_)
        ·
          refine j_sub (lv' := [(4, .int (nI j)), (3, .int (nI k)), (2, .int (cv)), (0, .ref (G.2.1 (113))), (1, .int (p0))]) [0, 1, 2, 3, 4] rfl ?_
          refine j_lv (lv' := [(4, .int (nI (fpk (fun j => Z 115 (40 * k + j)) p0 (rc k)))), (3, .int (nI k)), (2, .int (cv)), (0, .ref (G.2.1 (113))), (1, .int (p0))]) (by rw [show j = fpk (fun j => Z 115 (40 * k + j)) p0 (rc k) from fpk_eq hj hjj (fun h9 => by omega)]) ?_
          exact hcont
        ·
          refine j_iinc (v := nI (j + 1)) (lv' := [(4, .int (nI (j + 1))), (3, .int (nI k)), (2, .int (cv)), (0, .ref (G.2.1 (113))), (1, .int (p0))]) C 0 dX5_start_60 rfl (nI_add j 1) (by rw [hN]; decide) rfl ?_
          refine j_goto (tgt := 33) C dX5_start_63 (by decide) ?_
          exact ih k hkn cv (j + 1) (by omega) (by omega) (fun i hi => by rcases Nat.lt_succ_iff_lt_or_eq.mp hi with q | q; exact hjj i q; rw [q]; exact c57) hcont
  have L22 : ∀ (n : Nat) (hp0 : 0 ≤ p0.toInt ∧ p0.toInt ≤ 100000) (k : Nat), np + 1 ≤ k + n → k ≤ np → J E 0 0 G 22 [(3, .int (nI k)), (2, .int (nI (zcn (srM Z p0 rc) k))), (0, .ref (G.2.1 (113))), (1, .int (p0))] [] (zaf Z (k) (stM Z p0 rc) [0, 1, 2]) := by
    intro n
    induction n with
    | zero => intro hp0 k hn hk; exact absurd hn (by omega)
    | succ n ih =>
      intro hp0 k hn hk
      refine j_iload_n C 0 dX5_start_22 rfl rfl ?_
      refine j_aload_n C 2 dX5_start_23 rfl rfl ?_
      refine j_getI C zK5 (zb_M hG) (zs_M hG) (f := 1) (by decide) rfl zk_X5_75 rfl (nI np) ((zaf_o (by omega)).trans (hnp)) dX5_start_24 ?_
      refine j_icmp_ge (tgt := 116) (a := ((k : Nat) : Int)) (b := ((np : Nat) : Int)) C (nI_toInt (by omega)) (nI_toInt (by omega)) dX5_start_27 (by decide) (fun c27 => ?_) (fun c27 => ?_)
      ·
        have e9 : k = np := by omega
        subst e9
        refine j_aload_n C 2 dX5_start_116 rfl rfl ?_
        refine j_callV C hR (kX5_givesNone hD hG) [] zmX5_givesNone zk_X5_133 zK5 (zb_M hG) (zs_M hG) (by decide) rfl rfl (Nat.le_of_ble_eq_true rfl) dX5_start_117 (fun Z117 h117 => ?_)
        refine j_Z (Z' := (zu (zfill (zaf Z (k) (stM Z p0 rc) [0, 1, 2]) (122) (256) (nI 0)) (113) (13) (nI 0))) h117 ?_
        refine j_iload_n C 1 dX5_start_120 rfl rfl ?_
        refine j_iret C R dX5_start_121 ?_
        exact Or.inr ⟨by omega, rfl, rfl⟩
      ·
        have hrc9 := (hrc k (by omega)).2
        refine j_iconst C (nI 0) dX5_start_30 (by decide) ?_
        refine j_istore (lv' := [(4, .int (nI 0)), (3, .int (nI k)), (2, .int (nI (zcn (srM Z p0 rc) k))), (0, .ref (G.2.1 (113))), (1, .int (p0))]) C dX5_start_31 (by rw [hN]; decide) rfl ?_
        refine j_sub (lv' := [(4, .int (nI 0)), (3, .int (nI k)), (2, .int (nI (zcn (srM Z p0 rc) k))), (0, .ref (G.2.1 (113))), (1, .int (p0))]) [0, 1, 2, 3, 4] rfl ?_
        refine L33 (rc k + 1) k (by omega) _ 0 (by omega) (by omega) (fun i hi => absurd hi (Nat.not_lt_zero i)) ?_
        have hfp := (fpk_spec (fun j => Z 115 (40 * k + j)) p0 (rc k)).1
        refine j_aload_n C 3 dX5_start_66 rfl rfl ?_
        refine j_getR C zK5 (zb_M hG) (zs_M hG) (f := 10) (by decide) rfl zk_X5_36 rfl (zf_M_10 hG) dX5_start_67 ?_
        refine j_iload_n C 1 dX5_start_70 rfl rfl ?_
        refine j_iload C 0 dX5_start_71 rfl ?_
        refine j_iast C hD (zb_rAt hG) (zs_rAt hG) (zl_rAt hG) rfl (by omega) (by decide) dX5_start_73 ?_
        refine j_aload_n C 3 dX5_start_74 rfl rfl ?_
        refine j_getR C zK5 (zb_M hG) (zs_M hG) (f := 10) (by decide) rfl zk_X5_36 rfl (zf_M_10 hG) dX5_start_75 ?_
        refine j_bipush C (nI 12) dX5_start_78 (by decide) ?_
        refine j_iload_n C 1 dX5_start_80 rfl rfl ?_
        refine j_iadd C (nI (12 + k)) dX5_start_81 (nI_add 12 k) ?_
        refine j_iconst C (-1) dX5_start_82 (by decide) ?_
        refine j_iast C hD (zb_rAt hG) (zs_rAt hG) (zl_rAt hG) rfl (by omega) (by decide) dX5_start_83 ?_
        refine j_aload_n C 3 dX5_start_84 rfl rfl ?_
        refine j_getR C zK5 (zb_M hG) (zs_M hG) (f := 10) (by decide) rfl zk_X5_36 rfl (zf_M_10 hG) dX5_start_85 ?_
        refine j_bipush C (nI 24) dX5_start_88 (by decide) ?_
        refine j_iload_n C 1 dX5_start_90 rfl rfl ?_
        refine j_iadd C (nI (24 + k)) dX5_start_91 (nI_add 24 k) ?_
        refine j_iconst C (nI 0) dX5_start_92 (by decide) ?_
        refine j_iast C hD (zb_rAt hG) (zs_rAt hG) (zl_rAt hG) rfl (by omega) (by decide) dX5_start_93 ?_
        refine j_iload_n C 2 dX5_start_94 rfl rfl ?_
        refine j_aload_n C 3 dX5_start_95 rfl rfl ?_
        refine j_iload_n C 1 dX5_start_96 rfl rfl ?_
        refine j_callI C hR (kX5_isReady hD hG (i := k) (by omega) (rc := nI (rc k)) (rcI := ((rc k : Nat) : Int)) ((zu_o (by omega)).trans ((zu_o (by omega)).trans ((zu_o (by omega)).trans ((zaf_o (by omega)).trans ((hrc k (by omega)).1))))) (nI_toInt (by omega)) (po := nI (fpk (fun j => Z 115 (40 * k + j)) p0 (rc k))) (poI := ((fpk (fun j => Z 115 (40 * k + j)) p0 (rc k) : Nat) : Int)) ((zu_o (by omega)).trans ((zu_o (by omega)).trans (zu_s))) (nI_toInt (by omega))) [.int (nI (zcn (srM Z p0 rc) k))] zmX5_isReady zk_X5_82 zK5 (zb_M hG) (zs_M hG) (by decide) rfl rfl (Nat.le_of_ble_eq_true rfl) dX5_start_97 (fun r97 Z97 h97 => ?_)
        obtain ⟨e97, ⟨rfl, h97⟩ | ⟨rfl, h97⟩⟩ := h97
        ·
          refine j_Z e97 ?_
          have hsr : srM Z p0 rc k = true := decide_eq_true (by omega)
          refine j_if_eq (tgt := 107) (a := ((1 : Nat) : Int)) C (nI_toInt (by omega)) dX5_start_100 (by decide) (fun c100 => absurd c100 (by omega)) (fun c100 => ?_)
          refine j_iconst C (nI 1) dX5_start_103 (by decide) ?_
          refine j_goto (tgt := 108) C dX5_start_104 (by decide) ?_
          refine j_iadd C (nI (zcn (srM Z p0 rc) k + 1)) dX5_start_108 (nI_add (zcn (srM Z p0 rc) k) 1) ?_
          refine j_istore_n (lv' := [(2, .int (nI (zcn (srM Z p0 rc) k + 1))), (4, .int (nI (fpk (fun j => Z 115 (40 * k + j)) p0 (rc k)))), (3, .int (nI k)), (0, .ref (G.2.1 (113))), (1, .int (p0))]) C dX5_start_109 rfl (by rw [hN]; decide) rfl ?_
          refine j_iinc (v := nI (k + 1)) (lv' := [(3, .int (nI (k + 1))), (2, .int (nI (zcn (srM Z p0 rc) k + 1))), (4, .int (nI (fpk (fun j => Z 115 (40 * k + j)) p0 (rc k)))), (0, .ref (G.2.1 (113))), (1, .int (p0))]) C 2 dX5_start_110 rfl (nI_add k 1) (by rw [hN]; decide) rfl ?_
          refine j_goto (tgt := 22) C dX5_start_113 (by decide) ?_
          refine j_sub (lv' := [(3, .int (nI (k + 1))), (2, .int (nI (zcn (srM Z p0 rc) k + 1))), (0, .ref (G.2.1 (113))), (1, .int (p0))]) [0, 1, 3, 4] rfl ?_
          refine j_lv (lv' := [(3, .int (nI (k + 1))), (2, .int (nI (zcn (srM Z p0 rc) (k + 1)))), (0, .ref (G.2.1 (113))), (1, .int (p0))]) (by first | rw [zcn_t hsr] | (rw [zcn_f hsr]; rfl)) ?_
          refine j_Z (Z' := (zaf Z (k + 1) (stM Z p0 rc) [0, 1, 2])) (zaf_s4 (by omega) (fun a b hab => by rw [zu_o (by omega), zu_o (by omega), zu_o (by omega)]) (by rw [if_pos (by decide)]; exact ((zu_o (by omega)).trans ((zu_o (by omega)).trans (zu_s)))) (by rw [if_pos (by decide)]; exact ((zu_o (by omega)).trans (zu_s))) (by rw [if_pos (by decide)]; exact zu_s) (by rw [if_neg (by decide)]; exact ((zu_o (by omega)).trans ((zu_o (by omega)).trans ((zu_o (by omega)).trans ((zaf_o (by omega)))))))) ?_
          exact ih hp0 (k + 1) (by omega) (by omega)
        ·
          refine j_Z e97 ?_
          have hsr : srM Z p0 rc k = false := decide_eq_false (by omega)
          refine j_if_eq (tgt := 107) (a := ((0 : Nat) : Int)) C (nI_toInt (by omega)) dX5_start_100 (by decide) (fun c100 => ?_) (fun c100 => absurd c100 (by omega))
          refine j_iconst C (nI 0) dX5_start_107 (by decide) ?_
          refine j_iadd C (nI (zcn (srM Z p0 rc) k + 0)) dX5_start_108 (nI_add (zcn (srM Z p0 rc) k) 0) ?_
          refine j_istore_n (lv' := [(2, .int (nI (zcn (srM Z p0 rc) k + 0))), (4, .int (nI (fpk (fun j => Z 115 (40 * k + j)) p0 (rc k)))), (3, .int (nI k)), (0, .ref (G.2.1 (113))), (1, .int (p0))]) C dX5_start_109 rfl (by rw [hN]; decide) rfl ?_
          refine j_iinc (v := nI (k + 1)) (lv' := [(3, .int (nI (k + 1))), (2, .int (nI (zcn (srM Z p0 rc) k + 0))), (4, .int (nI (fpk (fun j => Z 115 (40 * k + j)) p0 (rc k)))), (0, .ref (G.2.1 (113))), (1, .int (p0))]) C 2 dX5_start_110 rfl (nI_add k 1) (by rw [hN]; decide) rfl ?_
          refine j_goto (tgt := 22) C dX5_start_113 (by decide) ?_
          refine j_sub (lv' := [(3, .int (nI (k + 1))), (2, .int (nI (zcn (srM Z p0 rc) k + 0))), (0, .ref (G.2.1 (113))), (1, .int (p0))]) [0, 1, 3, 4] rfl ?_
          refine j_lv (lv' := [(3, .int (nI (k + 1))), (2, .int (nI (zcn (srM Z p0 rc) (k + 1)))), (0, .ref (G.2.1 (113))), (1, .int (p0))]) (by first | rw [zcn_t hsr] | (rw [zcn_f hsr]; rfl)) ?_
          refine j_Z (Z' := (zaf Z (k + 1) (stM Z p0 rc) [0, 1, 2])) (zaf_s4 (by omega) (fun a b hab => by rw [zu_o (by omega), zu_o (by omega), zu_o (by omega)]) (by rw [if_pos (by decide)]; exact ((zu_o (by omega)).trans ((zu_o (by omega)).trans (zu_s)))) (by rw [if_pos (by decide)]; exact ((zu_o (by omega)).trans (zu_s))) (by rw [if_pos (by decide)]; exact zu_s) (by rw [if_neg (by decide)]; exact ((zu_o (by omega)).trans ((zu_o (by omega)).trans ((zu_o (by omega)).trans ((zaf_o (by omega)))))))) ?_
          exact ih hp0 (k + 1) (by omega) (by omega)
  refine j_aload_n C 0 dX5_start_0 rfl rfl ?_
  refine j_iconst C (nI 0) dX5_start_1 (by decide) ?_
  refine j_putI C hD zK5 (zb_M hG) (zs_M hG) (f := 0) (by decide) rfl zk_X5_72 rfl rfl rfl rfl dX5_start_2 ?_
  refine j_Z hZi ?_
  refine j_iload_n C 1 dX5_start_5 rfl rfl ?_
  refine j_iconst C (nI 0) dX5_start_6 (by decide) ?_
  refine j_ldc C (nI 100000) zk_X5_97 dX5_start_7 ?_
  refine j_callS C hR (kX5_in hD hG (p0 := p0) (p1 := nI 0) (p2 := nI 100000) (a := (p0).toInt) (b := ((0 : Nat) : Int)) (c := ((100000 : Nat) : Int)) rfl (nI_toInt (by omega)) (nI_toInt (by omega))) [] zmX5_in rfl zk_X5_78 (by decide) rfl rfl (Nat.le_of_ble_eq_true rfl) dX5_start_9 (fun r9 Z9 h9 => ?_)
  obtain ⟨e9, ⟨rfl, h9⟩ | ⟨rfl, h9⟩⟩ := h9
  ·
    refine j_Z e9 ?_
    refine j_if_ne (tgt := 18) (a := ((1 : Nat) : Int)) C (nI_toInt (by omega)) dX5_start_12 (by decide) (fun c12 => ?_) (fun c12 => absurd c12 (by omega))
    refine j_iconst C (nI 0) dX5_start_18 (by decide) ?_
    refine j_istore_n (lv' := [(2, .int (nI 0)), (0, .ref (G.2.1 (113))), (1, .int (p0))]) C dX5_start_19 rfl (by rw [hN]; decide) rfl ?_
    refine j_iconst C (nI 0) dX5_start_20 (by decide) ?_
    refine j_istore_n (lv' := [(3, .int (nI 0)), (2, .int (nI 0)), (0, .ref (G.2.1 (113))), (1, .int (p0))]) C dX5_start_21 rfl (by rw [hN]; decide) rfl ?_
    refine j_Z (Z' := (zaf Z (0) (stM Z p0 rc) [0, 1, 2])) (zaf_0).symm ?_
    exact L22 (np + 1) (by omega) 0 (by omega) (by omega)
  ·
    refine j_Z e9 ?_
    refine j_if_ne (tgt := 18) (a := ((0 : Nat) : Int)) C (nI_toInt (by omega)) dX5_start_12 (by decide) (fun c12 => absurd c12 (by omega)) (fun c12 => ?_)
    refine j_bipush C (-12) dX5_start_15 (by decide) ?_
    refine j_iret C R dX5_start_17 ?_
    exact Or.inl ⟨by omega, rfl, rfl⟩
set_option maxRecDepth 100000 in
set_option maxHeartbeats 4000000 in
theorem kX5_scale {l : Launch} {D : va_G} {Y : YT} {b0 : Nat} {G : GT} (hD : GD b0 G) (hG : Gok 132 G) {Z : ZT} {Zi : ZT} (hZi : zu Zi 113 0 (nI 0) = Z) {np : Nat} (hnp : Z 113 1 = nI np) (hnp12 : np ≤ 12) (p0 : Int32) : CI l D Y b0 G yX5_scale cX5_scale 4 (some .int) 2 [.ref (G.2.1 (113)), .int (p0)] Zi (fun r Z' => ((p0.toInt < 1 ∨ 6 < p0.toInt) ∧ r = (-12) ∧ Z' = Z) ∨ ∃ q : Nat, q < 7 ∧ 1 ≤ q ∧ p0 = nI q ∧ r = nI (zcn (fun j => !dnM Z j) np) ∧ Z' = (zaf (zu Z (113) (2) (nI q)) (np) (scM Z q) [3])) := by
  refine ci_start (lv0 := [(0, .ref (G.2.1 (113))), (1, .int (p0))]) hD rfl rfl (Nat.le_of_ble_eq_true rfl) rfl ?_
  intro E C R hR hD hN
  have L27 : ∀ (n : Nat) (q : Nat) (hq : q < 7) (hq1 : 1 ≤ q) (hpq : p0 = nI q) (k : Nat), np + 1 ≤ k + n → k ≤ np → J E 0 0 G 27 [(3, .int (nI k)), (2, .int (nI (zcn (fun j => !dnM Z j) k))), (0, .ref (G.2.1 (113))), (1, .int (nI q))] [] (zaf (zu Z (113) (2) (nI q)) (k) (scM Z q) [3]) := by
    intro n
    induction n with
    | zero => intro q hq hq1 hpq k hn hk; exact absurd hn (by omega)
    | succ n ih =>
      intro q hq hq1 hpq k hn hk
      refine j_iload_n C 0 dX5_scale_27 rfl rfl ?_
      refine j_aload_n C 2 dX5_scale_28 rfl rfl ?_
      refine j_getI C zK5 (zb_M hG) (zs_M hG) (f := 1) (by decide) rfl zk_X5_75 rfl (nI np) ((zaf_o (by omega)).trans ((zu_o (by omega)).trans (hnp))) dX5_scale_29 ?_
      refine j_icmp_ge (tgt := 81) (a := ((k : Nat) : Int)) (b := ((np : Nat) : Int)) C (nI_toInt (by omega)) (nI_toInt (by omega)) dX5_scale_32 (by decide) (fun c32 => ?_) (fun c32 => ?_)
      ·
        have e9 : k = np := by omega
        subst e9
        refine j_iload_n C 1 dX5_scale_81 rfl rfl ?_
        refine j_iret C R dX5_scale_82 ?_
        exact Or.inr ⟨q, hq, hq1, hpq, rfl, rfl⟩
      ·
        refine j_aload_n C 2 dX5_scale_35 rfl rfl ?_
        refine j_getR C zK5 (zb_M hG) (zs_M hG) (f := 10) (by decide) rfl zk_X5_36 rfl (zf_M_10 hG) dX5_scale_36 ?_
        refine j_bipush C (nI 36) dX5_scale_39 (by decide) ?_
        refine j_iload_n C 0 dX5_scale_41 rfl rfl ?_
        refine j_iadd C (nI (36 + k)) dX5_scale_42 (nI_add 36 k) ?_
        refine j_aload_n C 2 dX5_scale_43 rfl rfl ?_
        refine j_iload_n C 0 dX5_scale_44 rfl rfl ?_
        refine j_callI C hR (kX5_isDone hD hG (i := k) (by omega) (rc := Z 117 k) (rcI := (Z 117 k).toInt) ((zaf_o (by omega)).trans ((zu_o (by omega)))) rfl (po := Z 121 k) (poI := (Z 121 k).toInt) ((zaf_o (by omega)).trans ((zu_o (by omega)))) rfl (en := Z 118 k) (enI := (Z 118 k).toInt) ((zaf_o (by omega)).trans ((zu_o (by omega)))) rfl) [.int (nI (36 + k)), .ref (G.2.1 (121))] zmX5_isDone zk_X5_102 zK5 (zb_M hG) (zs_M hG) (by decide) rfl rfl (Nat.le_of_ble_eq_true rfl) dX5_scale_45 (fun r45 Z45 h45 => ?_)
        obtain ⟨e45, ⟨rfl, h45⟩ | ⟨rfl, h45⟩⟩ := h45
        ·
          refine j_Z e45 ?_
          have hdn : dnM Z k = true := decide_eq_true (by omega)
          have hnd : (fun j => !dnM Z j) k = false := by simp [hdn]
          have hle := zcn_le (fun j => !dnM Z j) k
          refine j_if_eq (tgt := 55) (a := ((1 : Nat) : Int)) C (nI_toInt (by omega)) dX5_scale_48 (by decide) (fun c48 => absurd c48 (by omega)) (fun c48 => ?_)
          refine j_iconst C (-1) dX5_scale_51 (by decide) ?_
          refine j_goto (tgt := 58) C dX5_scale_52 (by decide) ?_
          refine j_iast C hD (zb_rAt hG) (zs_rAt hG) (zl_rAt hG) rfl (by omega) (by decide) dX5_scale_58 ?_
          refine j_iload_n C 1 dX5_scale_59 rfl rfl ?_
          refine j_aload_n C 2 dX5_scale_60 rfl rfl ?_
          refine j_iload_n C 0 dX5_scale_61 rfl rfl ?_
          refine j_callI C hR (kX5_isDone hD hG (i := k) (by omega) (rc := Z 117 k) (rcI := (Z 117 k).toInt) ((zu_o (by omega)).trans ((zaf_o (by omega)).trans ((zu_o (by omega))))) rfl (po := Z 121 k) (poI := (Z 121 k).toInt) ((zu_o (by omega)).trans ((zaf_o (by omega)).trans ((zu_o (by omega))))) rfl (en := Z 118 k) (enI := (Z 118 k).toInt) ((zu_o (by omega)).trans ((zaf_o (by omega)).trans ((zu_o (by omega))))) rfl) [.int (nI (zcn (fun j => !dnM Z j) k))] zmX5_isDone zk_X5_102 zK5 (zb_M hG) (zs_M hG) (by decide) rfl rfl (Nat.le_of_ble_eq_true rfl) dX5_scale_62 (fun r62 Z62 h62 => ?_)
          obtain ⟨e62, ⟨rfl, h62⟩ | ⟨rfl, h62⟩⟩ := h62
          ·
            refine j_Z e62 ?_
            refine j_if_eq (tgt := 72) (a := ((1 : Nat) : Int)) C (nI_toInt (by omega)) dX5_scale_65 (by decide) (fun c65 => absurd c65 (by omega)) (fun c65 => ?_)
            refine j_iconst C (nI 0) dX5_scale_68 (by decide) ?_
            refine j_goto (tgt := 73) C dX5_scale_69 (by decide) ?_
            refine j_iadd C (nI (zcn (fun j => !dnM Z j) k + 0)) dX5_scale_73 (nI_add (zcn (fun j => !dnM Z j) k) 0) ?_
            refine j_istore_n (lv' := [(2, .int (nI (zcn (fun j => !dnM Z j) k + 0))), (3, .int (nI k)), (0, .ref (G.2.1 (113))), (1, .int (nI q))]) C dX5_scale_74 rfl (by rw [hN]; decide) rfl ?_
            refine j_iinc (v := nI (k + 1)) (lv' := [(3, .int (nI (k + 1))), (2, .int (nI (zcn (fun j => !dnM Z j) k + 0))), (0, .ref (G.2.1 (113))), (1, .int (nI q))]) C 1 dX5_scale_75 rfl (nI_add k 1) (by rw [hN]; decide) rfl ?_
            refine j_goto (tgt := 27) C dX5_scale_78 (by decide) ?_
            refine j_lv (lv' := [(3, .int (nI (k + 1))), (2, .int (nI (zcn (fun j => !dnM Z j) (k + 1)))), (0, .ref (G.2.1 (113))), (1, .int (nI q))]) (by first | rw [zcn_t hnd] | (rw [zcn_f hnd]; rfl)) ?_
            refine j_Z (Z' := (zaf (zu Z (113) (2) (nI q)) (k + 1) (scM Z q) [3])) (zaf_s4 (by omega) (fun a b hab => by rw [zu_o (by omega)]) (by rw [if_neg (by decide)]; exact (((zu_o (by omega)).trans ((zaf_o (by omega)).trans ((zu_o (by omega)))))).trans (zu_o (by omega)).symm) (by rw [if_neg (by decide)]; exact (((zu_o (by omega)).trans ((zaf_o (by omega)).trans ((zu_o (by omega)))))).trans (zu_o (by omega)).symm) (by rw [if_neg (by decide)]; exact (((zu_o (by omega)).trans ((zaf_o (by omega)).trans ((zu_o (by omega)))))).trans (zu_o (by omega)).symm) (by rw [if_pos (by decide)]; exact (zu_s).trans (by simp [scM, hdn]))) ?_
            exact ih q hq hq1 hpq (k + 1) (by omega) (by omega)
          ·
            refine j_Z e62 ?_
            exact absurd h62 (by omega)
        ·
          refine j_Z e45 ?_
          have hdn : dnM Z k = false := decide_eq_false (by omega)
          have hnd : (fun j => !dnM Z j) k = true := by simp [hdn]
          have hle := zcn_le (fun j => !dnM Z j) k
          refine j_if_eq (tgt := 55) (a := ((0 : Nat) : Int)) C (nI_toInt (by omega)) dX5_scale_48 (by decide) (fun c48 => ?_) (fun c48 => absurd c48 (by omega))
          refine j_iload_n C 1 dX5_scale_55 rfl rfl ?_
          refine j_iload_n C 3 dX5_scale_56 rfl rfl ?_
          refine j_irem C (nI ((zcn (fun j => !dnM Z j) k) % q)) dX5_scale_57 (nI_ne0 (by omega) (by omega)) (pk_rem (by omega) (by omega) (by omega)) ?_
          refine j_iast C hD (zb_rAt hG) (zs_rAt hG) (zl_rAt hG) rfl (by omega) (by decide) dX5_scale_58 ?_
          refine j_iload_n C 1 dX5_scale_59 rfl rfl ?_
          refine j_aload_n C 2 dX5_scale_60 rfl rfl ?_
          refine j_iload_n C 0 dX5_scale_61 rfl rfl ?_
          refine j_callI C hR (kX5_isDone hD hG (i := k) (by omega) (rc := Z 117 k) (rcI := (Z 117 k).toInt) ((zu_o (by omega)).trans ((zaf_o (by omega)).trans ((zu_o (by omega))))) rfl (po := Z 121 k) (poI := (Z 121 k).toInt) ((zu_o (by omega)).trans ((zaf_o (by omega)).trans ((zu_o (by omega))))) rfl (en := Z 118 k) (enI := (Z 118 k).toInt) ((zu_o (by omega)).trans ((zaf_o (by omega)).trans ((zu_o (by omega))))) rfl) [.int (nI (zcn (fun j => !dnM Z j) k))] zmX5_isDone zk_X5_102 zK5 (zb_M hG) (zs_M hG) (by decide) rfl rfl (Nat.le_of_ble_eq_true rfl) dX5_scale_62 (fun r62 Z62 h62 => ?_)
          obtain ⟨e62, ⟨rfl, h62⟩ | ⟨rfl, h62⟩⟩ := h62
          ·
            refine j_Z e62 ?_
            exact absurd h62 (by omega)
          ·
            refine j_Z e62 ?_
            refine j_if_eq (tgt := 72) (a := ((0 : Nat) : Int)) C (nI_toInt (by omega)) dX5_scale_65 (by decide) (fun c65 => ?_) (fun c65 => absurd c65 (by omega))
            refine j_iconst C (nI 1) dX5_scale_72 (by decide) ?_
            refine j_iadd C (nI (zcn (fun j => !dnM Z j) k + 1)) dX5_scale_73 (nI_add (zcn (fun j => !dnM Z j) k) 1) ?_
            refine j_istore_n (lv' := [(2, .int (nI (zcn (fun j => !dnM Z j) k + 1))), (3, .int (nI k)), (0, .ref (G.2.1 (113))), (1, .int (nI q))]) C dX5_scale_74 rfl (by rw [hN]; decide) rfl ?_
            refine j_iinc (v := nI (k + 1)) (lv' := [(3, .int (nI (k + 1))), (2, .int (nI (zcn (fun j => !dnM Z j) k + 1))), (0, .ref (G.2.1 (113))), (1, .int (nI q))]) C 1 dX5_scale_75 rfl (nI_add k 1) (by rw [hN]; decide) rfl ?_
            refine j_goto (tgt := 27) C dX5_scale_78 (by decide) ?_
            refine j_lv (lv' := [(3, .int (nI (k + 1))), (2, .int (nI (zcn (fun j => !dnM Z j) (k + 1)))), (0, .ref (G.2.1 (113))), (1, .int (nI q))]) (by first | rw [zcn_t hnd] | (rw [zcn_f hnd]; rfl)) ?_
            refine j_Z (Z' := (zaf (zu Z (113) (2) (nI q)) (k + 1) (scM Z q) [3])) (zaf_s4 (by omega) (fun a b hab => by rw [zu_o (by omega)]) (by rw [if_neg (by decide)]; exact (((zu_o (by omega)).trans ((zaf_o (by omega)).trans ((zu_o (by omega)))))).trans (zu_o (by omega)).symm) (by rw [if_neg (by decide)]; exact (((zu_o (by omega)).trans ((zaf_o (by omega)).trans ((zu_o (by omega)))))).trans (zu_o (by omega)).symm) (by rw [if_neg (by decide)]; exact (((zu_o (by omega)).trans ((zaf_o (by omega)).trans ((zu_o (by omega)))))).trans (zu_o (by omega)).symm) (by rw [if_pos (by decide)]; exact (zu_s).trans (by simp [scM, hdn]))) ?_
            exact ih q hq hq1 hpq (k + 1) (by omega) (by omega)
  refine j_aload_n C 0 dX5_scale_0 rfl rfl ?_
  refine j_iconst C (nI 0) dX5_scale_1 (by decide) ?_
  refine j_putI C hD zK5 (zb_M hG) (zs_M hG) (f := 0) (by decide) rfl zk_X5_72 rfl rfl rfl rfl dX5_scale_2 ?_
  refine j_Z hZi ?_
  refine j_iload_n C 1 dX5_scale_5 rfl rfl ?_
  refine j_iconst C (nI 1) dX5_scale_6 (by decide) ?_
  refine j_bipush C (nI 6) dX5_scale_7 (by decide) ?_
  refine j_callS C hR (kX5_in hD hG (p0 := p0) (p1 := nI 1) (p2 := nI 6) (a := (p0).toInt) (b := ((1 : Nat) : Int)) (c := ((6 : Nat) : Int)) rfl (nI_toInt (by omega)) (nI_toInt (by omega))) [] zmX5_in rfl zk_X5_78 (by decide) rfl rfl (Nat.le_of_ble_eq_true rfl) dX5_scale_9 (fun r9 Z9 h9 => ?_)
  obtain ⟨e9, ⟨rfl, h9⟩ | ⟨rfl, h9⟩⟩ := h9
  ·
    refine j_Z e9 ?_
    refine j_if_ne (tgt := 18) (a := ((1 : Nat) : Int)) C (nI_toInt (by omega)) dX5_scale_12 (by decide) (fun c12 => ?_) (fun c12 => absurd c12 (by omega))
    obtain ⟨q, hq, rfl⟩ := zi_nat (x := p0) (n := 7) (by omega) (by omega)
    have hq1 : 1 ≤ q := by have q9 := h9; rw [nI_toInt (by omega)] at q9; omega
    refine j_aload_n C 0 dX5_scale_18 rfl rfl ?_
    refine j_iload_n C 1 dX5_scale_19 rfl rfl ?_
    refine j_putI C hD zK5 (zb_M hG) (zs_M hG) (f := 2) (by decide) rfl zk_X5_7 rfl rfl rfl rfl dX5_scale_20 ?_
    refine j_iconst C (nI 0) dX5_scale_23 (by decide) ?_
    refine j_istore_n (lv' := [(2, .int (nI 0)), (0, .ref (G.2.1 (113))), (1, .int (nI q))]) C dX5_scale_24 rfl (by rw [hN]; decide) rfl ?_
    refine j_iconst C (nI 0) dX5_scale_25 (by decide) ?_
    refine j_istore_n (lv' := [(3, .int (nI 0)), (2, .int (nI 0)), (0, .ref (G.2.1 (113))), (1, .int (nI q))]) C dX5_scale_26 rfl (by rw [hN]; decide) rfl ?_
    refine j_Z (Z' := (zaf (zu Z (113) (2) (nI q)) (0) (scM Z q) [3])) (zaf_0).symm ?_
    exact L27 (np + 1) q hq hq1 rfl 0 (by omega) (by omega)
  ·
    refine j_Z e9 ?_
    refine j_if_ne (tgt := 18) (a := ((0 : Nat) : Int)) C (nI_toInt (by omega)) dX5_scale_12 (by decide) (fun c12 => absurd c12 (by omega)) (fun c12 => ?_)
    refine j_bipush C (-12) dX5_scale_15 (by decide) ?_
    refine j_iret C R dX5_scale_17 ?_
    exact Or.inl ⟨by omega, rfl, rfl⟩
set_option maxRecDepth 100000 in
set_option maxHeartbeats 4000000 in
theorem kX5_told {l : Launch} {D : va_G} {Y : YT} {b0 : Nat} {G : GT} (hD : GD b0 G) (hG : Gok 132 G) {Z : ZT} {Zi : ZT} (hZi : zu Zi 113 0 (nI 0) = Z) {np : Nat} (hnp : Z 113 1 = nI np) (hnp12 : np ≤ 12) (p0 p1 : Int32) : CI l D Y b0 G yX5_told cX5_told 3 (some .int) 2 [.ref (G.2.1 (113)), .int (p0), .int (p1)] Zi (fun r Z' => ((p0.toInt < 0 ∨ (np : Int) ≤ p0.toInt) ∧ r = (-11) ∧ Z' = Z) ∨ ∃ p : Nat, p < np ∧ p0 = nI p ∧ (((p1 = nI 0) ∧ r = Z 121 p ∧ Z' = Z) ∨ ((p1 = nI 1) ∧ r = Z 121 (12 + p) ∧ Z' = Z) ∨ ((p1 = nI 2) ∧ r = Z 121 (24 + p) ∧ Z' = Z) ∨ ((p1 = nI 3) ∧ r = Z 119 p ∧ Z' = Z) ∨ ((p1 = nI 4) ∧ r = Z 121 (36 + p) ∧ Z' = Z) ∨ ((p1 = nI 5) ∧ r = Z 117 p ∧ Z' = Z) ∨ ((p1 = nI 6) ∧ r = (if (Z 118 p).toInt = 0 then nI 0 else nI 1) ∧ Z' = Z) ∨ ((p1 = nI 7) ∧ r = (if rdM Z p = true then nI 1 else nI 0) ∧ Z' = Z) ∨ ((p1 = nI 8) ∧ r = (if dnM Z p = true then nI 1 else nI 0) ∧ Z' = Z) ∨ ((p1 = nI 9) ∧ r = Z 120 p ∧ Z' = Z) ∨ ((p1.toInt < 0 ∨ 9 < p1.toInt) ∧ r = (-2000000012) ∧ Z' = Z))) := by
  refine ci_start (lv0 := [(0, .ref (G.2.1 (113))), (1, .int (p0)), (2, .int (p1))]) hD rfl rfl (Nat.le_of_ble_eq_true rfl) rfl ?_
  intro E C R hR hD hN
  refine j_aload_n C 0 dX5_told_0 rfl rfl ?_
  refine j_iconst C (nI 0) dX5_told_1 (by decide) ?_
  refine j_putI C hD zK5 (zb_M hG) (zs_M hG) (f := 0) (by decide) rfl zk_X5_72 rfl rfl rfl rfl dX5_told_2 ?_
  refine j_Z hZi ?_
  refine j_aload_n C 0 dX5_told_5 rfl rfl ?_
  refine j_iload_n C 1 dX5_told_6 rfl rfl ?_
  refine j_callI C hR (kX5_isPart hD hG (np := np) hnp (by omega) (p0 := p0) (b := (p0).toInt) rfl) [] zmX5_isPart zk_X5_94 zK5 (zb_M hG) (zs_M hG) (by decide) rfl rfl (Nat.le_of_ble_eq_true rfl) dX5_told_7 (fun r7 Z7 h7 => ?_)
  obtain ⟨e7, ⟨rfl, h7⟩ | ⟨rfl, h7⟩⟩ := h7
  ·
    refine j_Z e7 ?_
    refine j_if_ne (tgt := 16) (a := ((1 : Nat) : Int)) C (nI_toInt (by omega)) dX5_told_10 (by decide) (fun c10 => ?_) (fun c10 => absurd c10 (by omega))
    obtain ⟨p, hp, rfl⟩ := zi_nat (x := p0) (n := np) (by omega) (by omega)
    refine j_iload_n C 2 dX5_told_16 rfl rfl ?_
    rcases zt10 (p1) with e17 | e17 | e17 | e17 | e17 | e17 | e17 | e17 | e17 | e17 | c17
    ·
      refine j_top e17 ?_
      refine j_tableIn (tgt := 72) C dX5_told_17 (by decide) (by decide) rfl (by decide) ?_
      refine j_aload_n C 0 dX5_told_72 rfl rfl ?_
      refine j_getR C zK5 (zb_M hG) (zs_M hG) (f := 10) (by decide) rfl zk_X5_36 rfl (zf_M_10 hG) dX5_told_73 ?_
      refine j_iload_n C 1 dX5_told_76 rfl rfl ?_
      refine j_iald C (zb_rAt hG) (zs_rAt hG) (zl_rAt hG) rfl (by omega) (by decide) (Z 121 p) rfl dX5_told_77 ?_
      refine j_iret C R dX5_told_78 ?_
      exact Or.inr ⟨p, hp, rfl, Or.inl ⟨e17, rfl, rfl⟩⟩
    ·
      refine j_top e17 ?_
      refine j_tableIn (tgt := 79) C dX5_told_17 (by decide) (by decide) rfl (by decide) ?_
      refine j_aload_n C 0 dX5_told_79 rfl rfl ?_
      refine j_getR C zK5 (zb_M hG) (zs_M hG) (f := 10) (by decide) rfl zk_X5_36 rfl (zf_M_10 hG) dX5_told_80 ?_
      refine j_bipush C (nI 12) dX5_told_83 (by decide) ?_
      refine j_iload_n C 1 dX5_told_85 rfl rfl ?_
      refine j_iadd C (nI (12 + p)) dX5_told_86 (nI_add 12 p) ?_
      refine j_iald C (zb_rAt hG) (zs_rAt hG) (zl_rAt hG) rfl (by omega) (by decide) (Z (121) (12 + p)) rfl dX5_told_87 ?_
      refine j_iret C R dX5_told_88 ?_
      exact Or.inr ⟨p, hp, rfl, Or.inr (Or.inl ⟨e17, rfl, rfl⟩)⟩
    ·
      refine j_top e17 ?_
      refine j_tableIn (tgt := 89) C dX5_told_17 (by decide) (by decide) rfl (by decide) ?_
      refine j_aload_n C 0 dX5_told_89 rfl rfl ?_
      refine j_getR C zK5 (zb_M hG) (zs_M hG) (f := 10) (by decide) rfl zk_X5_36 rfl (zf_M_10 hG) dX5_told_90 ?_
      refine j_bipush C (nI 24) dX5_told_93 (by decide) ?_
      refine j_iload_n C 1 dX5_told_95 rfl rfl ?_
      refine j_iadd C (nI (24 + p)) dX5_told_96 (nI_add 24 p) ?_
      refine j_iald C (zb_rAt hG) (zs_rAt hG) (zl_rAt hG) rfl (by omega) (by decide) (Z (121) (24 + p)) rfl dX5_told_97 ?_
      refine j_iret C R dX5_told_98 ?_
      exact Or.inr ⟨p, hp, rfl, Or.inr (Or.inr (Or.inl ⟨e17, rfl, rfl⟩))⟩
    ·
      refine j_top e17 ?_
      refine j_tableIn (tgt := 99) C dX5_told_17 (by decide) (by decide) rfl (by decide) ?_
      refine j_aload_n C 0 dX5_told_99 rfl rfl ?_
      refine j_getR C zK5 (zb_M hG) (zs_M hG) (f := 8) (by decide) rfl zk_X5_30 rfl (zf_M_8 hG) dX5_told_100 ?_
      refine j_iload_n C 1 dX5_told_103 rfl rfl ?_
      refine j_iald C (zb_rSha hG) (zs_rSha hG) (zl_rSha hG) rfl (by omega) (by decide) (Z 119 p) rfl dX5_told_104 ?_
      refine j_iret C R dX5_told_105 ?_
      exact Or.inr ⟨p, hp, rfl, Or.inr (Or.inr (Or.inr (Or.inl ⟨e17, rfl, rfl⟩)))⟩
    ·
      refine j_top e17 ?_
      refine j_tableIn (tgt := 106) C dX5_told_17 (by decide) (by decide) rfl (by decide) ?_
      refine j_aload_n C 0 dX5_told_106 rfl rfl ?_
      refine j_iload_n C 1 dX5_told_107 rfl rfl ?_
      refine j_callI C hR (kX5_reader hD hG (i := p) (by omega) (re := Z (121) (36 + p)) rfl) [] zmX5_reader zk_X5_105 zK5 (zb_M hG) (zs_M hG) (by decide) rfl rfl (Nat.le_of_ble_eq_true rfl) dX5_told_108 (fun r108 Z108 h108 => ?_)
      obtain ⟨h108, rfl⟩ := h108
      refine j_Z (Z' := Z) h108 ?_
      refine j_iret C R dX5_told_111 ?_
      exact Or.inr ⟨p, hp, rfl, Or.inr (Or.inr (Or.inr (Or.inr (Or.inl ⟨e17, rfl, rfl⟩))))⟩
    ·
      refine j_top e17 ?_
      refine j_tableIn (tgt := 112) C dX5_told_17 (by decide) (by decide) rfl (by decide) ?_
      refine j_aload_n C 0 dX5_told_112 rfl rfl ?_
      refine j_getR C zK5 (zb_M hG) (zs_M hG) (f := 6) (by decide) rfl zk_X5_24 rfl (zf_M_6 hG) dX5_told_113 ?_
      refine j_iload_n C 1 dX5_told_116 rfl rfl ?_
      refine j_iald C (zb_rRow hG) (zs_rRow hG) (zl_rRow hG) rfl (by omega) (by decide) (Z 117 p) rfl dX5_told_117 ?_
      refine j_iret C R dX5_told_118 ?_
      exact Or.inr ⟨p, hp, rfl, Or.inr (Or.inr (Or.inr (Or.inr (Or.inr (Or.inl ⟨e17, rfl, rfl⟩)))))⟩
    ·
      refine j_top e17 ?_
      refine j_tableIn (tgt := 119) C dX5_told_17 (by decide) (by decide) rfl (by decide) ?_
      refine j_aload_n C 0 dX5_told_119 rfl rfl ?_
      refine j_getR C zK5 (zb_M hG) (zs_M hG) (f := 7) (by decide) rfl zk_X5_27 rfl (zf_M_7 hG) dX5_told_120 ?_
      refine j_iload_n C 1 dX5_told_123 rfl rfl ?_
      refine j_zald C (zb_rEnd hG) (zs_rEnd hG) (zl_rEnd hG) rfl (by omega) (by decide) (Z 118 p) rfl dX5_told_124 ?_
      refine j_if_eq (tgt := 132) (a := (Z 118 p).toInt) C rfl dX5_told_125 (by decide) (fun c125 => ?_) (fun c125 => ?_)
      ·
        refine j_iconst C (nI 0) dX5_told_132 (by decide) ?_
        refine j_iret C R dX5_told_133 ?_
        exact Or.inr ⟨p, hp, rfl, Or.inr (Or.inr (Or.inr (Or.inr (Or.inr (Or.inr (Or.inl ⟨e17, by simp [c125], rfl⟩))))))⟩
      ·
        refine j_iconst C (nI 1) dX5_told_128 (by decide) ?_
        refine j_goto (tgt := 133) C dX5_told_129 (by decide) ?_
        refine j_iret C R dX5_told_133 ?_
        exact Or.inr ⟨p, hp, rfl, Or.inr (Or.inr (Or.inr (Or.inr (Or.inr (Or.inr (Or.inl ⟨e17, by simp [c125], rfl⟩))))))⟩
    ·
      refine j_top e17 ?_
      refine j_tableIn (tgt := 134) C dX5_told_17 (by decide) (by decide) rfl (by decide) ?_
      refine j_aload_n C 0 dX5_told_134 rfl rfl ?_
      refine j_iload_n C 1 dX5_told_135 rfl rfl ?_
      refine j_callI C hR (kX5_isReady hD hG (i := p) (by omega) (rc := Z 117 p) (rcI := (Z 117 p).toInt) rfl rfl (po := Z 121 p) (poI := (Z 121 p).toInt) rfl rfl) [] zmX5_isReady zk_X5_82 zK5 (zb_M hG) (zs_M hG) (by decide) rfl rfl (Nat.le_of_ble_eq_true rfl) dX5_told_136 (fun r136 Z136 h136 => ?_)
      obtain ⟨e136, ⟨rfl, h136⟩ | ⟨rfl, h136⟩⟩ := h136
      ·
        refine j_Z e136 ?_
        have hdn : rdM Z p = true := decide_eq_true (by omega)
        refine j_if_eq (tgt := 146) (a := ((1 : Nat) : Int)) C (nI_toInt (by omega)) dX5_told_139 (by decide) (fun c139 => absurd c139 (by omega)) (fun c139 => ?_)
        refine j_iconst C (nI 1) dX5_told_142 (by decide) ?_
        refine j_goto (tgt := 147) C dX5_told_143 (by decide) ?_
        refine j_iret C R dX5_told_147 ?_
        exact Or.inr ⟨p, hp, rfl, Or.inr (Or.inr (Or.inr (Or.inr (Or.inr (Or.inr (Or.inr (Or.inl ⟨e17, by simp [hdn], rfl⟩)))))))⟩
      ·
        refine j_Z e136 ?_
        have hdn : rdM Z p = false := decide_eq_false (by omega)
        refine j_if_eq (tgt := 146) (a := ((0 : Nat) : Int)) C (nI_toInt (by omega)) dX5_told_139 (by decide) (fun c139 => ?_) (fun c139 => absurd c139 (by omega))
        refine j_iconst C (nI 0) dX5_told_146 (by decide) ?_
        refine j_iret C R dX5_told_147 ?_
        exact Or.inr ⟨p, hp, rfl, Or.inr (Or.inr (Or.inr (Or.inr (Or.inr (Or.inr (Or.inr (Or.inl ⟨e17, by simp [hdn], rfl⟩)))))))⟩
    ·
      refine j_top e17 ?_
      refine j_tableIn (tgt := 148) C dX5_told_17 (by decide) (by decide) rfl (by decide) ?_
      refine j_aload_n C 0 dX5_told_148 rfl rfl ?_
      refine j_iload_n C 1 dX5_told_149 rfl rfl ?_
      refine j_callI C hR (kX5_isDone hD hG (i := p) (by omega) (rc := Z 117 p) (rcI := (Z 117 p).toInt) rfl rfl (po := Z 121 p) (poI := (Z 121 p).toInt) rfl rfl (en := Z 118 p) (enI := (Z 118 p).toInt) rfl rfl) [] zmX5_isDone zk_X5_102 zK5 (zb_M hG) (zs_M hG) (by decide) rfl rfl (Nat.le_of_ble_eq_true rfl) dX5_told_150 (fun r150 Z150 h150 => ?_)
      obtain ⟨e150, ⟨rfl, h150⟩ | ⟨rfl, h150⟩⟩ := h150
      ·
        refine j_Z e150 ?_
        have hdn : dnM Z p = true := decide_eq_true (by omega)
        refine j_if_eq (tgt := 160) (a := ((1 : Nat) : Int)) C (nI_toInt (by omega)) dX5_told_153 (by decide) (fun c153 => absurd c153 (by omega)) (fun c153 => ?_)
        refine j_iconst C (nI 1) dX5_told_156 (by decide) ?_
        refine j_goto (tgt := 161) C dX5_told_157 (by decide) ?_
        refine j_iret C R dX5_told_161 ?_
        exact Or.inr ⟨p, hp, rfl, Or.inr (Or.inr (Or.inr (Or.inr (Or.inr (Or.inr (Or.inr (Or.inr (Or.inl ⟨e17, by simp [hdn], rfl⟩))))))))⟩
      ·
        refine j_Z e150 ?_
        have hdn : dnM Z p = false := decide_eq_false (by omega)
        refine j_if_eq (tgt := 160) (a := ((0 : Nat) : Int)) C (nI_toInt (by omega)) dX5_told_153 (by decide) (fun c153 => ?_) (fun c153 => absurd c153 (by omega))
        refine j_iconst C (nI 0) dX5_told_160 (by decide) ?_
        refine j_iret C R dX5_told_161 ?_
        exact Or.inr ⟨p, hp, rfl, Or.inr (Or.inr (Or.inr (Or.inr (Or.inr (Or.inr (Or.inr (Or.inr (Or.inl ⟨e17, by simp [hdn], rfl⟩))))))))⟩
    ·
      refine j_top e17 ?_
      refine j_tableIn (tgt := 162) C dX5_told_17 (by decide) (by decide) rfl (by decide) ?_
      refine j_aload_n C 0 dX5_told_162 rfl rfl ?_
      refine j_getR C zK5 (zb_M hG) (zs_M hG) (f := 9) (by decide) rfl zk_X5_33 rfl (zf_M_9 hG) dX5_told_163 ?_
      refine j_iload_n C 1 dX5_told_166 rfl rfl ?_
      refine j_iald C (zb_rOri hG) (zs_rOri hG) (zl_rOri hG) rfl (by omega) (by decide) (Z 120 p) rfl dX5_told_167 ?_
      refine j_iret C R dX5_told_168 ?_
      exact Or.inr ⟨p, hp, rfl, Or.inr (Or.inr (Or.inr (Or.inr (Or.inr (Or.inr (Or.inr (Or.inr (Or.inr (Or.inl ⟨e17, rfl, rfl⟩)))))))))⟩
    ·
      refine j_tableOut (tgt := 169) C dX5_told_17 c17 (by decide) ?_
      refine j_ldc C (-2000000012) zk_X5_136 dX5_told_169 ?_
      refine j_iret C R dX5_told_171 ?_
      exact Or.inr ⟨p, hp, rfl, Or.inr (Or.inr (Or.inr (Or.inr (Or.inr (Or.inr (Or.inr (Or.inr (Or.inr (Or.inr ⟨c17, rfl, rfl⟩)))))))))⟩
  ·
    refine j_Z e7 ?_
    refine j_if_ne (tgt := 16) (a := ((0 : Nat) : Int)) C (nI_toInt (by omega)) dX5_told_10 (by decide) (fun c10 => absurd c10 (by omega)) (fun c10 => ?_)
    refine j_bipush C (-11) dX5_told_13 (by decide) ?_
    refine j_iret C R dX5_told_15 ?_
    exact Or.inl ⟨by omega, rfl, rfl⟩
set_option maxRecDepth 100000 in
set_option maxHeartbeats 4000000 in
theorem kX5_water {l : Launch} {D : va_G} {Y : YT} {b0 : Nat} {G : GT} (hD : GD b0 G) (hG : Gok 132 G) {Z : ZT} {Zi : ZT} (hZi : zu Zi 113 0 (nI 0) = Z) {np : Nat} (hnp : Z 113 1 = nI np) (hnp12 : np ≤ 12) : CI l D Y b0 G yX5_water cX5_water 4 (some .int) 2 [.ref (G.2.1 (113))] Zi (fun r Z' => Z' = Z ∧ r = (if (wlf (dnM Z) (waM Z) np).toInt < 200000 then wlf (dnM Z) (waM Z) np else wgf (waM Z) np)) := by
  refine ci_start (lv0 := [(0, .ref (G.2.1 (113)))]) hD rfl rfl (Nat.le_of_ble_eq_true rfl) rfl ?_
  intro E C R hR hD hN
  have L12 : ∀ (n : Nat) (k : Nat), np + 1 ≤ k + n → k ≤ np → J E 0 0 G 12 [(3, .int (nI k)), (1, .int (wlf (dnM Z) (waM Z) k)), (2, .int (wgf (waM Z) k)), (0, .ref (G.2.1 (113)))] [] Z := by
    intro n
    induction n with
    | zero => intro k hn hk; exact absurd hn (by omega)
    | succ n ih =>
      intro k hn hk
      refine j_iload_n C 0 dX5_water_12 rfl rfl ?_
      refine j_aload_n C 3 dX5_water_13 rfl rfl ?_
      refine j_getI C zK5 (zb_M hG) (zs_M hG) (f := 1) (by decide) rfl zk_X5_75 rfl (nI np) hnp dX5_water_14 ?_
      refine j_icmp_ge (tgt := 88) (a := ((k : Nat) : Int)) (b := ((np : Nat) : Int)) C (nI_toInt (by omega)) (nI_toInt (by omega)) dX5_water_17 (by decide) (fun c17 => ?_) (fun c17 => ?_)
      ·
        have e9 : k = np := by omega
        subst e9
        refine j_iload_n C 1 dX5_water_88 rfl rfl ?_
        refine j_ldc C (nI 200000) zk_X5_137 dX5_water_89 ?_
        refine j_icmp_ge (tgt := 98) (a := (wlf (dnM Z) (waM Z) k).toInt) (b := ((200000 : Nat) : Int)) C rfl (nI_toInt (by omega)) dX5_water_91 (by decide) (fun c91 => ?_) (fun c91 => ?_)
        ·
          refine j_iload_n C 2 dX5_water_98 rfl rfl ?_
          refine j_iret C R dX5_water_99 ?_
          exact ⟨rfl, by rw [if_neg (by omega)]⟩
        ·
          refine j_iload_n C 1 dX5_water_94 rfl rfl ?_
          refine j_goto (tgt := 99) C dX5_water_95 (by decide) ?_
          refine j_iret C R dX5_water_99 ?_
          exact ⟨rfl, by rw [if_pos (by omega)]⟩
      ·
        refine j_aload_n C 3 dX5_water_20 rfl rfl ?_
        refine j_iload_n C 0 dX5_water_21 rfl rfl ?_
        refine j_callI C hR (kX5_isDone hD hG (i := k) (by omega) (rc := Z 117 k) (rcI := (Z 117 k).toInt) rfl rfl (po := Z 121 k) (poI := (Z 121 k).toInt) rfl rfl (en := Z 118 k) (enI := (Z 118 k).toInt) rfl rfl) [] zmX5_isDone zk_X5_102 zK5 (zb_M hG) (zs_M hG) (by decide) rfl rfl (Nat.le_of_ble_eq_true rfl) dX5_water_22 (fun r22 Z22 h22 => ?_)
        obtain ⟨e22, ⟨rfl, h22⟩ | ⟨rfl, h22⟩⟩ := h22
        ·
          refine j_Z e22 ?_
          have hdn : dnM Z k = true := decide_eq_true (by omega)
          refine j_if_ne (tgt := 53) (a := ((1 : Nat) : Int)) C (nI_toInt (by omega)) dX5_water_25 (by decide) (fun c25 => ?_) (fun c25 => absurd c25 (by omega))
          refine j_iload_n C 1 dX5_water_53 rfl rfl ?_
          refine j_istore_n (lv' := [(1, .int (wlf (dnM Z) (waM Z) k)), (3, .int (nI k)), (2, .int (wgf (waM Z) k)), (0, .ref (G.2.1 (113)))]) C dX5_water_54 rfl (by rw [hN]; decide) rfl ?_
          refine j_aload_n C 3 dX5_water_55 rfl rfl ?_
          refine j_getR C zK5 (zb_M hG) (zs_M hG) (f := 10) (by decide) rfl zk_X5_36 rfl (zf_M_10 hG) dX5_water_56 ?_
          refine j_bipush C (nI 12) dX5_water_59 (by decide) ?_
          refine j_iload_n C 1 dX5_water_61 rfl rfl ?_
          refine j_iadd C (nI (12 + k)) dX5_water_62 (nI_add 12 k) ?_
          refine j_iald C (zb_rAt hG) (zs_rAt hG) (zl_rAt hG) rfl (by omega) (by decide) (Z (121) (12 + k)) rfl dX5_water_63 ?_
          refine j_iload_n C 2 dX5_water_64 rfl rfl ?_
          refine j_icmp_le (tgt := 80) (a := (Z (121) (12 + k)).toInt) (b := (wgf (waM Z) k).toInt) C rfl rfl dX5_water_65 (by decide) (fun c65 => ?_) (fun c65 => ?_)
          ·
            refine j_iload_n C 2 dX5_water_80 rfl rfl ?_
            refine j_istore_n (lv' := [(2, .int (wgf (waM Z) k)), (1, .int (wlf (dnM Z) (waM Z) k)), (3, .int (nI k)), (0, .ref (G.2.1 (113)))]) C dX5_water_81 rfl (by rw [hN]; decide) rfl ?_
            refine j_iinc (v := nI (k + 1)) (lv' := [(3, .int (nI (k + 1))), (2, .int (wgf (waM Z) k)), (1, .int (wlf (dnM Z) (waM Z) k)), (0, .ref (G.2.1 (113)))]) C 2 dX5_water_82 rfl (nI_add k 1) (by rw [hN]; decide) rfl ?_
            refine j_goto (tgt := 12) C dX5_water_85 (by decide) ?_
            refine j_sub (lv' := [(3, .int (nI (k + 1))), (1, .int (wlf (dnM Z) (waM Z) k)), (2, .int (wgf (waM Z) k)), (0, .ref (G.2.1 (113)))]) [0, 2, 1, 3] rfl ?_
            refine j_lv (lv' := [(3, .int (nI (k + 1))), (1, .int (wlf (dnM Z) (waM Z) (k + 1))), (2, .int (wgf (waM Z) (k + 1))), (0, .ref (G.2.1 (113)))]) (by rw [(show wlf (dnM Z) (waM Z) (k + 1) = wlf (dnM Z) (waM Z) k from if_neg (fun q => by first | (rw [hdn] at q; exact absurd q.1 (by decide)) | (have q2 : (Z 121 (12 + k)).toInt < (wlf (dnM Z) (waM Z) k).toInt := q.2; omega))), (show wgf (waM Z) (k + 1) = wgf (waM Z) k from if_neg (fun q => by have q2 : (wgf (waM Z) k).toInt < (Z 121 (12 + k)).toInt := Int32.lt_iff_toInt_lt.mp q; omega))]) ?_
            exact ih (k + 1) (by omega) (by omega)
          ·
            refine j_aload_n C 3 dX5_water_68 rfl rfl ?_
            refine j_getR C zK5 (zb_M hG) (zs_M hG) (f := 10) (by decide) rfl zk_X5_36 rfl (zf_M_10 hG) dX5_water_69 ?_
            refine j_bipush C (nI 12) dX5_water_72 (by decide) ?_
            refine j_iload_n C 1 dX5_water_74 rfl rfl ?_
            refine j_iadd C (nI (12 + k)) dX5_water_75 (nI_add 12 k) ?_
            refine j_iald C (zb_rAt hG) (zs_rAt hG) (zl_rAt hG) rfl (by omega) (by decide) (Z (121) (12 + k)) rfl dX5_water_76 ?_
            refine j_goto (tgt := 81) C dX5_water_77 (by decide) ?_
            refine j_istore_n (lv' := [(2, .int (Z (121) (12 + k))), (1, .int (wlf (dnM Z) (waM Z) k)), (3, .int (nI k)), (0, .ref (G.2.1 (113)))]) C dX5_water_81 rfl (by rw [hN]; decide) rfl ?_
            refine j_iinc (v := nI (k + 1)) (lv' := [(3, .int (nI (k + 1))), (2, .int (Z (121) (12 + k))), (1, .int (wlf (dnM Z) (waM Z) k)), (0, .ref (G.2.1 (113)))]) C 2 dX5_water_82 rfl (nI_add k 1) (by rw [hN]; decide) rfl ?_
            refine j_goto (tgt := 12) C dX5_water_85 (by decide) ?_
            refine j_sub (lv' := [(3, .int (nI (k + 1))), (1, .int (wlf (dnM Z) (waM Z) k)), (2, .int (Z (121) (12 + k))), (0, .ref (G.2.1 (113)))]) [0, 2, 1, 3] rfl ?_
            refine j_lv (lv' := [(3, .int (nI (k + 1))), (1, .int (wlf (dnM Z) (waM Z) (k + 1))), (2, .int (wgf (waM Z) (k + 1))), (0, .ref (G.2.1 (113)))]) (by rw [(show wlf (dnM Z) (waM Z) (k + 1) = wlf (dnM Z) (waM Z) k from if_neg (fun q => by first | (rw [hdn] at q; exact absurd q.1 (by decide)) | (have q2 : (Z 121 (12 + k)).toInt < (wlf (dnM Z) (waM Z) k).toInt := q.2; omega))), (show wgf (waM Z) (k + 1) = Z 121 (12 + k) from if_pos (Int32.lt_iff_toInt_lt.mpr (by show _ < (Z 121 (12 + k)).toInt; omega)))]) ?_
            exact ih (k + 1) (by omega) (by omega)
        ·
          refine j_Z e22 ?_
          have hdn : dnM Z k = false := decide_eq_false (by omega)
          refine j_if_ne (tgt := 53) (a := ((0 : Nat) : Int)) C (nI_toInt (by omega)) dX5_water_25 (by decide) (fun c25 => absurd c25 (by omega)) (fun c25 => ?_)
          refine j_aload_n C 3 dX5_water_28 rfl rfl ?_
          refine j_getR C zK5 (zb_M hG) (zs_M hG) (f := 10) (by decide) rfl zk_X5_36 rfl (zf_M_10 hG) dX5_water_29 ?_
          refine j_bipush C (nI 12) dX5_water_32 (by decide) ?_
          refine j_iload_n C 0 dX5_water_34 rfl rfl ?_
          refine j_iadd C (nI (12 + k)) dX5_water_35 (nI_add 12 k) ?_
          refine j_iald C (zb_rAt hG) (zs_rAt hG) (zl_rAt hG) rfl (by omega) (by decide) (Z (121) (12 + k)) rfl dX5_water_36 ?_
          refine j_iload_n C 1 dX5_water_37 rfl rfl ?_
          refine j_icmp_ge (tgt := 53) (a := (Z (121) (12 + k)).toInt) (b := (wlf (dnM Z) (waM Z) k).toInt) C rfl rfl dX5_water_38 (by decide) (fun c38 => ?_) (fun c38 => ?_)
          ·
            refine j_iload_n C 1 dX5_water_53 rfl rfl ?_
            refine j_istore_n (lv' := [(1, .int (wlf (dnM Z) (waM Z) k)), (3, .int (nI k)), (2, .int (wgf (waM Z) k)), (0, .ref (G.2.1 (113)))]) C dX5_water_54 rfl (by rw [hN]; decide) rfl ?_
            refine j_aload_n C 3 dX5_water_55 rfl rfl ?_
            refine j_getR C zK5 (zb_M hG) (zs_M hG) (f := 10) (by decide) rfl zk_X5_36 rfl (zf_M_10 hG) dX5_water_56 ?_
            refine j_bipush C (nI 12) dX5_water_59 (by decide) ?_
            refine j_iload_n C 1 dX5_water_61 rfl rfl ?_
            refine j_iadd C (nI (12 + k)) dX5_water_62 (nI_add 12 k) ?_
            refine j_iald C (zb_rAt hG) (zs_rAt hG) (zl_rAt hG) rfl (by omega) (by decide) (Z (121) (12 + k)) rfl dX5_water_63 ?_
            refine j_iload_n C 2 dX5_water_64 rfl rfl ?_
            refine j_icmp_le (tgt := 80) (a := (Z (121) (12 + k)).toInt) (b := (wgf (waM Z) k).toInt) C rfl rfl dX5_water_65 (by decide) (fun c65 => ?_) (fun c65 => ?_)
            ·
              refine j_iload_n C 2 dX5_water_80 rfl rfl ?_
              refine j_istore_n (lv' := [(2, .int (wgf (waM Z) k)), (1, .int (wlf (dnM Z) (waM Z) k)), (3, .int (nI k)), (0, .ref (G.2.1 (113)))]) C dX5_water_81 rfl (by rw [hN]; decide) rfl ?_
              refine j_iinc (v := nI (k + 1)) (lv' := [(3, .int (nI (k + 1))), (2, .int (wgf (waM Z) k)), (1, .int (wlf (dnM Z) (waM Z) k)), (0, .ref (G.2.1 (113)))]) C 2 dX5_water_82 rfl (nI_add k 1) (by rw [hN]; decide) rfl ?_
              refine j_goto (tgt := 12) C dX5_water_85 (by decide) ?_
              refine j_sub (lv' := [(3, .int (nI (k + 1))), (1, .int (wlf (dnM Z) (waM Z) k)), (2, .int (wgf (waM Z) k)), (0, .ref (G.2.1 (113)))]) [0, 2, 1, 3] rfl ?_
              refine j_lv (lv' := [(3, .int (nI (k + 1))), (1, .int (wlf (dnM Z) (waM Z) (k + 1))), (2, .int (wgf (waM Z) (k + 1))), (0, .ref (G.2.1 (113)))]) (by rw [(show wlf (dnM Z) (waM Z) (k + 1) = wlf (dnM Z) (waM Z) k from if_neg (fun q => by first | (rw [hdn] at q; exact absurd q.1 (by decide)) | (have q2 : (Z 121 (12 + k)).toInt < (wlf (dnM Z) (waM Z) k).toInt := q.2; omega))), (show wgf (waM Z) (k + 1) = wgf (waM Z) k from if_neg (fun q => by have q2 : (wgf (waM Z) k).toInt < (Z 121 (12 + k)).toInt := Int32.lt_iff_toInt_lt.mp q; omega))]) ?_
              exact ih (k + 1) (by omega) (by omega)
            ·
              refine j_aload_n C 3 dX5_water_68 rfl rfl ?_
              refine j_getR C zK5 (zb_M hG) (zs_M hG) (f := 10) (by decide) rfl zk_X5_36 rfl (zf_M_10 hG) dX5_water_69 ?_
              refine j_bipush C (nI 12) dX5_water_72 (by decide) ?_
              refine j_iload_n C 1 dX5_water_74 rfl rfl ?_
              refine j_iadd C (nI (12 + k)) dX5_water_75 (nI_add 12 k) ?_
              refine j_iald C (zb_rAt hG) (zs_rAt hG) (zl_rAt hG) rfl (by omega) (by decide) (Z (121) (12 + k)) rfl dX5_water_76 ?_
              refine j_goto (tgt := 81) C dX5_water_77 (by decide) ?_
              refine j_istore_n (lv' := [(2, .int (Z (121) (12 + k))), (1, .int (wlf (dnM Z) (waM Z) k)), (3, .int (nI k)), (0, .ref (G.2.1 (113)))]) C dX5_water_81 rfl (by rw [hN]; decide) rfl ?_
              refine j_iinc (v := nI (k + 1)) (lv' := [(3, .int (nI (k + 1))), (2, .int (Z (121) (12 + k))), (1, .int (wlf (dnM Z) (waM Z) k)), (0, .ref (G.2.1 (113)))]) C 2 dX5_water_82 rfl (nI_add k 1) (by rw [hN]; decide) rfl ?_
              refine j_goto (tgt := 12) C dX5_water_85 (by decide) ?_
              refine j_sub (lv' := [(3, .int (nI (k + 1))), (1, .int (wlf (dnM Z) (waM Z) k)), (2, .int (Z (121) (12 + k))), (0, .ref (G.2.1 (113)))]) [0, 2, 1, 3] rfl ?_
              refine j_lv (lv' := [(3, .int (nI (k + 1))), (1, .int (wlf (dnM Z) (waM Z) (k + 1))), (2, .int (wgf (waM Z) (k + 1))), (0, .ref (G.2.1 (113)))]) (by rw [(show wlf (dnM Z) (waM Z) (k + 1) = wlf (dnM Z) (waM Z) k from if_neg (fun q => by first | (rw [hdn] at q; exact absurd q.1 (by decide)) | (have q2 : (Z 121 (12 + k)).toInt < (wlf (dnM Z) (waM Z) k).toInt := q.2; omega))), (show wgf (waM Z) (k + 1) = Z 121 (12 + k) from if_pos (Int32.lt_iff_toInt_lt.mpr (by show _ < (Z 121 (12 + k)).toInt; omega)))]) ?_
              exact ih (k + 1) (by omega) (by omega)
          ·
            refine j_aload_n C 3 dX5_water_41 rfl rfl ?_
            refine j_getR C zK5 (zb_M hG) (zs_M hG) (f := 10) (by decide) rfl zk_X5_36 rfl (zf_M_10 hG) dX5_water_42 ?_
            refine j_bipush C (nI 12) dX5_water_45 (by decide) ?_
            refine j_iload_n C 0 dX5_water_47 rfl rfl ?_
            refine j_iadd C (nI (12 + k)) dX5_water_48 (nI_add 12 k) ?_
            refine j_iald C (zb_rAt hG) (zs_rAt hG) (zl_rAt hG) rfl (by omega) (by decide) (Z (121) (12 + k)) rfl dX5_water_49 ?_
            refine j_goto (tgt := 54) C dX5_water_50 (by decide) ?_
            refine j_istore_n (lv' := [(1, .int (Z (121) (12 + k))), (3, .int (nI k)), (2, .int (wgf (waM Z) k)), (0, .ref (G.2.1 (113)))]) C dX5_water_54 rfl (by rw [hN]; decide) rfl ?_
            refine j_aload_n C 3 dX5_water_55 rfl rfl ?_
            refine j_getR C zK5 (zb_M hG) (zs_M hG) (f := 10) (by decide) rfl zk_X5_36 rfl (zf_M_10 hG) dX5_water_56 ?_
            refine j_bipush C (nI 12) dX5_water_59 (by decide) ?_
            refine j_iload_n C 1 dX5_water_61 rfl rfl ?_
            refine j_iadd C (nI (12 + k)) dX5_water_62 (nI_add 12 k) ?_
            refine j_iald C (zb_rAt hG) (zs_rAt hG) (zl_rAt hG) rfl (by omega) (by decide) (Z (121) (12 + k)) rfl dX5_water_63 ?_
            refine j_iload_n C 2 dX5_water_64 rfl rfl ?_
            refine j_icmp_le (tgt := 80) (a := (Z (121) (12 + k)).toInt) (b := (wgf (waM Z) k).toInt) C rfl rfl dX5_water_65 (by decide) (fun c65 => ?_) (fun c65 => ?_)
            ·
              refine j_iload_n C 2 dX5_water_80 rfl rfl ?_
              refine j_istore_n (lv' := [(2, .int (wgf (waM Z) k)), (1, .int (Z (121) (12 + k))), (3, .int (nI k)), (0, .ref (G.2.1 (113)))]) C dX5_water_81 rfl (by rw [hN]; decide) rfl ?_
              refine j_iinc (v := nI (k + 1)) (lv' := [(3, .int (nI (k + 1))), (2, .int (wgf (waM Z) k)), (1, .int (Z (121) (12 + k))), (0, .ref (G.2.1 (113)))]) C 2 dX5_water_82 rfl (nI_add k 1) (by rw [hN]; decide) rfl ?_
              refine j_goto (tgt := 12) C dX5_water_85 (by decide) ?_
              refine j_sub (lv' := [(3, .int (nI (k + 1))), (1, .int (Z (121) (12 + k))), (2, .int (wgf (waM Z) k)), (0, .ref (G.2.1 (113)))]) [0, 2, 1, 3] rfl ?_
              refine j_lv (lv' := [(3, .int (nI (k + 1))), (1, .int (wlf (dnM Z) (waM Z) (k + 1))), (2, .int (wgf (waM Z) (k + 1))), (0, .ref (G.2.1 (113)))]) (by rw [(show wlf (dnM Z) (waM Z) (k + 1) = Z 121 (12 + k) from if_pos ⟨hdn, by show (Z 121 (12 + k)).toInt < _; omega⟩), (show wgf (waM Z) (k + 1) = wgf (waM Z) k from if_neg (fun q => by have q2 : (wgf (waM Z) k).toInt < (Z 121 (12 + k)).toInt := Int32.lt_iff_toInt_lt.mp q; omega))]) ?_
              exact ih (k + 1) (by omega) (by omega)
            ·
              refine j_aload_n C 3 dX5_water_68 rfl rfl ?_
              refine j_getR C zK5 (zb_M hG) (zs_M hG) (f := 10) (by decide) rfl zk_X5_36 rfl (zf_M_10 hG) dX5_water_69 ?_
              refine j_bipush C (nI 12) dX5_water_72 (by decide) ?_
              refine j_iload_n C 1 dX5_water_74 rfl rfl ?_
              refine j_iadd C (nI (12 + k)) dX5_water_75 (nI_add 12 k) ?_
              refine j_iald C (zb_rAt hG) (zs_rAt hG) (zl_rAt hG) rfl (by omega) (by decide) (Z (121) (12 + k)) rfl dX5_water_76 ?_
              refine j_goto (tgt := 81) C dX5_water_77 (by decide) ?_
              refine j_istore_n (lv' := [(2, .int (Z (121) (12 + k))), (1, .int (Z (121) (12 + k))), (3, .int (nI k)), (0, .ref (G.2.1 (113)))]) C dX5_water_81 rfl (by rw [hN]; decide) rfl ?_
              refine j_iinc (v := nI (k + 1)) (lv' := [(3, .int (nI (k + 1))), (2, .int (Z (121) (12 + k))), (1, .int (Z (121) (12 + k))), (0, .ref (G.2.1 (113)))]) C 2 dX5_water_82 rfl (nI_add k 1) (by rw [hN]; decide) rfl ?_
              refine j_goto (tgt := 12) C dX5_water_85 (by decide) ?_
              refine j_sub (lv' := [(3, .int (nI (k + 1))), (1, .int (Z (121) (12 + k))), (2, .int (Z (121) (12 + k))), (0, .ref (G.2.1 (113)))]) [0, 2, 1, 3] rfl ?_
              refine j_lv (lv' := [(3, .int (nI (k + 1))), (1, .int (wlf (dnM Z) (waM Z) (k + 1))), (2, .int (wgf (waM Z) (k + 1))), (0, .ref (G.2.1 (113)))]) (by rw [(show wlf (dnM Z) (waM Z) (k + 1) = Z 121 (12 + k) from if_pos ⟨hdn, by show (Z 121 (12 + k)).toInt < _; omega⟩), (show wgf (waM Z) (k + 1) = Z 121 (12 + k) from if_pos (Int32.lt_iff_toInt_lt.mpr (by show _ < (Z 121 (12 + k)).toInt; omega)))]) ?_
              exact ih (k + 1) (by omega) (by omega)
  refine j_aload_n C 0 dX5_water_0 rfl rfl ?_
  refine j_iconst C (nI 0) dX5_water_1 (by decide) ?_
  refine j_putI C hD zK5 (zb_M hG) (zs_M hG) (f := 0) (by decide) rfl zk_X5_72 rfl rfl rfl rfl dX5_water_2 ?_
  refine j_Z hZi ?_
  refine j_ldc C (nI 200000) zk_X5_137 dX5_water_5 ?_
  refine j_istore_n (lv' := [(1, .int (nI 200000)), (0, .ref (G.2.1 (113)))]) C dX5_water_7 rfl (by rw [hN]; decide) rfl ?_
  refine j_iconst C (-1) dX5_water_8 (by decide) ?_
  refine j_istore_n (lv' := [(2, .int (-1)), (1, .int (nI 200000)), (0, .ref (G.2.1 (113)))]) C dX5_water_9 rfl (by rw [hN]; decide) rfl ?_
  refine j_iconst C (nI 0) dX5_water_10 (by decide) ?_
  refine j_istore_n (lv' := [(3, .int (nI 0)), (2, .int (-1)), (1, .int (nI 200000)), (0, .ref (G.2.1 (113)))]) C dX5_water_11 rfl (by rw [hN]; decide) rfl ?_
  refine j_sub (lv' := [(3, .int (nI 0)), (1, .int (nI 200000)), (2, .int (-1)), (0, .ref (G.2.1 (113)))]) [0, 2, 1, 3] rfl ?_
  refine j_lv (lv' := [(3, .int (nI 0)), (1, .int (wlf (dnM Z) (waM Z) 0)), (2, .int (wgf (waM Z) 0)), (0, .ref (G.2.1 (113)))]) rfl ?_
  exact L12 (np + 1) 0 (by omega) (by omega)
theorem zn9 {a b : Nat} {l : List (Nat × Value)} (h : a = b) : (2, Value.int (nI a)) :: l = (2, Value.int (nI b)) :: l := by rw [h]
theorem zn8 {a b : Nat} {x : Nat × Value} {l : List (Nat × Value)} (h : a = b) : x :: (2, Value.int (nI a)) :: l = x :: (2, Value.int (nI b)) :: l := by rw [h]
set_option maxRecDepth 100000 in
set_option maxHeartbeats 4000000 in
theorem kX5_count {l : Launch} {D : va_G} {Y : YT} {b0 : Nat} {G : GT} (hD : GD b0 G) (hG : Gok 132 G) {Z : ZT} {Zi : ZT} (hZi : zu Zi 113 0 (nI 0) = Z) {np : Nat} (hnp : Z 113 1 = nI np) (hnp12 : np ≤ 12) (p0 : Int32) : CI l D Y b0 G yX5_count cX5_count 4 (some .int) 2 [.ref (G.2.1 (113)), .int (p0)] Zi (fun r Z' => ((p0 = nI 0) ∧ r = nI np ∧ Z' = Z) ∨ ((p0 = nI 1) ∧ r = Z 113 2 ∧ Z' = Z) ∨ ((p0 = nI 2) ∧ r = Z 113 14 ∧ Z' = Z) ∨ ((p0 = nI 3) ∧ r = Z 113 22 ∧ Z' = Z) ∨ ((p0 = nI 4) ∧ r = nI (zcn (gbz Z 122) 256) ∧ Z' = Z) ∨ ((p0 = nI 5) ∧ r = Z 113 13 ∧ Z' = Z) ∨ ((p0 = nI 6) ∧ r = nI (zcn (dnM Z) np) ∧ Z' = Z) ∨ ((p0 = nI 7) ∧ r = Z 113 23 ∧ Z' = Z) ∨ ((p0 = nI 8) ∧ r = Z 113 24 ∧ Z' = Z) ∨ ((p0 = nI 9) ∧ r = nI (zcn (gbz Z 129) 64 + zcn (gbz Z 130) 64) ∧ Z' = Z) ∨ ((p0.toInt < 0 ∨ 9 < p0.toInt) ∧ r = (-12) ∧ Z' = Z)) := by
  refine ci_start (lv0 := [(0, .ref (G.2.1 (113))), (1, .int (p0))]) hD rfl rfl (Nat.le_of_ble_eq_true rfl) rfl ?_
  intro E C R hR hD hN
  have L86 : ∀ (n : Nat) (e8 : p0 = nI 4) (k : Nat), 256 + 1 ≤ k + n → k ≤ 256 → J E 0 0 G 86 [(3, .int (nI k)), (2, .int (nI (zcn (gbz Z 122) k))), (0, .ref (G.2.1 (113))), (1, .int (p0))] [] Z := by
    intro n
    induction n with
    | zero => intro e8 k hn hk; exact absurd hn (by omega)
    | succ n ih =>
      intro e8 k hn hk
      have hle := zcn_le (gbz Z 122) k
      refine j_iload_n C 0 dX5_count_86 rfl rfl ?_
      refine j_sipush C (nI 256) dX5_count_87 (by decide) ?_
      refine j_icmp_ge (tgt := 116) (a := ((k : Nat) : Int)) (b := ((256 : Nat) : Int)) C (nI_toInt (by omega)) (nI_toInt (by omega)) dX5_count_90 (by decide) (fun c90 => ?_) (fun c90 => ?_)
      ·
        have e9 : k = 256 := by omega
        subst e9
        refine j_iload_n C 1 dX5_count_116 rfl rfl ?_
        refine j_iret C R dX5_count_117 ?_
        exact Or.inr (Or.inr (Or.inr (Or.inr (Or.inl ⟨e8, rfl, rfl⟩))))
      ·
        refine j_iload_n C 1 dX5_count_93 rfl rfl ?_
        refine j_aload_n C 2 dX5_count_94 rfl rfl ?_
        refine j_getR C zK5 (zb_M hG) (zs_M hG) (f := 11) (by decide) rfl zk_X5_39 rfl (zf_M_11 hG) dX5_count_95 ?_
        refine j_iload_n C 0 dX5_count_98 rfl rfl ?_
        refine j_zald C (zb_rGiv hG) (zs_rGiv hG) (zl_rGiv hG) rfl (by omega) (by decide) (Z 122 k) rfl dX5_count_99 ?_
        refine j_if_eq (tgt := 107) (a := (Z 122 k).toInt) C rfl dX5_count_100 (by decide) (fun c100 => ?_) (fun c100 => ?_)
        ·
          refine j_iconst C (nI 0) dX5_count_107 (by decide) ?_
          refine j_iadd C (nI (zcn (gbz Z 122) k + 0)) dX5_count_108 (nI_add (zcn (gbz Z 122) k) 0) ?_
          refine j_istore_n (lv' := [(2, .int (nI (zcn (gbz Z 122) k + 0))), (3, .int (nI k)), (0, .ref (G.2.1 (113))), (1, .int (p0))]) C dX5_count_109 rfl (by rw [hN]; decide) rfl ?_
          refine j_iinc (v := nI (k + 1)) (lv' := [(3, .int (nI (k + 1))), (2, .int (nI (zcn (gbz Z 122) k + 0))), (0, .ref (G.2.1 (113))), (1, .int (p0))]) C 1 dX5_count_110 rfl (nI_add k 1) (by rw [hN]; decide) rfl ?_
          refine j_goto (tgt := 86) C dX5_count_113 (by decide) ?_
          refine j_lv (lv' := [(3, .int (nI (k + 1))), (2, .int (nI (zcn (gbz Z 122) (k + 1)))), (0, .ref (G.2.1 (113))), (1, .int (p0))]) (by rw [zcn_f (show gbz Z 122 k = false from decide_eq_false (fun q => q c100))]; rfl) ?_
          exact ih e8 (k + 1) (by omega) (by omega)
        ·
          refine j_iconst C (nI 1) dX5_count_103 (by decide) ?_
          refine j_goto (tgt := 108) C dX5_count_104 (by decide) ?_
          refine j_iadd C (nI (zcn (gbz Z 122) k + 1)) dX5_count_108 (nI_add (zcn (gbz Z 122) k) 1) ?_
          refine j_istore_n (lv' := [(2, .int (nI (zcn (gbz Z 122) k + 1))), (3, .int (nI k)), (0, .ref (G.2.1 (113))), (1, .int (p0))]) C dX5_count_109 rfl (by rw [hN]; decide) rfl ?_
          refine j_iinc (v := nI (k + 1)) (lv' := [(3, .int (nI (k + 1))), (2, .int (nI (zcn (gbz Z 122) k + 1))), (0, .ref (G.2.1 (113))), (1, .int (p0))]) C 1 dX5_count_110 rfl (nI_add k 1) (by rw [hN]; decide) rfl ?_
          refine j_goto (tgt := 86) C dX5_count_113 (by decide) ?_
          refine j_lv (lv' := [(3, .int (nI (k + 1))), (2, .int (nI (zcn (gbz Z 122) (k + 1)))), (0, .ref (G.2.1 (113))), (1, .int (p0))]) (by rw [zcn_t (show gbz Z 122 k = true from decide_eq_true c100)]) ?_
          exact ih e8 (k + 1) (by omega) (by omega)
  have L125 : ∀ (n : Nat) (e8 : p0 = nI 6) (k : Nat), np + 1 ≤ k + n → k ≤ np → J E 0 0 G 125 [(3, .int (nI k)), (2, .int (nI (zcn (dnM Z) k))), (0, .ref (G.2.1 (113))), (1, .int (p0))] [] Z := by
    intro n
    induction n with
    | zero => intro e8 k hn hk; exact absurd hn (by omega)
    | succ n ih =>
      intro e8 k hn hk
      refine j_iload_n C 0 dX5_count_125 rfl rfl ?_
      refine j_aload_n C 2 dX5_count_126 rfl rfl ?_
      refine j_getI C zK5 (zb_M hG) (zs_M hG) (f := 1) (by decide) rfl zk_X5_75 rfl (nI np) hnp dX5_count_127 ?_
      refine j_icmp_ge (tgt := 155) (a := ((k : Nat) : Int)) (b := ((np : Nat) : Int)) C (nI_toInt (by omega)) (nI_toInt (by omega)) dX5_count_130 (by decide) (fun c130 => ?_) (fun c130 => ?_)
      ·
        have e9 : k = np := by omega
        subst e9
        refine j_iload_n C 1 dX5_count_155 rfl rfl ?_
        refine j_iret C R dX5_count_156 ?_
        exact Or.inr (Or.inr (Or.inr (Or.inr (Or.inr (Or.inr (Or.inl ⟨e8, rfl, rfl⟩))))))
      ·
        refine j_iload_n C 1 dX5_count_133 rfl rfl ?_
        refine j_aload_n C 2 dX5_count_134 rfl rfl ?_
        refine j_iload_n C 0 dX5_count_135 rfl rfl ?_
        refine j_callI C hR (kX5_isDone hD hG (i := k) (by omega) (rc := Z 117 k) (rcI := (Z 117 k).toInt) rfl rfl (po := Z 121 k) (poI := (Z 121 k).toInt) rfl rfl (en := Z 118 k) (enI := (Z 118 k).toInt) rfl rfl) [.int (nI (zcn (dnM Z) k))] zmX5_isDone zk_X5_102 zK5 (zb_M hG) (zs_M hG) (by decide) rfl rfl (Nat.le_of_ble_eq_true rfl) dX5_count_136 (fun r136 Z136 h136 => ?_)
        obtain ⟨e136, ⟨rfl, h136⟩ | ⟨rfl, h136⟩⟩ := h136
        ·
          refine j_Z e136 ?_
          have hdn : dnM Z k = true := decide_eq_true (by omega)
          refine j_if_eq (tgt := 146) (a := ((1 : Nat) : Int)) C (nI_toInt (by omega)) dX5_count_139 (by decide) (fun c139 => absurd c139 (by omega)) (fun c139 => ?_)
          refine j_iconst C (nI 1) dX5_count_142 (by decide) ?_
          refine j_goto (tgt := 147) C dX5_count_143 (by decide) ?_
          refine j_iadd C (nI (zcn (dnM Z) k + 1)) dX5_count_147 (nI_add (zcn (dnM Z) k) 1) ?_
          refine j_istore_n (lv' := [(2, .int (nI (zcn (dnM Z) k + 1))), (3, .int (nI k)), (0, .ref (G.2.1 (113))), (1, .int (p0))]) C dX5_count_148 rfl (by rw [hN]; decide) rfl ?_
          refine j_iinc (v := nI (k + 1)) (lv' := [(3, .int (nI (k + 1))), (2, .int (nI (zcn (dnM Z) k + 1))), (0, .ref (G.2.1 (113))), (1, .int (p0))]) C 1 dX5_count_149 rfl (nI_add k 1) (by rw [hN]; decide) rfl ?_
          refine j_goto (tgt := 125) C dX5_count_152 (by decide) ?_
          refine j_lv (lv' := [(3, .int (nI (k + 1))), (2, .int (nI (zcn (dnM Z) (k + 1)))), (0, .ref (G.2.1 (113))), (1, .int (p0))]) (by first | rw [zcn_t hdn] | (rw [zcn_f hdn]; rfl)) ?_
          exact ih e8 (k + 1) (by omega) (by omega)
        ·
          refine j_Z e136 ?_
          have hdn : dnM Z k = false := decide_eq_false (by omega)
          refine j_if_eq (tgt := 146) (a := ((0 : Nat) : Int)) C (nI_toInt (by omega)) dX5_count_139 (by decide) (fun c139 => ?_) (fun c139 => absurd c139 (by omega))
          refine j_iconst C (nI 0) dX5_count_146 (by decide) ?_
          refine j_iadd C (nI (zcn (dnM Z) k + 0)) dX5_count_147 (nI_add (zcn (dnM Z) k) 0) ?_
          refine j_istore_n (lv' := [(2, .int (nI (zcn (dnM Z) k + 0))), (3, .int (nI k)), (0, .ref (G.2.1 (113))), (1, .int (p0))]) C dX5_count_148 rfl (by rw [hN]; decide) rfl ?_
          refine j_iinc (v := nI (k + 1)) (lv' := [(3, .int (nI (k + 1))), (2, .int (nI (zcn (dnM Z) k + 0))), (0, .ref (G.2.1 (113))), (1, .int (p0))]) C 1 dX5_count_149 rfl (nI_add k 1) (by rw [hN]; decide) rfl ?_
          refine j_goto (tgt := 125) C dX5_count_152 (by decide) ?_
          refine j_lv (lv' := [(3, .int (nI (k + 1))), (2, .int (nI (zcn (dnM Z) (k + 1)))), (0, .ref (G.2.1 (113))), (1, .int (p0))]) (by first | rw [zcn_t hdn] | (rw [zcn_f hdn]; rfl)) ?_
          exact ih e8 (k + 1) (by omega) (by omega)
  have L169 : ∀ (n : Nat) (e8 : p0 = nI 9) (k : Nat), 64 + 1 ≤ k + n → k ≤ 64 → J E 0 0 G 169 [(3, .int (nI k)), (2, .int (nI (zcn (gbz Z 129) k + zcn (gbz Z 130) k))), (0, .ref (G.2.1 (113))), (1, .int (p0))] [] Z := by
    intro n
    induction n with
    | zero => intro e8 k hn hk; exact absurd hn (by omega)
    | succ n ih =>
      intro e8 k hn hk
      refine j_iload_n C 0 dX5_count_169 rfl rfl ?_
      refine j_bipush C (nI 64) dX5_count_170 (by decide) ?_
      refine j_icmp_ge (tgt := 213) (a := ((k : Nat) : Int)) (b := ((64 : Nat) : Int)) C (nI_toInt (by omega)) (nI_toInt (by omega)) dX5_count_172 (by decide) (fun c172 => ?_) (fun c172 => ?_)
      ·
        have e9 : k = 64 := by omega
        subst e9
        refine j_iload_n C 1 dX5_count_213 rfl rfl ?_
        refine j_iret C R dX5_count_214 ?_
        exact Or.inr (Or.inr (Or.inr (Or.inr (Or.inr (Or.inr (Or.inr (Or.inr (Or.inr (Or.inl ⟨e8, rfl, rfl⟩)))))))))
      ·
        refine j_iload_n C 1 dX5_count_175 rfl rfl ?_
        refine j_aload_n C 2 dX5_count_176 rfl rfl ?_
        refine j_getR C zK5 (zb_M hG) (zs_M hG) (f := 20) (by decide) rfl zk_X5_60 rfl (zf_M_20 hG) dX5_count_177 ?_
        refine j_iload_n C 0 dX5_count_180 rfl rfl ?_
        refine j_zald C (zb_rLos hG) (zs_rLos hG) (zl_rLos hG) rfl (by omega) (by decide) (Z 129 k) rfl dX5_count_181 ?_
        refine j_if_eq (tgt := 189) (a := (Z 129 k).toInt) C rfl dX5_count_182 (by decide) (fun c182 => ?_) (fun c182 => ?_)
        ·
          refine j_iconst C (nI 0) dX5_count_189 (by decide) ?_
          refine j_aload_n C 2 dX5_count_190 rfl rfl ?_
          refine j_getR C zK5 (zb_M hG) (zs_M hG) (f := 21) (by decide) rfl zk_X5_63 rfl (zf_M_21 hG) dX5_count_191 ?_
          refine j_iload_n C 0 dX5_count_194 rfl rfl ?_
          refine j_zald C (zb_rTwi hG) (zs_rTwi hG) (zl_rTwi hG) rfl (by omega) (by decide) (Z 130 k) rfl dX5_count_195 ?_
          refine j_if_eq (tgt := 203) (a := (Z 130 k).toInt) C rfl dX5_count_196 (by decide) (fun c196 => ?_) (fun c196 => ?_)
          ·
            refine j_iconst C (nI 0) dX5_count_203 (by decide) ?_
            refine j_iadd C (nI (0 + 0)) dX5_count_204 (nI_add 0 0) ?_
            refine j_iadd C (nI (zcn (gbz Z 129) k + zcn (gbz Z 130) k + (0 + 0))) dX5_count_205 (nI_add (zcn (gbz Z 129) k + zcn (gbz Z 130) k) (0 + 0)) ?_
            refine j_istore_n (lv' := [(2, .int (nI (zcn (gbz Z 129) k + zcn (gbz Z 130) k + (0 + 0)))), (3, .int (nI k)), (0, .ref (G.2.1 (113))), (1, .int (p0))]) C dX5_count_206 rfl (by rw [hN]; decide) rfl ?_
            refine j_iinc (v := nI (k + 1)) (lv' := [(3, .int (nI (k + 1))), (2, .int (nI (zcn (gbz Z 129) k + zcn (gbz Z 130) k + (0 + 0)))), (0, .ref (G.2.1 (113))), (1, .int (p0))]) C 1 dX5_count_207 rfl (nI_add k 1) (by rw [hN]; decide) rfl ?_
            refine j_goto (tgt := 169) C dX5_count_210 (by decide) ?_
            refine j_lv (lv' := [(3, .int (nI (k + 1))), (2, .int (nI (zcn (gbz Z 129) (k + 1) + zcn (gbz Z 130) (k + 1)))), (0, .ref (G.2.1 (113))), (1, .int (p0))]) (zn8 (by rw [zcn_f (show gbz Z 129 k = false from decide_eq_false (fun q => q c182)), zcn_f (show gbz Z 130 k = false from decide_eq_false (fun q => q c196))]; omega)) ?_
            exact ih e8 (k + 1) (by omega) (by omega)
          ·
            refine j_iconst C (nI 1) dX5_count_199 (by decide) ?_
            refine j_goto (tgt := 204) C dX5_count_200 (by decide) ?_
            refine j_iadd C (nI (0 + 1)) dX5_count_204 (nI_add 0 1) ?_
            refine j_iadd C (nI (zcn (gbz Z 129) k + zcn (gbz Z 130) k + (0 + 1))) dX5_count_205 (nI_add (zcn (gbz Z 129) k + zcn (gbz Z 130) k) (0 + 1)) ?_
            refine j_istore_n (lv' := [(2, .int (nI (zcn (gbz Z 129) k + zcn (gbz Z 130) k + (0 + 1)))), (3, .int (nI k)), (0, .ref (G.2.1 (113))), (1, .int (p0))]) C dX5_count_206 rfl (by rw [hN]; decide) rfl ?_
            refine j_iinc (v := nI (k + 1)) (lv' := [(3, .int (nI (k + 1))), (2, .int (nI (zcn (gbz Z 129) k + zcn (gbz Z 130) k + (0 + 1)))), (0, .ref (G.2.1 (113))), (1, .int (p0))]) C 1 dX5_count_207 rfl (nI_add k 1) (by rw [hN]; decide) rfl ?_
            refine j_goto (tgt := 169) C dX5_count_210 (by decide) ?_
            refine j_lv (lv' := [(3, .int (nI (k + 1))), (2, .int (nI (zcn (gbz Z 129) (k + 1) + zcn (gbz Z 130) (k + 1)))), (0, .ref (G.2.1 (113))), (1, .int (p0))]) (zn8 (by rw [zcn_f (show gbz Z 129 k = false from decide_eq_false (fun q => q c182)), zcn_t (show gbz Z 130 k = true from decide_eq_true c196)]; omega)) ?_
            exact ih e8 (k + 1) (by omega) (by omega)
        ·
          refine j_iconst C (nI 1) dX5_count_185 (by decide) ?_
          refine j_goto (tgt := 190) C dX5_count_186 (by decide) ?_
          refine j_aload_n C 2 dX5_count_190 rfl rfl ?_
          refine j_getR C zK5 (zb_M hG) (zs_M hG) (f := 21) (by decide) rfl zk_X5_63 rfl (zf_M_21 hG) dX5_count_191 ?_
          refine j_iload_n C 0 dX5_count_194 rfl rfl ?_
          refine j_zald C (zb_rTwi hG) (zs_rTwi hG) (zl_rTwi hG) rfl (by omega) (by decide) (Z 130 k) rfl dX5_count_195 ?_
          refine j_if_eq (tgt := 203) (a := (Z 130 k).toInt) C rfl dX5_count_196 (by decide) (fun c196 => ?_) (fun c196 => ?_)
          ·
            refine j_iconst C (nI 0) dX5_count_203 (by decide) ?_
            refine j_iadd C (nI (1 + 0)) dX5_count_204 (nI_add 1 0) ?_
            refine j_iadd C (nI (zcn (gbz Z 129) k + zcn (gbz Z 130) k + (1 + 0))) dX5_count_205 (nI_add (zcn (gbz Z 129) k + zcn (gbz Z 130) k) (1 + 0)) ?_
            refine j_istore_n (lv' := [(2, .int (nI (zcn (gbz Z 129) k + zcn (gbz Z 130) k + (1 + 0)))), (3, .int (nI k)), (0, .ref (G.2.1 (113))), (1, .int (p0))]) C dX5_count_206 rfl (by rw [hN]; decide) rfl ?_
            refine j_iinc (v := nI (k + 1)) (lv' := [(3, .int (nI (k + 1))), (2, .int (nI (zcn (gbz Z 129) k + zcn (gbz Z 130) k + (1 + 0)))), (0, .ref (G.2.1 (113))), (1, .int (p0))]) C 1 dX5_count_207 rfl (nI_add k 1) (by rw [hN]; decide) rfl ?_
            refine j_goto (tgt := 169) C dX5_count_210 (by decide) ?_
            refine j_lv (lv' := [(3, .int (nI (k + 1))), (2, .int (nI (zcn (gbz Z 129) (k + 1) + zcn (gbz Z 130) (k + 1)))), (0, .ref (G.2.1 (113))), (1, .int (p0))]) (zn8 (by rw [zcn_t (show gbz Z 129 k = true from decide_eq_true c182), zcn_f (show gbz Z 130 k = false from decide_eq_false (fun q => q c196))]; omega)) ?_
            exact ih e8 (k + 1) (by omega) (by omega)
          ·
            refine j_iconst C (nI 1) dX5_count_199 (by decide) ?_
            refine j_goto (tgt := 204) C dX5_count_200 (by decide) ?_
            refine j_iadd C (nI (1 + 1)) dX5_count_204 (nI_add 1 1) ?_
            refine j_iadd C (nI (zcn (gbz Z 129) k + zcn (gbz Z 130) k + (1 + 1))) dX5_count_205 (nI_add (zcn (gbz Z 129) k + zcn (gbz Z 130) k) (1 + 1)) ?_
            refine j_istore_n (lv' := [(2, .int (nI (zcn (gbz Z 129) k + zcn (gbz Z 130) k + (1 + 1)))), (3, .int (nI k)), (0, .ref (G.2.1 (113))), (1, .int (p0))]) C dX5_count_206 rfl (by rw [hN]; decide) rfl ?_
            refine j_iinc (v := nI (k + 1)) (lv' := [(3, .int (nI (k + 1))), (2, .int (nI (zcn (gbz Z 129) k + zcn (gbz Z 130) k + (1 + 1)))), (0, .ref (G.2.1 (113))), (1, .int (p0))]) C 1 dX5_count_207 rfl (nI_add k 1) (by rw [hN]; decide) rfl ?_
            refine j_goto (tgt := 169) C dX5_count_210 (by decide) ?_
            refine j_lv (lv' := [(3, .int (nI (k + 1))), (2, .int (nI (zcn (gbz Z 129) (k + 1) + zcn (gbz Z 130) (k + 1)))), (0, .ref (G.2.1 (113))), (1, .int (p0))]) (zn8 (by rw [zcn_t (show gbz Z 129 k = true from decide_eq_true c182), zcn_t (show gbz Z 130 k = true from decide_eq_true c196)]; omega)) ?_
            exact ih e8 (k + 1) (by omega) (by omega)
  refine j_aload_n C 0 dX5_count_0 rfl rfl ?_
  refine j_iconst C (nI 0) dX5_count_1 (by decide) ?_
  refine j_putI C hD zK5 (zb_M hG) (zs_M hG) (f := 0) (by decide) rfl zk_X5_72 rfl rfl rfl rfl dX5_count_2 ?_
  refine j_Z hZi ?_
  refine j_iconst C (nI 0) dX5_count_5 (by decide) ?_
  refine j_istore_n (lv' := [(2, .int (nI 0)), (0, .ref (G.2.1 (113))), (1, .int (p0))]) C dX5_count_6 rfl (by rw [hN]; decide) rfl ?_
  refine j_iload_n C 2 dX5_count_7 rfl rfl ?_
  rcases zt10 (p0) with e8 | e8 | e8 | e8 | e8 | e8 | e8 | e8 | e8 | e8 | c8
  ·
    refine j_top e8 ?_
    refine j_tableIn (tgt := 64) C dX5_count_8 (by decide) (by decide) rfl (by decide) ?_
    refine j_aload_n C 1 dX5_count_64 rfl rfl ?_
    refine j_getI C zK5 (zb_M hG) (zs_M hG) (f := 1) (by decide) rfl zk_X5_75 rfl (nI np) hnp dX5_count_65 ?_
    refine j_iret C R dX5_count_68 ?_
    exact Or.inl ⟨e8, rfl, rfl⟩
  ·
    refine j_top e8 ?_
    refine j_tableIn (tgt := 69) C dX5_count_8 (by decide) (by decide) rfl (by decide) ?_
    refine j_aload_n C 1 dX5_count_69 rfl rfl ?_
    refine j_getI C zK5 (zb_M hG) (zs_M hG) (f := 2) (by decide) rfl zk_X5_7 rfl (Z 113 2) rfl dX5_count_70 ?_
    refine j_iret C R dX5_count_73 ?_
    exact Or.inr (Or.inl ⟨e8, rfl, rfl⟩)
  ·
    refine j_top e8 ?_
    refine j_tableIn (tgt := 74) C dX5_count_8 (by decide) (by decide) rfl (by decide) ?_
    refine j_aload_n C 1 dX5_count_74 rfl rfl ?_
    refine j_getI C zK5 (zb_M hG) (zs_M hG) (f := 14) (by decide) rfl zk_X5_130 rfl (Z 113 14) rfl dX5_count_75 ?_
    refine j_iret C R dX5_count_78 ?_
    exact Or.inr (Or.inr (Or.inl ⟨e8, rfl, rfl⟩))
  ·
    refine j_top e8 ?_
    refine j_tableIn (tgt := 79) C dX5_count_8 (by decide) (by decide) rfl (by decide) ?_
    refine j_aload_n C 1 dX5_count_79 rfl rfl ?_
    refine j_getI C zK5 (zb_M hG) (zs_M hG) (f := 22) (by decide) rfl zk_X5_112 rfl (Z 113 22) rfl dX5_count_80 ?_
    refine j_iret C R dX5_count_83 ?_
    exact Or.inr (Or.inr (Or.inr (Or.inl ⟨e8, rfl, rfl⟩)))
  ·
    refine j_top e8 ?_
    refine j_tableIn (tgt := 84) C dX5_count_8 (by decide) (by decide) rfl (by decide) ?_
    refine j_iconst C (nI 0) dX5_count_84 (by decide) ?_
    refine j_istore_n (lv' := [(3, .int (nI 0)), (2, .int (nI 0)), (0, .ref (G.2.1 (113))), (1, .int (p0))]) C dX5_count_85 rfl (by rw [hN]; decide) rfl ?_
    refine j_lv (lv' := [(3, .int (nI 0)), (2, .int (nI (zcn (gbz Z 122) 0))), (0, .ref (G.2.1 (113))), (1, .int (p0))]) rfl ?_
    exact L86 257 e8 0 (by omega) (by omega)
  ·
    refine j_top e8 ?_
    refine j_tableIn (tgt := 118) C dX5_count_8 (by decide) (by decide) rfl (by decide) ?_
    refine j_aload_n C 1 dX5_count_118 rfl rfl ?_
    refine j_getI C zK5 (zb_M hG) (zs_M hG) (f := 13) (by decide) rfl zk_X5_128 rfl (Z 113 13) rfl dX5_count_119 ?_
    refine j_iret C R dX5_count_122 ?_
    exact Or.inr (Or.inr (Or.inr (Or.inr (Or.inr (Or.inl ⟨e8, rfl, rfl⟩)))))
  ·
    refine j_top e8 ?_
    refine j_tableIn (tgt := 123) C dX5_count_8 (by decide) (by decide) rfl (by decide) ?_
    refine j_iconst C (nI 0) dX5_count_123 (by decide) ?_
    refine j_istore_n (lv' := [(3, .int (nI 0)), (2, .int (nI 0)), (0, .ref (G.2.1 (113))), (1, .int (p0))]) C dX5_count_124 rfl (by rw [hN]; decide) rfl ?_
    refine j_lv (lv' := [(3, .int (nI 0)), (2, .int (nI (zcn (dnM Z) 0))), (0, .ref (G.2.1 (113))), (1, .int (p0))]) rfl ?_
    exact L125 (np + 1) e8 0 (by omega) (by omega)
  ·
    refine j_top e8 ?_
    refine j_tableIn (tgt := 157) C dX5_count_8 (by decide) (by decide) rfl (by decide) ?_
    refine j_aload_n C 1 dX5_count_157 rfl rfl ?_
    refine j_getI C zK5 (zb_M hG) (zs_M hG) (f := 23) (by decide) rfl zk_X5_115 rfl (Z 113 23) rfl dX5_count_158 ?_
    refine j_iret C R dX5_count_161 ?_
    exact Or.inr (Or.inr (Or.inr (Or.inr (Or.inr (Or.inr (Or.inr (Or.inl ⟨e8, rfl, rfl⟩)))))))
  ·
    refine j_top e8 ?_
    refine j_tableIn (tgt := 162) C dX5_count_8 (by decide) (by decide) rfl (by decide) ?_
    refine j_aload_n C 1 dX5_count_162 rfl rfl ?_
    refine j_getI C zK5 (zb_M hG) (zs_M hG) (f := 24) (by decide) rfl zk_X5_125 rfl (Z 113 24) rfl dX5_count_163 ?_
    refine j_iret C R dX5_count_166 ?_
    exact Or.inr (Or.inr (Or.inr (Or.inr (Or.inr (Or.inr (Or.inr (Or.inr (Or.inl ⟨e8, rfl, rfl⟩))))))))
  ·
    refine j_top e8 ?_
    refine j_tableIn (tgt := 167) C dX5_count_8 (by decide) (by decide) rfl (by decide) ?_
    refine j_iconst C (nI 0) dX5_count_167 (by decide) ?_
    refine j_istore_n (lv' := [(3, .int (nI 0)), (2, .int (nI 0)), (0, .ref (G.2.1 (113))), (1, .int (p0))]) C dX5_count_168 rfl (by rw [hN]; decide) rfl ?_
    refine j_lv (lv' := [(3, .int (nI 0)), (2, .int (nI (zcn (gbz Z 129) 0 + zcn (gbz Z 130) 0))), (0, .ref (G.2.1 (113))), (1, .int (p0))]) rfl ?_
    exact L169 65 e8 0 (by omega) (by omega)
  ·
    refine j_tableOut (tgt := 215) C dX5_count_8 c8 (by decide) ?_
    refine j_bipush C (-12) dX5_count_215 (by decide) ?_
    refine j_iret C R dX5_count_217 ?_
    exact Or.inr (Or.inr (Or.inr (Or.inr (Or.inr (Or.inr (Or.inr (Or.inr (Or.inr (Or.inr ⟨c8, rfl, rfl⟩)))))))))
theorem zf2_s {Z : ZT} {k : Nat} {v : Int32} : zu (zu (zfill (zfill Z 129 k v) 130 k v) 129 k v) 130 k v = zfill (zfill Z 129 (k + 1) v) 130 (k + 1) v := by
  funext a b
  simp only [zu, zfill]
  repeat' split
  all_goals first | rfl | (exfalso; omega) | (simp_all; done) | (congr 1; omega) | (congr 2; omega)
set_option maxRecDepth 100000 in
set_option maxHeartbeats 4000000 in
theorem kX5_clear {l : Launch} {D : va_G} {Y : YT} {b0 : Nat} {G : GT} (hD : GD b0 G) (hG : Gok 132 G) {Z : ZT} {Zi : ZT} (hZi : zu Zi 113 0 (nI 0) = Z) {np : Nat} (hnp : Z 113 1 = nI np) (hnp12 : np ≤ 12) : CI l D Y b0 G yX5_clear cX5_clear 3 (some .int) 1 [.ref (G.2.1 (113))] Zi (fun r Z' => r = nI np ∧ Z' = (zfill (zu (zfill (zfill (zfill (zu (zu (zu (zu (zu (zu Z (113) (1) (nI 0)) (113) (2) (nI 1)) (113) (14) (nI 0)) (113) (22) (nI 0)) (113) (23) (nI 0)) (113) (24) (nI 0)) (129) (64) (nI 0)) (130) (64) (nI 0)) (122) (256) (nI 0)) (113) (13) (nI 0)) (131) (5) (-1))) := by
  refine ci_start (lv0 := [(0, .ref (G.2.1 (113)))]) hD rfl rfl (Nat.le_of_ble_eq_true rfl) rfl ?_
  intro E C R hR hD hN
  have L42 : ∀ (n : Nat) (k : Nat), 64 + 1 ≤ k + n → k ≤ 64 → J E 0 0 G 42 [(2, .int (nI k)), (1, .int (nI np)), (0, .ref (G.2.1 (113)))] [] (zfill (zfill (zu (zu (zu (zu (zu (zu Z (113) (1) (nI 0)) (113) (2) (nI 1)) (113) (14) (nI 0)) (113) (22) (nI 0)) (113) (23) (nI 0)) (113) (24) (nI 0)) (129) (k) (nI 0)) (130) (k) (nI 0)) := by
    intro n
    induction n with
    | zero => intro k hn hk; exact absurd hn (by omega)
    | succ n ih =>
      intro k hn hk
      refine j_iload_n C 0 dX5_clear_42 rfl rfl ?_
      refine j_bipush C (nI 64) dX5_clear_43 (by decide) ?_
      refine j_icmp_ge (tgt := 68) (a := ((k : Nat) : Int)) (b := ((64 : Nat) : Int)) C (nI_toInt (by omega)) (nI_toInt (by omega)) dX5_clear_45 (by decide) (fun c45 => ?_) (fun c45 => ?_)
      ·
        have e9 : k = 64 := by omega
        refine j_Z (Z' := (zfill (zfill (zu (zu (zu (zu (zu (zu Z (113) (1) (nI 0)) (113) (2) (nI 1)) (113) (14) (nI 0)) (113) (22) (nI 0)) (113) (23) (nI 0)) (113) (24) (nI 0)) (129) (64) (nI 0)) (130) (64) (nI 0))) (by rw [e9]) ?_
        refine j_lv (lv' := [(2, .int (nI 64)), (1, .int (nI np)), (0, .ref (G.2.1 (113)))]) (by rw [e9]) ?_
        refine j_aload_n C 2 dX5_clear_68 rfl rfl ?_
        refine j_callV C hR (kX5_givesNone hD hG) [] zmX5_givesNone zk_X5_133 zK5 (zb_M hG) (zs_M hG) (by decide) rfl rfl (Nat.le_of_ble_eq_true rfl) dX5_clear_69 (fun Z69 h69 => ?_)
        refine j_Z (Z' := (zu (zfill (zfill (zfill (zu (zu (zu (zu (zu (zu Z (113) (1) (nI 0)) (113) (2) (nI 1)) (113) (14) (nI 0)) (113) (22) (nI 0)) (113) (23) (nI 0)) (113) (24) (nI 0)) (129) (64) (nI 0)) (130) (64) (nI 0)) (122) (256) (nI 0)) (113) (13) (nI 0))) h69 ?_
        refine j_aload_n C 2 dX5_clear_72 rfl rfl ?_
        refine j_callV C hR (kX5_forgets hD hG) [] zmX5_forgets zk_X5_69 zK5 (zb_M hG) (zs_M hG) (by decide) rfl rfl (Nat.le_of_ble_eq_true rfl) dX5_clear_73 (fun Z73 h73 => ?_)
        refine j_Z (Z' := (zfill (zu (zfill (zfill (zfill (zu (zu (zu (zu (zu (zu Z (113) (1) (nI 0)) (113) (2) (nI 1)) (113) (14) (nI 0)) (113) (22) (nI 0)) (113) (23) (nI 0)) (113) (24) (nI 0)) (129) (64) (nI 0)) (130) (64) (nI 0)) (122) (256) (nI 0)) (113) (13) (nI 0)) (131) (5) (-1))) h73 ?_
        refine j_iload_n C 1 dX5_clear_76 rfl rfl ?_
        refine j_iret C R dX5_clear_77 ?_
        exact ⟨rfl, rfl⟩
      ·
        refine j_aload_n C 2 dX5_clear_48 rfl rfl ?_
        refine j_getR C zK5 (zb_M hG) (zs_M hG) (f := 20) (by decide) rfl zk_X5_60 rfl (zf_M_20 hG) dX5_clear_49 ?_
        refine j_iload_n C 0 dX5_clear_52 rfl rfl ?_
        refine j_iconst C (nI 0) dX5_clear_53 (by decide) ?_
        refine j_zast C hD (zb_rLos hG) (zs_rLos hG) (zl_rLos hG) rfl (by omega) (by decide) (by decide) dX5_clear_54 ?_
        refine j_aload_n C 2 dX5_clear_55 rfl rfl ?_
        refine j_getR C zK5 (zb_M hG) (zs_M hG) (f := 21) (by decide) rfl zk_X5_63 rfl (zf_M_21 hG) dX5_clear_56 ?_
        refine j_iload_n C 0 dX5_clear_59 rfl rfl ?_
        refine j_iconst C (nI 0) dX5_clear_60 (by decide) ?_
        refine j_zast C hD (zb_rTwi hG) (zs_rTwi hG) (zl_rTwi hG) rfl (by omega) (by decide) (by decide) dX5_clear_61 ?_
        refine j_iinc (v := nI (k + 1)) (lv' := [(2, .int (nI (k + 1))), (1, .int (nI np)), (0, .ref (G.2.1 (113)))]) C 0 dX5_clear_62 rfl (nI_add k 1) (by rw [hN]; decide) rfl ?_
        refine j_goto (tgt := 42) C dX5_clear_65 (by decide) ?_
        refine j_Z (Z' := (zfill (zfill (zu (zu (zu (zu (zu (zu Z (113) (1) (nI 0)) (113) (2) (nI 1)) (113) (14) (nI 0)) (113) (22) (nI 0)) (113) (23) (nI 0)) (113) (24) (nI 0)) (129) (k + 1) (nI 0)) (130) (k + 1) (nI 0))) zf2_s ?_
        exact ih (k + 1) (by omega) (by omega)
  refine j_aload_n C 0 dX5_clear_0 rfl rfl ?_
  refine j_iconst C (nI 0) dX5_clear_1 (by decide) ?_
  refine j_putI C hD zK5 (zb_M hG) (zs_M hG) (f := 0) (by decide) rfl zk_X5_72 rfl rfl rfl rfl dX5_clear_2 ?_
  refine j_Z hZi ?_
  refine j_aload_n C 0 dX5_clear_5 rfl rfl ?_
  refine j_getI C zK5 (zb_M hG) (zs_M hG) (f := 1) (by decide) rfl zk_X5_75 rfl (nI np) hnp dX5_clear_6 ?_
  refine j_istore_n (lv' := [(1, .int (nI np)), (0, .ref (G.2.1 (113)))]) C dX5_clear_9 rfl (by rw [hN]; decide) rfl ?_
  refine j_aload_n C 1 dX5_clear_10 rfl rfl ?_
  refine j_iconst C (nI 0) dX5_clear_11 (by decide) ?_
  refine j_putI C hD zK5 (zb_M hG) (zs_M hG) (f := 1) (by decide) rfl zk_X5_75 rfl rfl rfl rfl dX5_clear_12 ?_
  refine j_aload_n C 1 dX5_clear_15 rfl rfl ?_
  refine j_iconst C (nI 1) dX5_clear_16 (by decide) ?_
  refine j_putI C hD zK5 (zb_M hG) (zs_M hG) (f := 2) (by decide) rfl zk_X5_7 rfl rfl rfl rfl dX5_clear_17 ?_
  refine j_aload_n C 1 dX5_clear_20 rfl rfl ?_
  refine j_iconst C (nI 0) dX5_clear_21 (by decide) ?_
  refine j_putI C hD zK5 (zb_M hG) (zs_M hG) (f := 14) (by decide) rfl zk_X5_130 rfl rfl rfl rfl dX5_clear_22 ?_
  refine j_aload_n C 1 dX5_clear_25 rfl rfl ?_
  refine j_iconst C (nI 0) dX5_clear_26 (by decide) ?_
  refine j_putI C hD zK5 (zb_M hG) (zs_M hG) (f := 22) (by decide) rfl zk_X5_112 rfl rfl rfl rfl dX5_clear_27 ?_
  refine j_aload_n C 1 dX5_clear_30 rfl rfl ?_
  refine j_iconst C (nI 0) dX5_clear_31 (by decide) ?_
  refine j_putI C hD zK5 (zb_M hG) (zs_M hG) (f := 23) (by decide) rfl zk_X5_115 rfl rfl rfl rfl dX5_clear_32 ?_
  refine j_aload_n C 1 dX5_clear_35 rfl rfl ?_
  refine j_iconst C (nI 0) dX5_clear_36 (by decide) ?_
  refine j_putI C hD zK5 (zb_M hG) (zs_M hG) (f := 24) (by decide) rfl zk_X5_125 rfl rfl rfl rfl dX5_clear_37 ?_
  refine j_iconst C (nI 0) dX5_clear_40 (by decide) ?_
  refine j_istore_n (lv' := [(2, .int (nI 0)), (1, .int (nI np)), (0, .ref (G.2.1 (113)))]) C dX5_clear_41 rfl (by rw [hN]; decide) rfl ?_
  refine j_Z (Z' := (zfill (zfill (zu (zu (zu (zu (zu (zu Z (113) (1) (nI 0)) (113) (2) (nI 1)) (113) (14) (nI 0)) (113) (22) (nI 0)) (113) (23) (nI 0)) (113) (24) (nI 0)) (129) (0) (nI 0)) (130) (0) (nI 0))) (by rw [zfill_0, zfill_0]) ?_
  exact L42 65 0 (by omega) (by omega)
