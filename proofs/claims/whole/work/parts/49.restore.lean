set_option maxRecDepth 100000 in
set_option maxHeartbeats 4000000 in
theorem kX4_restoreB {l : Launch} {D : va_G} {Y : YT} {b0 : Nat} {G : GT} (hD : GD b0 G) (hG : Gok 113 G) {Z : ZT} {np : Nat} (hnp : Z 0 5 = nI np) (hnp12 : np ≤ 12) {nm : Nat} (hnm : Z 0 6 = nI nm) (hnm6 : nm ≤ 6) {nt : Int32} {ntI : Int} (hnt : Z 0 7 = nt) (hntI : nt.toInt = ntI) (hkps : ∀ m, m < nm → ∃ kp : Nat, Z (59 + 9 * m) 5 = nI kp ∧ kp ≤ 12) (hmz : ∀ m, m < nm → ∀ b, b < 256 → Z (65 + 9 * m) b = 0 ∨ Z (65 + 9 * m) b = 1) (p0 : Int32) : CI l D Y b0 G yX4_restore cX4_restore 6 (some .int) 3 [.ref (G.2.1 (0)), .int (p0)] Z (fun r Z' => ((p0.toInt < 0 ∨ (nm : Int) ≤ p0.toInt) ∧ r = (-11) ∧ Z' = Z) ∨ ∃ m : Nat, m < nm ∧ p0 = nI m ∧ ∃ kp : Nat, kp ≤ 12 ∧ Z (59 + 9 * m) 5 = nI kp ∧ r = nI (zcn (mvC Z m kp ntI) np) ∧ Z' = (zu (zu (zcpy (zcpy (zcpy (zpf Z np (rsC Z m kp ntI) [5, 6, 7, 9]) (65 + 9 * m) (4) (256)) (66 + 9 * m) (5) (100)) (67 + 9 * m) (6) (100)) (3) (3) (Z (64 + 9 * m) 3)) (3) (4) (Z (64 + 9 * m) 4))) := by
  refine ci_start (lv0 := [(0, .ref (G.2.1 (0))), (1, .int (p0))]) hD rfl rfl (Nat.le_of_ble_eq_true rfl) rfl ?_
  intro E C R hR hD hN
  have L27 : ∀ (n : Nat) (m kp : Nat) (hm : m < nm) (hpm : p0 = nI m) (hkp : Z (59 + 9 * m) 5 = nI kp) (hkp12 : kp ≤ 12) (k : Nat), np + 1 ≤ k + n → k ≤ np → J E 0 0 G 27 [(4, .int (nI k)), (3, .int (nI (zcn (mvC Z m kp ntI) k))), (0, .ref (G.2.1 (0))), (1, .int (nI m)), (2, .ref (G.2.1 (59 + 9 * m)))] [] (zpf Z (k) (rsC Z m kp ntI) [5, 6, 7, 9]) := by
    intro n
    induction n with
    | zero => intro m kp hm hpm hkp hkp12 k hn hk; exact absurd hn (by omega)
    | succ n ih =>
      intro m kp hm hpm hkp hkp12 k hn hk
      have z00 : (nI 0).toInt = 0 := rfl
      refine j_iload C 0 dX4_restore_27 rfl ?_
      refine j_aload_n C 2 dX4_restore_29 rfl rfl ?_
      refine j_getI C zK4 (zb_X hG) (zs_X hG) (f := 5) (by decide) rfl zk_X4_44 rfl (nI np) ((zpf_o (by omega)).trans (hnp)) dX4_restore_30 ?_
      refine j_icmp_ge (tgt := 89) (a := ((k : Nat) : Int)) (b := ((np : Nat) : Int)) C (nI_toInt (by omega)) (nI_toInt (by omega)) dX4_restore_33 (by decide) (fun c33 => ?_) (fun c33 => ?_)
      ·
        have e9 : k = np := by omega
        refine j_Z (Z' := (zpf Z np (rsC Z m kp ntI) [5, 6, 7, 9])) (by rw [e9]) ?_
        refine j_lv (lv' := [(4, .int (nI np)), (3, .int (nI (zcn (mvC Z m kp ntI) np))), (0, .ref (G.2.1 (0))), (1, .int (nI m)), (2, .ref (G.2.1 (59 + 9 * m)))]) (by rw [e9]) ?_
        refine j_aload_n C 2 dX4_restore_89 rfl rfl ?_
        refine j_getR C zK4 (zb_X hG) (zs_X hG) (f := 2) (by decide) rfl zk_X4_24 rfl (zf_X_2 hG) dX4_restore_90 ?_
        refine j_aload_n C 4 dX4_restore_93 rfl rfl ?_
        refine j_getRN C zK2 (zb_Mark hG (by omega)) (zs_Mark hG (by omega)) (f := 4) (by decide) rfl zk_X4_121 rfl (zf_Mark_4 hG (by omega)) dX4_restore_94 ?_
        refine j_callVN C hR (kX1_copyFromX hD hG (j := m) (by omega) (gc := Z (64 + 9 * m) 3) (ac := Z (64 + 9 * m) 4) (zpf_o (by omega)) (zpf_o (by omega)) (fun b hb => by rw [zpf_o (by omega)]; exact hmz m hm b hb)) [] zmX1_copyFrom zk_X4_122 zK1 (zb_Fin hG) (zs_Fin hG) (by decide) rfl rfl (Nat.le_of_ble_eq_true rfl) dX4_restore_97 (fun Z97 h97 => ?_)
        refine j_Z (Z' := (zu (zu (zcpy (zcpy (zcpy (zpf Z np (rsC Z m kp ntI) [5, 6, 7, 9]) (65 + 9 * m) (4) (256)) (66 + 9 * m) (5) (100)) (67 + 9 * m) (6) (100)) (3) (3) (Z (64 + 9 * m) 3)) (3) (4) (Z (64 + 9 * m) 4))) h97 ?_
        refine j_iload_n C 1 dX4_restore_100 rfl rfl ?_
        refine j_iret C R dX4_restore_101 ?_
        exact Or.inr ⟨m, hm, hpm, kp, hkp12, hkp, rfl, rfl⟩
      ·
        refine j_aload_n C 2 dX4_restore_36 rfl rfl ?_
        refine j_getR C zK4 (zb_X hG) (zs_X hG) (f := 0) (by decide) rfl zk_X4_11 rfl (zf_X_0 hG) dX4_restore_37 ?_
        refine j_iload C 0 dX4_restore_40 rfl ?_
        refine j_aldP C (zb_Pts hG) (zs_Pts hG) (zl_Pts hG) rfl (by omega) (by decide) (zf_Pts hG (by omega)) dX4_restore_42 ?_
        refine j_getIN C zK3 (zb_Part hG (by omega)) (zs_Part hG (by omega)) (f := 5) (by decide) rfl zk_X4_76 rfl (Z (11 + 4 * k) (5)) (zpf_o (by omega)) dX4_restore_43 ?_
        refine j_istore (lv' := [(5, .int (Z (11 + 4 * k) (5))), (4, .int (nI k)), (3, .int (nI (zcn (mvC Z m kp ntI) k))), (0, .ref (G.2.1 (0))), (1, .int (nI m)), (2, .ref (G.2.1 (59 + 9 * m)))]) C dX4_restore_46 (by rw [hN]; decide) rfl ?_
        refine j_aload_n C 5 dX4_restore_48 rfl rfl ?_
        refine j_iload C 1 dX4_restore_49 rfl ?_
        refine j_aload_n C 3 dX4_restore_51 rfl rfl ?_
        refine j_getR C zK4 (zb_X hG) (zs_X hG) (f := 0) (by decide) rfl zk_X4_11 rfl (zf_X_0 hG) dX4_restore_52 ?_
        refine j_iload C 1 dX4_restore_55 rfl ?_
        refine j_aldP C (zb_Pts hG) (zs_Pts hG) (zl_Pts hG) rfl (by omega) (by decide) (zf_Pts hG (by omega)) dX4_restore_57 ?_
        refine j_aload_n C 3 dX4_restore_58 rfl rfl ?_
        refine j_getI C zK4 (zb_X hG) (zs_X hG) (f := 7) (by decide) rfl zk_X4_114 rfl (nt) ((zpf_o (by omega)).trans (hnt)) dX4_restore_59 ?_
        refine j_callVN C hR (kX2_bringBack hD hG (m := m) (i := k) (kp := kp) (by omega) (by omega) ((zpf_o (by omega)).trans (hkp)) (by omega) (po := Z (60 + 9 * m) k) (wa := Z (61 + 9 * m) k) (cr := Z (62 + 9 * m) k) (re := Z (63 + 9 * m) k) (reI := (Z (63 + 9 * m) k).toInt) (zpf_o (by omega)) (zpf_o (by omega)) (zpf_o (by omega)) (zpf_o (by omega)) rfl (nt := nt) (ntI := ntI) hntI) [] zmX2_bringBack zk_X4_117 zK2 (zb_Mark hG (by omega)) (zs_Mark hG (by omega)) (by decide) rfl rfl (Nat.le_of_ble_eq_true rfl) dX4_restore_62 (fun Z62 h62 => ?_)
        rcases h62 with ⟨q1, e62⟩ | ⟨q1, q2, e62⟩ | ⟨q1, q2, e62⟩
        ·
          refine j_Z (Z' := (zu (zu (zu (zu (zpf Z (k) (rsC Z m kp ntI) [5, 6, 7, 9]) (11 + 4 * k) (5) (nI 0)) (11 + 4 * k) (6) (-1)) (11 + 4 * k) (7) (nI 0)) (11 + 4 * k) (9) (-1))) e62 ?_
          have r5 : nI 0 = rsC Z m kp ntI k 5 := by simp [rsC, show ¬ k < kp by omega]
          have r6 : -1 = rsC Z m kp ntI k 6 := by simp [rsC, show ¬ k < kp by omega]
          have r7 : nI 0 = rsC Z m kp ntI k 7 := by simp [rsC, show ¬ k < kp by omega]
          have r9 : -1 = rsC Z m kp ntI k 9 := by simp [rsC, show ¬ k < kp by omega]
          refine j_aload_n C 3 dX4_restore_65 rfl rfl ?_
          refine j_getR C zK4 (zb_X hG) (zs_X hG) (f := 0) (by decide) rfl zk_X4_11 rfl (zf_X_0 hG) dX4_restore_66 ?_
          refine j_iload C 1 dX4_restore_69 rfl ?_
          refine j_aldP C (zb_Pts hG) (zs_Pts hG) (zl_Pts hG) rfl (by omega) (by decide) (zf_Pts hG (by omega)) dX4_restore_71 ?_
          refine j_getIN C zK3 (zb_Part hG (by omega)) (zs_Part hG (by omega)) (f := 5) (by decide) rfl zk_X4_76 rfl (nI 0) ((zu_o (by omega)).trans ((zu_o (by omega)).trans ((zu_o (by omega)).trans (zu_s)))) dX4_restore_72 ?_
          refine j_iload C 0 dX4_restore_75 rfl ?_
          refine j_icmp_eq (tgt := 83) (a := ((0 : Nat) : Int)) (b := (Z (11 + 4 * k) (5)).toInt) C (nI_toInt (by omega)) rfl dX4_restore_77 (by decide) (fun c77 => ?_) (fun c77 => ?_)
          ·
            refine j_iinc (v := nI (k + 1)) (lv' := [(4, .int (nI (k + 1))), (5, .int (Z (11 + 4 * k) (5))), (3, .int (nI (zcn (mvC Z m kp ntI) k))), (0, .ref (G.2.1 (0))), (1, .int (nI m)), (2, .ref (G.2.1 (59 + 9 * m)))]) C 1 dX4_restore_83 rfl (nI_add k 1) (by rw [hN]; decide) rfl ?_
            refine j_goto (tgt := 27) C dX4_restore_86 (by decide) ?_
            refine j_sub (lv' := [(4, .int (nI (k + 1))), (3, .int (nI (zcn (mvC Z m kp ntI) k))), (0, .ref (G.2.1 (0))), (1, .int (nI m)), (2, .ref (G.2.1 (59 + 9 * m)))]) [0, 2, 3, 4, 5] rfl ?_
            refine j_lv (lv' := [(4, .int (nI (k + 1))), (3, .int (nI (zcn (mvC Z m kp ntI) (k + 1)))), (0, .ref (G.2.1 (0))), (1, .int (nI m)), (2, .ref (G.2.1 (59 + 9 * m)))]) (by rw [zcn_f (show mvC Z m kp ntI k = false from decide_eq_false (by rw [← r5]; omega))]) ?_
            refine j_Z (Z' := (zpf Z (k + 1) (rsC Z m kp ntI) [5, 6, 7, 9])) (rs_s rfl r5 r6 r7 r9) ?_
            exact ih m kp hm hpm hkp hkp12 (k + 1) (by omega) (by omega)
          ·
            refine j_iinc (v := nI (zcn (mvC Z m kp ntI) k + 1)) (lv' := [(3, .int (nI (zcn (mvC Z m kp ntI) k + 1))), (5, .int (Z (11 + 4 * k) (5))), (4, .int (nI k)), (0, .ref (G.2.1 (0))), (1, .int (nI m)), (2, .ref (G.2.1 (59 + 9 * m)))]) C 2 dX4_restore_80 rfl (nI_add (zcn (mvC Z m kp ntI) k) 1) (by rw [hN]; decide) rfl ?_
            refine j_iinc (v := nI (k + 1)) (lv' := [(4, .int (nI (k + 1))), (3, .int (nI (zcn (mvC Z m kp ntI) k + 1))), (5, .int (Z (11 + 4 * k) (5))), (0, .ref (G.2.1 (0))), (1, .int (nI m)), (2, .ref (G.2.1 (59 + 9 * m)))]) C 2 dX4_restore_83 rfl (nI_add k 1) (by rw [hN]; decide) rfl ?_
            refine j_goto (tgt := 27) C dX4_restore_86 (by decide) ?_
            refine j_sub (lv' := [(4, .int (nI (k + 1))), (3, .int (nI (zcn (mvC Z m kp ntI) k + 1))), (0, .ref (G.2.1 (0))), (1, .int (nI m)), (2, .ref (G.2.1 (59 + 9 * m)))]) [0, 1, 3, 4, 5] rfl ?_
            refine j_lv (lv' := [(4, .int (nI (k + 1))), (3, .int (nI (zcn (mvC Z m kp ntI) (k + 1)))), (0, .ref (G.2.1 (0))), (1, .int (nI m)), (2, .ref (G.2.1 (59 + 9 * m)))]) (by rw [zcn_t (show mvC Z m kp ntI k = true from decide_eq_true (by rw [← r5]; omega))]) ?_
            refine j_Z (Z' := (zpf Z (k + 1) (rsC Z m kp ntI) [5, 6, 7, 9])) (rs_s rfl r5 r6 r7 r9) ?_
            exact ih m kp hm hpm hkp hkp12 (k + 1) (by omega) (by omega)
        ·
          refine j_Z (Z' := (zu (zu (zu (zu (zpf Z (k) (rsC Z m kp ntI) [5, 6, 7, 9]) (11 + 4 * k) (5) (Z (60 + 9 * m) k)) (11 + 4 * k) (6) (Z (61 + 9 * m) k)) (11 + 4 * k) (7) (Z (62 + 9 * m) k)) (11 + 4 * k) (9) (Z (63 + 9 * m) k))) e62 ?_
          have r5 : Z (60 + 9 * m) k = rsC Z m kp ntI k 5 := by simp [rsC, q1, q2]
          have r6 : Z (61 + 9 * m) k = rsC Z m kp ntI k 6 := by simp [rsC, q1, q2]
          have r7 : Z (62 + 9 * m) k = rsC Z m kp ntI k 7 := by simp [rsC, q1, q2]
          have r9 : Z (63 + 9 * m) k = rsC Z m kp ntI k 9 := by simp [rsC, q1, q2]
          refine j_aload_n C 3 dX4_restore_65 rfl rfl ?_
          refine j_getR C zK4 (zb_X hG) (zs_X hG) (f := 0) (by decide) rfl zk_X4_11 rfl (zf_X_0 hG) dX4_restore_66 ?_
          refine j_iload C 1 dX4_restore_69 rfl ?_
          refine j_aldP C (zb_Pts hG) (zs_Pts hG) (zl_Pts hG) rfl (by omega) (by decide) (zf_Pts hG (by omega)) dX4_restore_71 ?_
          refine j_getIN C zK3 (zb_Part hG (by omega)) (zs_Part hG (by omega)) (f := 5) (by decide) rfl zk_X4_76 rfl (Z (60 + 9 * m) k) ((zu_o (by omega)).trans ((zu_o (by omega)).trans ((zu_o (by omega)).trans (zu_s)))) dX4_restore_72 ?_
          refine j_iload C 0 dX4_restore_75 rfl ?_
          refine j_icmp_eq (tgt := 83) (a := (Z (60 + 9 * m) k).toInt) (b := (Z (11 + 4 * k) (5)).toInt) C rfl rfl dX4_restore_77 (by decide) (fun c77 => ?_) (fun c77 => ?_)
          ·
            refine j_iinc (v := nI (k + 1)) (lv' := [(4, .int (nI (k + 1))), (5, .int (Z (11 + 4 * k) (5))), (3, .int (nI (zcn (mvC Z m kp ntI) k))), (0, .ref (G.2.1 (0))), (1, .int (nI m)), (2, .ref (G.2.1 (59 + 9 * m)))]) C 1 dX4_restore_83 rfl (nI_add k 1) (by rw [hN]; decide) rfl ?_
            refine j_goto (tgt := 27) C dX4_restore_86 (by decide) ?_
            refine j_sub (lv' := [(4, .int (nI (k + 1))), (3, .int (nI (zcn (mvC Z m kp ntI) k))), (0, .ref (G.2.1 (0))), (1, .int (nI m)), (2, .ref (G.2.1 (59 + 9 * m)))]) [0, 2, 3, 4, 5] rfl ?_
            refine j_lv (lv' := [(4, .int (nI (k + 1))), (3, .int (nI (zcn (mvC Z m kp ntI) (k + 1)))), (0, .ref (G.2.1 (0))), (1, .int (nI m)), (2, .ref (G.2.1 (59 + 9 * m)))]) (by rw [zcn_f (show mvC Z m kp ntI k = false from decide_eq_false (by rw [← r5]; omega))]) ?_
            refine j_Z (Z' := (zpf Z (k + 1) (rsC Z m kp ntI) [5, 6, 7, 9])) (rs_s rfl r5 r6 r7 r9) ?_
            exact ih m kp hm hpm hkp hkp12 (k + 1) (by omega) (by omega)
          ·
            refine j_iinc (v := nI (zcn (mvC Z m kp ntI) k + 1)) (lv' := [(3, .int (nI (zcn (mvC Z m kp ntI) k + 1))), (5, .int (Z (11 + 4 * k) (5))), (4, .int (nI k)), (0, .ref (G.2.1 (0))), (1, .int (nI m)), (2, .ref (G.2.1 (59 + 9 * m)))]) C 2 dX4_restore_80 rfl (nI_add (zcn (mvC Z m kp ntI) k) 1) (by rw [hN]; decide) rfl ?_
            refine j_iinc (v := nI (k + 1)) (lv' := [(4, .int (nI (k + 1))), (3, .int (nI (zcn (mvC Z m kp ntI) k + 1))), (5, .int (Z (11 + 4 * k) (5))), (0, .ref (G.2.1 (0))), (1, .int (nI m)), (2, .ref (G.2.1 (59 + 9 * m)))]) C 2 dX4_restore_83 rfl (nI_add k 1) (by rw [hN]; decide) rfl ?_
            refine j_goto (tgt := 27) C dX4_restore_86 (by decide) ?_
            refine j_sub (lv' := [(4, .int (nI (k + 1))), (3, .int (nI (zcn (mvC Z m kp ntI) k + 1))), (0, .ref (G.2.1 (0))), (1, .int (nI m)), (2, .ref (G.2.1 (59 + 9 * m)))]) [0, 1, 3, 4, 5] rfl ?_
            refine j_lv (lv' := [(4, .int (nI (k + 1))), (3, .int (nI (zcn (mvC Z m kp ntI) (k + 1)))), (0, .ref (G.2.1 (0))), (1, .int (nI m)), (2, .ref (G.2.1 (59 + 9 * m)))]) (by rw [zcn_t (show mvC Z m kp ntI k = true from decide_eq_true (by rw [← r5]; omega))]) ?_
            refine j_Z (Z' := (zpf Z (k + 1) (rsC Z m kp ntI) [5, 6, 7, 9])) (rs_s rfl r5 r6 r7 r9) ?_
            exact ih m kp hm hpm hkp hkp12 (k + 1) (by omega) (by omega)
        ·
          refine j_Z (Z' := (zu (zu (zu (zu (zpf Z (k) (rsC Z m kp ntI) [5, 6, 7, 9]) (11 + 4 * k) (5) (Z (60 + 9 * m) k)) (11 + 4 * k) (6) (Z (61 + 9 * m) k)) (11 + 4 * k) (7) (Z (62 + 9 * m) k)) (11 + 4 * k) (9) (-1))) e62 ?_
          have r5 : Z (60 + 9 * m) k = rsC Z m kp ntI k 5 := by simp [rsC, q1, show ¬ (Z (63 + 9 * m) k).toInt < ntI by omega]
          have r6 : Z (61 + 9 * m) k = rsC Z m kp ntI k 6 := by simp [rsC, q1, show ¬ (Z (63 + 9 * m) k).toInt < ntI by omega]
          have r7 : Z (62 + 9 * m) k = rsC Z m kp ntI k 7 := by simp [rsC, q1, show ¬ (Z (63 + 9 * m) k).toInt < ntI by omega]
          have r9 : -1 = rsC Z m kp ntI k 9 := by simp [rsC, q1, show ¬ (Z (63 + 9 * m) k).toInt < ntI by omega]
          refine j_aload_n C 3 dX4_restore_65 rfl rfl ?_
          refine j_getR C zK4 (zb_X hG) (zs_X hG) (f := 0) (by decide) rfl zk_X4_11 rfl (zf_X_0 hG) dX4_restore_66 ?_
          refine j_iload C 1 dX4_restore_69 rfl ?_
          refine j_aldP C (zb_Pts hG) (zs_Pts hG) (zl_Pts hG) rfl (by omega) (by decide) (zf_Pts hG (by omega)) dX4_restore_71 ?_
          refine j_getIN C zK3 (zb_Part hG (by omega)) (zs_Part hG (by omega)) (f := 5) (by decide) rfl zk_X4_76 rfl (Z (60 + 9 * m) k) ((zu_o (by omega)).trans ((zu_o (by omega)).trans ((zu_o (by omega)).trans (zu_s)))) dX4_restore_72 ?_
          refine j_iload C 0 dX4_restore_75 rfl ?_
          refine j_icmp_eq (tgt := 83) (a := (Z (60 + 9 * m) k).toInt) (b := (Z (11 + 4 * k) (5)).toInt) C rfl rfl dX4_restore_77 (by decide) (fun c77 => ?_) (fun c77 => ?_)
          ·
            refine j_iinc (v := nI (k + 1)) (lv' := [(4, .int (nI (k + 1))), (5, .int (Z (11 + 4 * k) (5))), (3, .int (nI (zcn (mvC Z m kp ntI) k))), (0, .ref (G.2.1 (0))), (1, .int (nI m)), (2, .ref (G.2.1 (59 + 9 * m)))]) C 1 dX4_restore_83 rfl (nI_add k 1) (by rw [hN]; decide) rfl ?_
            refine j_goto (tgt := 27) C dX4_restore_86 (by decide) ?_
            refine j_sub (lv' := [(4, .int (nI (k + 1))), (3, .int (nI (zcn (mvC Z m kp ntI) k))), (0, .ref (G.2.1 (0))), (1, .int (nI m)), (2, .ref (G.2.1 (59 + 9 * m)))]) [0, 2, 3, 4, 5] rfl ?_
            refine j_lv (lv' := [(4, .int (nI (k + 1))), (3, .int (nI (zcn (mvC Z m kp ntI) (k + 1)))), (0, .ref (G.2.1 (0))), (1, .int (nI m)), (2, .ref (G.2.1 (59 + 9 * m)))]) (by rw [zcn_f (show mvC Z m kp ntI k = false from decide_eq_false (by rw [← r5]; omega))]) ?_
            refine j_Z (Z' := (zpf Z (k + 1) (rsC Z m kp ntI) [5, 6, 7, 9])) (rs_s rfl r5 r6 r7 r9) ?_
            exact ih m kp hm hpm hkp hkp12 (k + 1) (by omega) (by omega)
          ·
            refine j_iinc (v := nI (zcn (mvC Z m kp ntI) k + 1)) (lv' := [(3, .int (nI (zcn (mvC Z m kp ntI) k + 1))), (5, .int (Z (11 + 4 * k) (5))), (4, .int (nI k)), (0, .ref (G.2.1 (0))), (1, .int (nI m)), (2, .ref (G.2.1 (59 + 9 * m)))]) C 2 dX4_restore_80 rfl (nI_add (zcn (mvC Z m kp ntI) k) 1) (by rw [hN]; decide) rfl ?_
            refine j_iinc (v := nI (k + 1)) (lv' := [(4, .int (nI (k + 1))), (3, .int (nI (zcn (mvC Z m kp ntI) k + 1))), (5, .int (Z (11 + 4 * k) (5))), (0, .ref (G.2.1 (0))), (1, .int (nI m)), (2, .ref (G.2.1 (59 + 9 * m)))]) C 2 dX4_restore_83 rfl (nI_add k 1) (by rw [hN]; decide) rfl ?_
            refine j_goto (tgt := 27) C dX4_restore_86 (by decide) ?_
            refine j_sub (lv' := [(4, .int (nI (k + 1))), (3, .int (nI (zcn (mvC Z m kp ntI) k + 1))), (0, .ref (G.2.1 (0))), (1, .int (nI m)), (2, .ref (G.2.1 (59 + 9 * m)))]) [0, 1, 3, 4, 5] rfl ?_
            refine j_lv (lv' := [(4, .int (nI (k + 1))), (3, .int (nI (zcn (mvC Z m kp ntI) (k + 1)))), (0, .ref (G.2.1 (0))), (1, .int (nI m)), (2, .ref (G.2.1 (59 + 9 * m)))]) (by rw [zcn_t (show mvC Z m kp ntI k = true from decide_eq_true (by rw [← r5]; omega))]) ?_
            refine j_Z (Z' := (zpf Z (k + 1) (rsC Z m kp ntI) [5, 6, 7, 9])) (rs_s rfl r5 r6 r7 r9) ?_
            exact ih m kp hm hpm hkp hkp12 (k + 1) (by omega) (by omega)
  refine j_iload_n C 1 dX4_restore_0 rfl rfl ?_
  refine j_if_lt (tgt := 12) (a := (p0).toInt) C rfl dX4_restore_1 (by decide) (fun c1 => ?_) (fun c1 => ?_)
  ·
    refine j_bipush C (-11) dX4_restore_12 (by decide) ?_
    refine j_iret C R dX4_restore_14 ?_
    exact Or.inl ⟨by omega, rfl, rfl⟩
  ·
    refine j_iload_n C 1 dX4_restore_4 rfl rfl ?_
    refine j_aload_n C 0 dX4_restore_5 rfl rfl ?_
    refine j_getI C zK4 (zb_X hG) (zs_X hG) (f := 6) (by decide) rfl zk_X4_107 rfl (nI nm) hnm dX4_restore_6 ?_
    refine j_icmp_lt (tgt := 15) (a := (p0).toInt) (b := ((nm : Nat) : Int)) C rfl (nI_toInt (by omega)) dX4_restore_9 (by decide) (fun c9 => ?_) (fun c9 => ?_)
    ·
      obtain ⟨m, hm, rfl⟩ := zi_nat (x := p0) (n := nm) (by omega) (by omega)
      obtain ⟨kp, hkp, hkp12⟩ := hkps m hm
      refine j_aload_n C 0 dX4_restore_15 rfl rfl ?_
      refine j_getR C zK4 (zb_X hG) (zs_X hG) (f := 1) (by decide) rfl zk_X4_17 rfl (zf_X_1 hG) dX4_restore_16 ?_
      refine j_iload_n C 1 dX4_restore_19 rfl rfl ?_
      refine j_aldM C (zb_Mks hG) (zs_Mks hG) (zl_Mks hG) rfl (by omega) (by decide) (zf_Mks hG (by omega)) dX4_restore_20 ?_
      refine j_astore_n (lv' := [(2, .ref (G.2.1 (59 + 9 * m))), (0, .ref (G.2.1 (0))), (1, .int (nI m))]) C dX4_restore_21 rfl (by rw [hN]; decide) rfl ?_
      refine j_iconst C (nI 0) dX4_restore_22 (by decide) ?_
      refine j_istore_n (lv' := [(3, .int (nI 0)), (2, .ref (G.2.1 (59 + 9 * m))), (0, .ref (G.2.1 (0))), (1, .int (nI m))]) C dX4_restore_23 rfl (by rw [hN]; decide) rfl ?_
      refine j_iconst C (nI 0) dX4_restore_24 (by decide) ?_
      refine j_istore (lv' := [(4, .int (nI 0)), (3, .int (nI 0)), (2, .ref (G.2.1 (59 + 9 * m))), (0, .ref (G.2.1 (0))), (1, .int (nI m))]) C dX4_restore_25 (by rw [hN]; decide) rfl ?_
      refine j_sub (lv' := [(4, .int (nI 0)), (3, .int (nI 0)), (0, .ref (G.2.1 (0))), (1, .int (nI m)), (2, .ref (G.2.1 (59 + 9 * m)))]) [0, 1, 3, 4, 2] rfl ?_
      refine j_Z (Z' := (zpf Z (0) (rsC Z m kp ntI) [5, 6, 7, 9])) (zpf_0).symm ?_
      exact L27 (np + 1) m kp hm rfl hkp hkp12 0 (by omega) (by omega)
    ·
      refine j_bipush C (-11) dX4_restore_12 (by decide) ?_
      refine j_iret C R dX4_restore_14 ?_
      exact Or.inl ⟨by omega, rfl, rfl⟩
set_option maxRecDepth 100000 in
set_option maxHeartbeats 4000000 in
theorem kX5_restoreB {l : Launch} {D : va_G} {Y : YT} {b0 : Nat} {G : GT} (hD : GD b0 G) (hG : Gok 132 G) {Z : ZT} {Zi : ZT} (hZi : zu Zi 113 0 (nI 0) = Z) {np : Nat} (hnp : Z 113 1 = nI np) (hnp12 : np ≤ 12) {nm : Nat} (hnm : Z 113 14 = nI nm) (hnm6 : nm ≤ 6) {nt : Nat} (hnt : Z 113 2 = nI nt) (hnt6 : nt ≤ 6) (hkps : ∀ m, m < nm → (∃ kp : Nat, Z 128 m = nI kp ∧ kp ≤ 12) ∧ ∃ ma : Nat, Z 127 m = nI ma ∧ ma ≤ 100) (hmz : ∀ m, m < nm → ∀ b, b < 256 → Z 125 (256 * m + b) = 0 ∨ Z 125 (256 * m + b) = 1) (p0 : Int32) : CI l D Y b0 G yX5_restore cX5_restore 6 (some .int) 1 [.ref (G.2.1 (113)), .int (p0)] Zi (fun r Z' => ((p0.toInt < 0 ∨ (nm : Int) ≤ p0.toInt) ∧ r = (-11) ∧ Z' = Z) ∨ ∃ m : Nat, m < nm ∧ p0 = nI m ∧ ∃ kp ma : Nat, kp ≤ 12 ∧ ma ≤ 100 ∧ Z 128 m = nI kp ∧ Z 127 m = nI ma ∧ r = nI (zcn (mvM Z m kp (nt : Int)) np) ∧ Z' = (zci (zu (zci (zaf Z np (rsM Z m kp (nt : Int)) [0, 1, 2, 3]) 125 122 (256 * m) (256)) (113) (13) (nI ma)) 126 123 (200 * m) (2 * ma))) := by
  refine ci_start (lv0 := [(0, .ref (G.2.1 (113))), (1, .int (p0))]) hD rfl rfl (Nat.le_of_ble_eq_true rfl) rfl ?_
  intro E C R hR hD hN
  have L201 : ∀ (n : Nat) (m kp : Nat) (hm : m < nm) (hpm : p0 = nI m) (hkp : Z 128 m = nI kp) (hkp12 : kp ≤ 12) (ma : Nat) (hma : Z 127 m = nI ma) (hma100 : ma ≤ 100) (k : Nat), 2 * ma + 1 ≤ k + n → k ≤ 2 * ma → J E 0 0 G 201 [(3, .int (nI k)), (2, .int (nI (zcn (mvM Z m kp (nt : Int)) np))), (0, .ref (G.2.1 (113))), (1, .int (nI m))] [] (zci (zu (zci (zaf Z np (rsM Z m kp (nt : Int)) [0, 1, 2, 3]) 125 122 (256 * m) (256)) (113) (13) (nI ma)) 126 123 (200 * m) (k)) := by
    intro n
    induction n with
    | zero => intro m kp hm hpm hkp hkp12 ma hma hma100 k hn hk; exact absurd hn (by omega)
    | succ n ih =>
      intro m kp hm hpm hkp hkp12 ma hma hma100 k hn hk
      refine j_iload_n C 0 dX5_restore_201 rfl rfl ?_
      refine j_iconst C (nI 2) dX5_restore_202 (by decide) ?_
      refine j_aload_n C 2 dX5_restore_203 rfl rfl ?_
      refine j_getI C zK5 (zb_M hG) (zs_M hG) (f := 13) (by decide) rfl zk_X5_128 rfl (nI ma) ((zci_o (by omega)).trans (zu_s)) dX5_restore_204 ?_
      refine j_imul C (nI (2 * ma)) dX5_restore_207 (pk_mul 2 ma) ?_
      refine j_icmp_ge (tgt := 235) (a := ((k : Nat) : Int)) (b := ((2 * ma : Nat) : Int)) C (nI_toInt (by omega)) (nI_toInt (by omega)) dX5_restore_208 (by decide) (fun c208 => ?_) (fun c208 => ?_)
      ·
        have e9 : k = 2 * ma := by omega
        refine j_Z (Z' := (zci (zu (zci (zaf Z np (rsM Z m kp (nt : Int)) [0, 1, 2, 3]) 125 122 (256 * m) (256)) (113) (13) (nI ma)) 126 123 (200 * m) (2 * ma))) (by rw [e9]) ?_
        refine j_iload_n C 1 dX5_restore_235 rfl rfl ?_
        refine j_iret C R dX5_restore_236 ?_
        exact Or.inr ⟨m, hm, hpm, kp, ma, hkp12, hma100, hkp, hma, rfl, rfl⟩
      ·
        refine j_aload_n C 2 dX5_restore_211 rfl rfl ?_
        refine j_getR C zK5 (zb_M hG) (zs_M hG) (f := 12) (by decide) rfl zk_X5_42 rfl (zf_M_12 hG) dX5_restore_212 ?_
        refine j_iload_n C 0 dX5_restore_215 rfl rfl ?_
        refine j_aload_n C 2 dX5_restore_216 rfl rfl ?_
        refine j_getR C zK5 (zb_M hG) (zs_M hG) (f := 17) (by decide) rfl zk_X5_51 rfl (zf_M_17 hG) dX5_restore_217 ?_
        refine j_sipush C (nI 200) dX5_restore_220 (by decide) ?_
        refine j_iload_n C 3 dX5_restore_223 rfl rfl ?_
        refine j_imul C (nI (200 * m)) dX5_restore_224 (pk_mul 200 m) ?_
        refine j_iload_n C 0 dX5_restore_225 rfl rfl ?_
        refine j_iadd C (nI (200 * m + k)) dX5_restore_226 (nI_add (200 * m) k) ?_
        refine j_iald C (zb_rMno hG) (zs_rMno hG) (zl_rMno hG) rfl (by omega) (by decide) (Z (126) (200 * m + k)) ((zci_o (by omega)).trans ((zu_o (by omega)).trans ((zci_o (by omega)).trans ((zaf_o (by omega)))))) dX5_restore_227 ?_
        refine j_iast C hD (zb_rNot hG) (zs_rNot hG) (zl_rNot hG) rfl (by omega) (by decide) dX5_restore_228 ?_
        refine j_iinc (v := nI (k + 1)) (lv' := [(3, .int (nI (k + 1))), (2, .int (nI (zcn (mvM Z m kp (nt : Int)) np))), (0, .ref (G.2.1 (113))), (1, .int (nI m))]) C 0 dX5_restore_229 rfl (nI_add k 1) (by rw [hN]; decide) rfl ?_
        refine j_goto (tgt := 201) C dX5_restore_232 (by decide) ?_
        refine j_Z (Z' := (zci (zu (zci (zaf Z np (rsM Z m kp (nt : Int)) [0, 1, 2, 3]) 125 122 (256 * m) (256)) (113) (13) (nI ma)) 126 123 (200 * m) (k + 1))) (zci_s (by rw [zu_o (by omega), zci_o (by omega), zaf_o (by omega)])) ?_
        exact ih m kp hm hpm hkp hkp12 ma hma hma100 (k + 1) (by omega) (by omega)
  have L158 : ∀ (n : Nat) (m kp : Nat) (hm : m < nm) (hpm : p0 = nI m) (hkp : Z 128 m = nI kp) (hkp12 : kp ≤ 12) (ma : Nat) (hma : Z 127 m = nI ma) (hma100 : ma ≤ 100) (k : Nat), 256 + 1 ≤ k + n → k ≤ 256 → J E 0 0 G 158 [(3, .int (nI k)), (2, .int (nI (zcn (mvM Z m kp (nt : Int)) np))), (0, .ref (G.2.1 (113))), (1, .int (nI m))] [] (zci (zaf Z np (rsM Z m kp (nt : Int)) [0, 1, 2, 3]) 125 122 (256 * m) (k)) := by
    intro n
    induction n with
    | zero => intro m kp hm hpm hkp hkp12 ma hma hma100 k hn hk; exact absurd hn (by omega)
    | succ n ih =>
      intro m kp hm hpm hkp hkp12 ma hma hma100 k hn hk
      refine j_iload_n C 0 dX5_restore_158 rfl rfl ?_
      refine j_sipush C (nI 256) dX5_restore_159 (by decide) ?_
      refine j_icmp_ge (tgt := 189) (a := ((k : Nat) : Int)) (b := ((256 : Nat) : Int)) C (nI_toInt (by omega)) (nI_toInt (by omega)) dX5_restore_162 (by decide) (fun c162 => ?_) (fun c162 => ?_)
      ·
        have e9 : k = 256 := by omega
        refine j_Z (Z' := (zci (zaf Z np (rsM Z m kp (nt : Int)) [0, 1, 2, 3]) 125 122 (256 * m) (256))) (by rw [e9]) ?_
        refine j_aload_n C 2 dX5_restore_189 rfl rfl ?_
        refine j_aload_n C 2 dX5_restore_190 rfl rfl ?_
        refine j_getR C zK5 (zb_M hG) (zs_M hG) (f := 18) (by decide) rfl zk_X5_54 rfl (zf_M_18 hG) dX5_restore_191 ?_
        refine j_iload_n C 3 dX5_restore_194 rfl rfl ?_
        refine j_iald C (zb_rMns hG) (zs_rMns hG) (zl_rMns hG) rfl (by omega) (by decide) (nI ma) ((zci_o (by omega)).trans ((zaf_o (by omega)).trans (hma))) dX5_restore_195 ?_
        refine j_putI C hD zK5 (zb_M hG) (zs_M hG) (f := 13) (by decide) rfl zk_X5_128 rfl rfl rfl rfl dX5_restore_196 ?_
        refine j_iconst C (nI 0) dX5_restore_199 (by decide) ?_
        refine j_istore_n (lv' := [(3, .int (nI 0)), (2, .int (nI (zcn (mvM Z m kp (nt : Int)) np))), (0, .ref (G.2.1 (113))), (1, .int (nI m))]) C dX5_restore_200 rfl (by rw [hN]; decide) rfl ?_
        refine j_Z (Z' := (zci (zu (zci (zaf Z np (rsM Z m kp (nt : Int)) [0, 1, 2, 3]) 125 122 (256 * m) (256)) (113) (13) (nI ma)) 126 123 (200 * m) (0))) (zci_0).symm ?_
        exact L201 (2 * ma + 1) m kp hm hpm hkp hkp12 ma hma hma100 0 (by omega) (by omega)
      ·
        refine j_aload_n C 2 dX5_restore_165 rfl rfl ?_
        refine j_getR C zK5 (zb_M hG) (zs_M hG) (f := 11) (by decide) rfl zk_X5_39 rfl (zf_M_11 hG) dX5_restore_166 ?_
        refine j_iload_n C 0 dX5_restore_169 rfl rfl ?_
        refine j_aload_n C 2 dX5_restore_170 rfl rfl ?_
        refine j_getR C zK5 (zb_M hG) (zs_M hG) (f := 16) (by decide) rfl zk_X5_48 rfl (zf_M_16 hG) dX5_restore_171 ?_
        refine j_sipush C (nI 256) dX5_restore_174 (by decide) ?_
        refine j_iload_n C 3 dX5_restore_177 rfl rfl ?_
        refine j_imul C (nI (256 * m)) dX5_restore_178 (pk_mul 256 m) ?_
        refine j_iload_n C 0 dX5_restore_179 rfl rfl ?_
        refine j_iadd C (nI (256 * m + k)) dX5_restore_180 (nI_add (256 * m) k) ?_
        refine j_zald C (zb_rMgi hG) (zs_rMgi hG) (zl_rMgi hG) rfl (by omega) (by decide) (Z (125) (256 * m + k)) ((zci_o (by omega)).trans ((zaf_o (by omega)))) dX5_restore_181 ?_
        refine j_zast C hD (zb_rGiv hG) (zs_rGiv hG) (zl_rGiv hG) rfl (by omega) (by decide) (hmz m hm _ (by omega)) dX5_restore_182 ?_
        refine j_iinc (v := nI (k + 1)) (lv' := [(3, .int (nI (k + 1))), (2, .int (nI (zcn (mvM Z m kp (nt : Int)) np))), (0, .ref (G.2.1 (113))), (1, .int (nI m))]) C 0 dX5_restore_183 rfl (nI_add k 1) (by rw [hN]; decide) rfl ?_
        refine j_goto (tgt := 158) C dX5_restore_186 (by decide) ?_
        refine j_Z (Z' := (zci (zaf Z np (rsM Z m kp (nt : Int)) [0, 1, 2, 3]) 125 122 (256 * m) (k + 1))) (zci_s (by rw [zaf_o (by omega)])) ?_
        exact ih m kp hm hpm hkp hkp12 ma hma hma100 (k + 1) (by omega) (by omega)
  have L26 : ∀ (n : Nat) (m kp : Nat) (hm : m < nm) (hpm : p0 = nI m) (hkp : Z 128 m = nI kp) (hkp12 : kp ≤ 12) (ma : Nat) (hma : Z 127 m = nI ma) (hma100 : ma ≤ 100) (k : Nat), np + 1 ≤ k + n → k ≤ np → J E 0 0 G 26 [(3, .int (nI k)), (2, .int (nI (zcn (mvM Z m kp (nt : Int)) k))), (0, .ref (G.2.1 (113))), (1, .int (nI m))] [] (zaf Z (k) (rsM Z m kp (nt : Int)) [0, 1, 2, 3]) := by
    intro n
    induction n with
    | zero => intro m kp hm hpm hkp hkp12 ma hma hma100 k hn hk; exact absurd hn (by omega)
    | succ n ih =>
      intro m kp hm hpm hkp hkp12 ma hma hma100 k hn hk
      have z00 : (nI 0).toInt = 0 := rfl
      refine j_iload_n C 0 dX5_restore_26 rfl rfl ?_
      refine j_aload_n C 2 dX5_restore_27 rfl rfl ?_
      refine j_getI C zK5 (zb_M hG) (zs_M hG) (f := 1) (by decide) rfl zk_X5_75 rfl (nI np) ((zaf_o (by omega)).trans (hnp)) dX5_restore_28 ?_
      refine j_icmp_ge (tgt := 156) (a := ((k : Nat) : Int)) (b := ((np : Nat) : Int)) C (nI_toInt (by omega)) (nI_toInt (by omega)) dX5_restore_31 (by decide) (fun c31 => ?_) (fun c31 => ?_)
      ·
        have e9 : k = np := by omega
        refine j_Z (Z' := (zaf Z np (rsM Z m kp (nt : Int)) [0, 1, 2, 3])) (by rw [e9]) ?_
        refine j_lv (lv' := [(3, .int (nI np)), (2, .int (nI (zcn (mvM Z m kp (nt : Int)) np))), (0, .ref (G.2.1 (113))), (1, .int (nI m))]) (by rw [e9]) ?_
        refine j_iconst C (nI 0) dX5_restore_156 (by decide) ?_
        refine j_istore_n (lv' := [(3, .int (nI 0)), (2, .int (nI (zcn (mvM Z m kp (nt : Int)) np))), (0, .ref (G.2.1 (113))), (1, .int (nI m))]) C dX5_restore_157 rfl (by rw [hN]; decide) rfl ?_
        refine j_Z (Z' := (zci (zaf Z np (rsM Z m kp (nt : Int)) [0, 1, 2, 3]) 125 122 (256 * m) (0))) (zci_0).symm ?_
        exact L158 257 m kp hm hpm hkp hkp12 ma hma hma100 0 (by omega) (by omega)
      ·
        refine j_aload_n C 2 dX5_restore_34 rfl rfl ?_
        refine j_getR C zK5 (zb_M hG) (zs_M hG) (f := 10) (by decide) rfl zk_X5_36 rfl (zf_M_10 hG) dX5_restore_35 ?_
        refine j_iload_n C 0 dX5_restore_38 rfl rfl ?_
        refine j_iald C (zb_rAt hG) (zs_rAt hG) (zl_rAt hG) rfl (by omega) (by decide) (Z 121 k) (zaf_o (by omega)) dX5_restore_39 ?_
        refine j_istore (lv' := [(4, .int (Z 121 k)), (3, .int (nI k)), (2, .int (nI (zcn (mvM Z m kp (nt : Int)) k))), (0, .ref (G.2.1 (113))), (1, .int (nI m))]) C dX5_restore_40 (by rw [hN]; decide) rfl ?_
        refine j_aload_n C 3 dX5_restore_42 rfl rfl ?_
        refine j_iload_n C 1 dX5_restore_43 rfl rfl ?_
        refine j_callV C hR (kX5_fresh hD hG (i := k) (by omega)) [] zmX5_fresh zk_X5_86 zK5 (zb_M hG) (zs_M hG) (by decide) rfl rfl (Nat.le_of_ble_eq_true rfl) dX5_restore_44 (fun Z44 h44 => ?_)
        refine j_Z (Z' := (zu (zu (zu (zu (zaf Z (k) (rsM Z m kp (nt : Int)) [0, 1, 2, 3]) (121) (k) (nI 0)) (121) (12 + k) (-1)) (121) (24 + k) (nI 0)) (121) (36 + k) (-1))) h44 ?_
        refine j_iconst C (nI 0) dX5_restore_47 (by decide) ?_
        refine j_istore (lv' := [(5, .int (nI 0)), (4, .int (Z 121 k)), (3, .int (nI k)), (2, .int (nI (zcn (mvM Z m kp (nt : Int)) k))), (0, .ref (G.2.1 (113))), (1, .int (nI m))]) C dX5_restore_48 (by rw [hN]; decide) rfl ?_
        refine j_iload C 0 dX5_restore_50 rfl ?_
        refine j_iconst C (nI 4) dX5_restore_52 (by decide) ?_
        refine j_icmp_ge (tgt := 101) (a := ((0 : Nat) : Int)) (b := ((4 : Nat) : Int)) C (nI_toInt (by omega)) (nI_toInt (by omega)) dX5_restore_53 (by decide) (fun c53 => absurd c53 (by omega)) (fun c53 => ?_)
        refine j_iload_n C 2 dX5_restore_56 rfl rfl ?_
        refine j_aload_n C 4 dX5_restore_57 rfl rfl ?_
        refine j_getR C zK5 (zb_M hG) (zs_M hG) (f := 19) (by decide) rfl zk_X5_57 rfl (zf_M_19 hG) dX5_restore_58 ?_
        refine j_iload_n C 5 dX5_restore_61 rfl rfl ?_
        refine j_iald C (zb_rMpa hG) (zs_rMpa hG) (zl_rMpa hG) rfl (by omega) (by decide) (nI kp) ((zu_o (by omega)).trans ((zu_o (by omega)).trans ((zu_o (by omega)).trans ((zu_o (by omega)).trans ((zaf_o (by omega)).trans (hkp)))))) dX5_restore_62 ?_
        refine j_icmp_ge (tgt := 101) (a := ((k : Nat) : Int)) (b := ((kp : Nat) : Int)) C (nI_toInt (by omega)) (nI_toInt (by omega)) dX5_restore_63 (by decide) (fun c63 => ?_) (fun c63 => ?_)
        ·
          refine j_aload_n C 4 dX5_restore_101 rfl rfl ?_
          refine j_getR C zK5 (zb_M hG) (zs_M hG) (f := 10) (by decide) rfl zk_X5_36 rfl (zf_M_10 hG) dX5_restore_102 ?_
          refine j_bipush C (nI 36) dX5_restore_105 (by decide) ?_
          refine j_iload_n C 2 dX5_restore_107 rfl rfl ?_
          refine j_iadd C (nI (36 + k)) dX5_restore_108 (nI_add 36 k) ?_
          refine j_aload_n C 4 dX5_restore_109 rfl rfl ?_
          refine j_iload_n C 2 dX5_restore_110 rfl rfl ?_
          refine j_callI C hR (kX5_reader hD hG (i := k) (by omega) (re := -1) zu_s) [.int (nI (36 + k)), .ref (G.2.1 (121))] zmX5_reader zk_X5_105 zK5 (zb_M hG) (zs_M hG) (by decide) rfl rfl (Nat.le_of_ble_eq_true rfl) dX5_restore_111 (fun r111 Z111 h111 => ?_)
          obtain ⟨h111, rfl⟩ := h111
          refine j_Z (Z' := (zu (zu (zu (zu (zaf Z (k) (rsM Z m kp (nt : Int)) [0, 1, 2, 3]) (121) (k) (nI 0)) (121) (12 + k) (-1)) (121) (24 + k) (nI 0)) (121) (36 + k) (-1))) h111 ?_
          refine j_aload_n C 4 dX5_restore_114 rfl rfl ?_
          refine j_getI C zK5 (zb_M hG) (zs_M hG) (f := 2) (by decide) rfl zk_X5_7 rfl (nI nt) ((zu_o (by omega)).trans ((zu_o (by omega)).trans ((zu_o (by omega)).trans ((zu_o (by omega)).trans ((zaf_o (by omega)).trans (hnt)))))) dX5_restore_115 ?_
          refine j_icmp_lt (tgt := 125) (a := -1) (b := ((nt : Nat) : Int)) C (show ((-1 : Int32)).toInt = -1 by decide) (nI_toInt (by omega)) dX5_restore_118 (by decide) (fun c118 => ?_) (fun c118 => ?_)
          ·
            refine j_aload_n C 4 dX5_restore_125 rfl rfl ?_
            refine j_iload_n C 2 dX5_restore_126 rfl rfl ?_
            refine j_callI C hR (kX5_reader hD hG (i := k) (by omega) (re := -1) zu_s) [.int (nI (36 + k)), .ref (G.2.1 (121))] zmX5_reader zk_X5_105 zK5 (zb_M hG) (zs_M hG) (by decide) rfl rfl (Nat.le_of_ble_eq_true rfl) dX5_restore_127 (fun r127 Z127 h127 => ?_)
            obtain ⟨h127, rfl⟩ := h127
            refine j_Z (Z' := (zu (zu (zu (zu (zaf Z (k) (rsM Z m kp (nt : Int)) [0, 1, 2, 3]) (121) (k) (nI 0)) (121) (12 + k) (-1)) (121) (24 + k) (nI 0)) (121) (36 + k) (-1))) h127 ?_
            refine j_iast C hD (zb_rAt hG) (zs_rAt hG) (zl_rAt hG) rfl (by omega) (by decide) dX5_restore_130 ?_
            refine j_iload_n C 3 dX5_restore_131 rfl rfl ?_
            refine j_aload_n C 4 dX5_restore_132 rfl rfl ?_
            refine j_getR C zK5 (zb_M hG) (zs_M hG) (f := 10) (by decide) rfl zk_X5_36 rfl (zf_M_10 hG) dX5_restore_133 ?_
            refine j_iload_n C 2 dX5_restore_136 rfl rfl ?_
            refine j_iald C (zb_rAt hG) (zs_rAt hG) (zl_rAt hG) rfl (by omega) (by decide) (nI 0) ((zu_o (by omega)).trans ((zu_o (by omega)).trans ((zu_o (by omega)).trans ((zu_o (by omega)).trans (zu_s))))) dX5_restore_137 ?_
            refine j_iload C 1 dX5_restore_138 rfl ?_
            refine j_icmp_eq (tgt := 147) (a := ((0 : Nat) : Int)) (b := (Z 121 k).toInt) C (nI_toInt (by omega)) rfl dX5_restore_140 (by decide) (fun c140 => ?_) (fun c140 => ?_)
            ·
              refine j_iconst C (nI 0) dX5_restore_147 (by decide) ?_
              refine j_iadd C (nI (zcn (mvM Z m kp (nt : Int)) k + 0)) dX5_restore_148 (nI_add (zcn (mvM Z m kp (nt : Int)) k) 0) ?_
              refine j_istore_n (lv' := [(2, .int (nI (zcn (mvM Z m kp (nt : Int)) k + 0))), (5, .int (nI 0)), (4, .int (Z 121 k)), (3, .int (nI k)), (0, .ref (G.2.1 (113))), (1, .int (nI m))]) C dX5_restore_149 rfl (by rw [hN]; decide) rfl ?_
              refine j_iinc (v := nI (k + 1)) (lv' := [(3, .int (nI (k + 1))), (2, .int (nI (zcn (mvM Z m kp (nt : Int)) k + 0))), (5, .int (nI 0)), (4, .int (Z 121 k)), (0, .ref (G.2.1 (113))), (1, .int (nI m))]) C 3 dX5_restore_150 rfl (nI_add k 1) (by rw [hN]; decide) rfl ?_
              refine j_goto (tgt := 26) C dX5_restore_153 (by decide) ?_
              refine j_sub (lv' := [(3, .int (nI (k + 1))), (2, .int (nI (zcn (mvM Z m kp (nt : Int)) k + 0))), (0, .ref (G.2.1 (113))), (1, .int (nI m))]) [0, 1, 4, 5] rfl ?_
              refine j_lv (lv' := [(3, .int (nI (k + 1))), (2, .int (nI (zcn (mvM Z m kp (nt : Int)) (k + 1)))), (0, .ref (G.2.1 (113))), (1, .int (nI m))]) (by rw [zcn_f (show mvM Z m kp (nt : Int) k = false from decide_eq_false (by rw [(show rsM Z m kp (nt : Int) k 0 = nI 0 by simp [rsM, show ¬ k < kp by omega])]; omega))]; rfl) ?_
              refine j_Z (Z' := (zaf Z (k + 1) (rsM Z m kp (nt : Int)) [0, 1, 2, 3])) (zaf_s4 (by omega) (fun a b hab => by rw [zu_o (by omega), zu_o (by omega), zu_o (by omega), zu_o (by omega), zu_o (by omega)]) (by rw [if_pos (by decide)]; exact (((zu_o (by omega)).trans ((zu_o (by omega)).trans ((zu_o (by omega)).trans ((zu_o (by omega)).trans (zu_s)))))).trans (by simp [rsM, show ¬ k < kp by omega])) (by rw [if_pos (by decide)]; exact (((zu_o (by omega)).trans ((zu_o (by omega)).trans ((zu_o (by omega)).trans (zu_s))))).trans (by simp [rsM, show ¬ k < kp by omega])) (by rw [if_pos (by decide)]; exact (((zu_o (by omega)).trans ((zu_o (by omega)).trans (zu_s)))).trans (by simp [rsM, show ¬ k < kp by omega])) (by rw [if_pos (by decide)]; exact (zu_s).trans (by simp [rsM, show ¬ k < kp by omega]))) ?_
              exact ih m kp hm hpm hkp hkp12 ma hma hma100 (k + 1) (by omega) (by omega)
            ·
              refine j_iconst C (nI 1) dX5_restore_143 (by decide) ?_
              refine j_goto (tgt := 148) C dX5_restore_144 (by decide) ?_
              refine j_iadd C (nI (zcn (mvM Z m kp (nt : Int)) k + 1)) dX5_restore_148 (nI_add (zcn (mvM Z m kp (nt : Int)) k) 1) ?_
              refine j_istore_n (lv' := [(2, .int (nI (zcn (mvM Z m kp (nt : Int)) k + 1))), (5, .int (nI 0)), (4, .int (Z 121 k)), (3, .int (nI k)), (0, .ref (G.2.1 (113))), (1, .int (nI m))]) C dX5_restore_149 rfl (by rw [hN]; decide) rfl ?_
              refine j_iinc (v := nI (k + 1)) (lv' := [(3, .int (nI (k + 1))), (2, .int (nI (zcn (mvM Z m kp (nt : Int)) k + 1))), (5, .int (nI 0)), (4, .int (Z 121 k)), (0, .ref (G.2.1 (113))), (1, .int (nI m))]) C 3 dX5_restore_150 rfl (nI_add k 1) (by rw [hN]; decide) rfl ?_
              refine j_goto (tgt := 26) C dX5_restore_153 (by decide) ?_
              refine j_sub (lv' := [(3, .int (nI (k + 1))), (2, .int (nI (zcn (mvM Z m kp (nt : Int)) k + 1))), (0, .ref (G.2.1 (113))), (1, .int (nI m))]) [0, 1, 4, 5] rfl ?_
              refine j_lv (lv' := [(3, .int (nI (k + 1))), (2, .int (nI (zcn (mvM Z m kp (nt : Int)) (k + 1)))), (0, .ref (G.2.1 (113))), (1, .int (nI m))]) (by rw [zcn_t (show mvM Z m kp (nt : Int) k = true from decide_eq_true (by rw [(show rsM Z m kp (nt : Int) k 0 = nI 0 by simp [rsM, show ¬ k < kp by omega])]; omega))]) ?_
              refine j_Z (Z' := (zaf Z (k + 1) (rsM Z m kp (nt : Int)) [0, 1, 2, 3])) (zaf_s4 (by omega) (fun a b hab => by rw [zu_o (by omega), zu_o (by omega), zu_o (by omega), zu_o (by omega), zu_o (by omega)]) (by rw [if_pos (by decide)]; exact (((zu_o (by omega)).trans ((zu_o (by omega)).trans ((zu_o (by omega)).trans ((zu_o (by omega)).trans (zu_s)))))).trans (by simp [rsM, show ¬ k < kp by omega])) (by rw [if_pos (by decide)]; exact (((zu_o (by omega)).trans ((zu_o (by omega)).trans ((zu_o (by omega)).trans (zu_s))))).trans (by simp [rsM, show ¬ k < kp by omega])) (by rw [if_pos (by decide)]; exact (((zu_o (by omega)).trans ((zu_o (by omega)).trans (zu_s)))).trans (by simp [rsM, show ¬ k < kp by omega])) (by rw [if_pos (by decide)]; exact (zu_s).trans (by simp [rsM, show ¬ k < kp by omega]))) ?_
              exact ih m kp hm hpm hkp hkp12 ma hma hma100 (k + 1) (by omega) (by omega)
          ·
            refine j_iconst C (-1) dX5_restore_121 (by decide) ?_
            refine j_goto (tgt := 130) C dX5_restore_122 (by decide) ?_
            refine j_iast C hD (zb_rAt hG) (zs_rAt hG) (zl_rAt hG) rfl (by omega) (by decide) dX5_restore_130 ?_
            refine j_iload_n C 3 dX5_restore_131 rfl rfl ?_
            refine j_aload_n C 4 dX5_restore_132 rfl rfl ?_
            refine j_getR C zK5 (zb_M hG) (zs_M hG) (f := 10) (by decide) rfl zk_X5_36 rfl (zf_M_10 hG) dX5_restore_133 ?_
            refine j_iload_n C 2 dX5_restore_136 rfl rfl ?_
            refine j_iald C (zb_rAt hG) (zs_rAt hG) (zl_rAt hG) rfl (by omega) (by decide) (nI 0) ((zu_o (by omega)).trans ((zu_o (by omega)).trans ((zu_o (by omega)).trans ((zu_o (by omega)).trans (zu_s))))) dX5_restore_137 ?_
            refine j_iload C 1 dX5_restore_138 rfl ?_
            refine j_icmp_eq (tgt := 147) (a := ((0 : Nat) : Int)) (b := (Z 121 k).toInt) C (nI_toInt (by omega)) rfl dX5_restore_140 (by decide) (fun c140 => ?_) (fun c140 => ?_)
            ·
              refine j_iconst C (nI 0) dX5_restore_147 (by decide) ?_
              refine j_iadd C (nI (zcn (mvM Z m kp (nt : Int)) k + 0)) dX5_restore_148 (nI_add (zcn (mvM Z m kp (nt : Int)) k) 0) ?_
              refine j_istore_n (lv' := [(2, .int (nI (zcn (mvM Z m kp (nt : Int)) k + 0))), (5, .int (nI 0)), (4, .int (Z 121 k)), (3, .int (nI k)), (0, .ref (G.2.1 (113))), (1, .int (nI m))]) C dX5_restore_149 rfl (by rw [hN]; decide) rfl ?_
              refine j_iinc (v := nI (k + 1)) (lv' := [(3, .int (nI (k + 1))), (2, .int (nI (zcn (mvM Z m kp (nt : Int)) k + 0))), (5, .int (nI 0)), (4, .int (Z 121 k)), (0, .ref (G.2.1 (113))), (1, .int (nI m))]) C 3 dX5_restore_150 rfl (nI_add k 1) (by rw [hN]; decide) rfl ?_
              refine j_goto (tgt := 26) C dX5_restore_153 (by decide) ?_
              refine j_sub (lv' := [(3, .int (nI (k + 1))), (2, .int (nI (zcn (mvM Z m kp (nt : Int)) k + 0))), (0, .ref (G.2.1 (113))), (1, .int (nI m))]) [0, 1, 4, 5] rfl ?_
              refine j_lv (lv' := [(3, .int (nI (k + 1))), (2, .int (nI (zcn (mvM Z m kp (nt : Int)) (k + 1)))), (0, .ref (G.2.1 (113))), (1, .int (nI m))]) (by rw [zcn_f (show mvM Z m kp (nt : Int) k = false from decide_eq_false (by rw [(show rsM Z m kp (nt : Int) k 0 = nI 0 by simp [rsM, show ¬ k < kp by omega])]; omega))]; rfl) ?_
              refine j_Z (Z' := (zaf Z (k + 1) (rsM Z m kp (nt : Int)) [0, 1, 2, 3])) (zaf_s4 (by omega) (fun a b hab => by rw [zu_o (by omega), zu_o (by omega), zu_o (by omega), zu_o (by omega), zu_o (by omega)]) (by rw [if_pos (by decide)]; exact (((zu_o (by omega)).trans ((zu_o (by omega)).trans ((zu_o (by omega)).trans ((zu_o (by omega)).trans (zu_s)))))).trans (by simp [rsM, show ¬ k < kp by omega])) (by rw [if_pos (by decide)]; exact (((zu_o (by omega)).trans ((zu_o (by omega)).trans ((zu_o (by omega)).trans (zu_s))))).trans (by simp [rsM, show ¬ k < kp by omega])) (by rw [if_pos (by decide)]; exact (((zu_o (by omega)).trans ((zu_o (by omega)).trans (zu_s)))).trans (by simp [rsM, show ¬ k < kp by omega])) (by rw [if_pos (by decide)]; exact (zu_s).trans (by simp [rsM, show ¬ k < kp by omega]))) ?_
              exact ih m kp hm hpm hkp hkp12 ma hma hma100 (k + 1) (by omega) (by omega)
            ·
              refine j_iconst C (nI 1) dX5_restore_143 (by decide) ?_
              refine j_goto (tgt := 148) C dX5_restore_144 (by decide) ?_
              refine j_iadd C (nI (zcn (mvM Z m kp (nt : Int)) k + 1)) dX5_restore_148 (nI_add (zcn (mvM Z m kp (nt : Int)) k) 1) ?_
              refine j_istore_n (lv' := [(2, .int (nI (zcn (mvM Z m kp (nt : Int)) k + 1))), (5, .int (nI 0)), (4, .int (Z 121 k)), (3, .int (nI k)), (0, .ref (G.2.1 (113))), (1, .int (nI m))]) C dX5_restore_149 rfl (by rw [hN]; decide) rfl ?_
              refine j_iinc (v := nI (k + 1)) (lv' := [(3, .int (nI (k + 1))), (2, .int (nI (zcn (mvM Z m kp (nt : Int)) k + 1))), (5, .int (nI 0)), (4, .int (Z 121 k)), (0, .ref (G.2.1 (113))), (1, .int (nI m))]) C 3 dX5_restore_150 rfl (nI_add k 1) (by rw [hN]; decide) rfl ?_
              refine j_goto (tgt := 26) C dX5_restore_153 (by decide) ?_
              refine j_sub (lv' := [(3, .int (nI (k + 1))), (2, .int (nI (zcn (mvM Z m kp (nt : Int)) k + 1))), (0, .ref (G.2.1 (113))), (1, .int (nI m))]) [0, 1, 4, 5] rfl ?_
              refine j_lv (lv' := [(3, .int (nI (k + 1))), (2, .int (nI (zcn (mvM Z m kp (nt : Int)) (k + 1)))), (0, .ref (G.2.1 (113))), (1, .int (nI m))]) (by rw [zcn_t (show mvM Z m kp (nt : Int) k = true from decide_eq_true (by rw [(show rsM Z m kp (nt : Int) k 0 = nI 0 by simp [rsM, show ¬ k < kp by omega])]; omega))]) ?_
              refine j_Z (Z' := (zaf Z (k + 1) (rsM Z m kp (nt : Int)) [0, 1, 2, 3])) (zaf_s4 (by omega) (fun a b hab => by rw [zu_o (by omega), zu_o (by omega), zu_o (by omega), zu_o (by omega), zu_o (by omega)]) (by rw [if_pos (by decide)]; exact (((zu_o (by omega)).trans ((zu_o (by omega)).trans ((zu_o (by omega)).trans ((zu_o (by omega)).trans (zu_s)))))).trans (by simp [rsM, show ¬ k < kp by omega])) (by rw [if_pos (by decide)]; exact (((zu_o (by omega)).trans ((zu_o (by omega)).trans ((zu_o (by omega)).trans (zu_s))))).trans (by simp [rsM, show ¬ k < kp by omega])) (by rw [if_pos (by decide)]; exact (((zu_o (by omega)).trans ((zu_o (by omega)).trans (zu_s)))).trans (by simp [rsM, show ¬ k < kp by omega])) (by rw [if_pos (by decide)]; exact (zu_s).trans (by simp [rsM, show ¬ k < kp by omega]))) ?_
              exact ih m kp hm hpm hkp hkp12 ma hma hma100 (k + 1) (by omega) (by omega)
        ·
          refine j_aload_n C 4 dX5_restore_66 rfl rfl ?_
          refine j_getR C zK5 (zb_M hG) (zs_M hG) (f := 10) (by decide) rfl zk_X5_36 rfl (zf_M_10 hG) dX5_restore_67 ?_
          refine j_bipush C (nI 12) dX5_restore_70 (by decide) ?_
          refine j_iload C 0 dX5_restore_72 rfl ?_
          refine j_imul C (nI 0) dX5_restore_74 (pk_mul 12 0) ?_
          refine j_iload_n C 2 dX5_restore_75 rfl rfl ?_
          refine j_iadd C (nI k) dX5_restore_76 (by rw [nI_add, Nat.zero_add]) ?_
          refine j_aload_n C 4 dX5_restore_77 rfl rfl ?_
          refine j_getR C zK5 (zb_M hG) (zs_M hG) (f := 15) (by decide) rfl zk_X5_45 rfl (zf_M_15 hG) dX5_restore_78 ?_
          refine j_bipush C (nI 48) dX5_restore_81 (by decide) ?_
          refine j_iload_n C 5 dX5_restore_83 rfl rfl ?_
          refine j_imul C (nI (48 * m)) dX5_restore_84 (pk_mul 48 m) ?_
          refine j_bipush C (nI 12) dX5_restore_85 (by decide) ?_
          refine j_iload C 0 dX5_restore_87 rfl ?_
          refine j_imul C (nI 0) dX5_restore_89 (pk_mul 12 0) ?_
          refine j_iadd C (nI (48 * m)) dX5_restore_90 (by rw [nI_add, Nat.add_zero]) ?_
          refine j_iload_n C 2 dX5_restore_91 rfl rfl ?_
          refine j_iadd C (nI (48 * m + k)) dX5_restore_92 (nI_add (48 * m) k) ?_
          refine j_iald C (zb_rMat hG) (zs_rMat hG) (zl_rMat hG) rfl (by omega) (by decide) (Z (124) (48 * m + k)) ((zu_o (by omega)).trans ((zu_o (by omega)).trans ((zu_o (by omega)).trans ((zu_o (by omega)).trans ((zaf_o (by omega))))))) dX5_restore_93 ?_
          refine j_iast C hD (zb_rAt hG) (zs_rAt hG) (zl_rAt hG) rfl (by omega) (by decide) dX5_restore_94 ?_
          refine j_iinc (v := nI 1) (lv' := [(5, .int (nI 1)), (4, .int (Z 121 k)), (3, .int (nI k)), (2, .int (nI (zcn (mvM Z m kp (nt : Int)) k))), (0, .ref (G.2.1 (113))), (1, .int (nI m))]) C 0 dX5_restore_95 rfl (nI_add 0 1) (by rw [hN]; decide) rfl ?_
          refine j_goto (tgt := 50) C dX5_restore_98 (by decide) ?_
          refine j_iload C 0 dX5_restore_50 rfl ?_
          refine j_iconst C (nI 4) dX5_restore_52 (by decide) ?_
          refine j_icmp_ge (tgt := 101) (a := ((1 : Nat) : Int)) (b := ((4 : Nat) : Int)) C (nI_toInt (by omega)) (nI_toInt (by omega)) dX5_restore_53 (by decide) (fun c53 => absurd c53 (by omega)) (fun c53 => ?_)
          refine j_iload_n C 2 dX5_restore_56 rfl rfl ?_
          refine j_aload_n C 4 dX5_restore_57 rfl rfl ?_
          refine j_getR C zK5 (zb_M hG) (zs_M hG) (f := 19) (by decide) rfl zk_X5_57 rfl (zf_M_19 hG) dX5_restore_58 ?_
          refine j_iload_n C 5 dX5_restore_61 rfl rfl ?_
          refine j_iald C (zb_rMpa hG) (zs_rMpa hG) (zl_rMpa hG) rfl (by omega) (by decide) (nI kp) ((zu_o (by omega)).trans ((zu_o (by omega)).trans ((zu_o (by omega)).trans ((zu_o (by omega)).trans ((zu_o (by omega)).trans ((zaf_o (by omega)).trans (hkp))))))) dX5_restore_62 ?_
          refine j_icmp_ge (tgt := 101) (a := ((k : Nat) : Int)) (b := ((kp : Nat) : Int)) C (nI_toInt (by omega)) (nI_toInt (by omega)) dX5_restore_63 (by decide) (fun c63 => absurd c63 (by omega)) (fun c63 => ?_)
          refine j_aload_n C 4 dX5_restore_66 rfl rfl ?_
          refine j_getR C zK5 (zb_M hG) (zs_M hG) (f := 10) (by decide) rfl zk_X5_36 rfl (zf_M_10 hG) dX5_restore_67 ?_
          refine j_bipush C (nI 12) dX5_restore_70 (by decide) ?_
          refine j_iload C 0 dX5_restore_72 rfl ?_
          refine j_imul C (nI 12) dX5_restore_74 (pk_mul 12 1) ?_
          refine j_iload_n C 2 dX5_restore_75 rfl rfl ?_
          refine j_iadd C (nI (12 + k)) dX5_restore_76 (nI_add 12 k) ?_
          refine j_aload_n C 4 dX5_restore_77 rfl rfl ?_
          refine j_getR C zK5 (zb_M hG) (zs_M hG) (f := 15) (by decide) rfl zk_X5_45 rfl (zf_M_15 hG) dX5_restore_78 ?_
          refine j_bipush C (nI 48) dX5_restore_81 (by decide) ?_
          refine j_iload_n C 5 dX5_restore_83 rfl rfl ?_
          refine j_imul C (nI (48 * m)) dX5_restore_84 (pk_mul 48 m) ?_
          refine j_bipush C (nI 12) dX5_restore_85 (by decide) ?_
          refine j_iload C 0 dX5_restore_87 rfl ?_
          refine j_imul C (nI 12) dX5_restore_89 (pk_mul 12 1) ?_
          refine j_iadd C (nI (48 * m + 12)) dX5_restore_90 (nI_add (48 * m) 12) ?_
          refine j_iload_n C 2 dX5_restore_91 rfl rfl ?_
          refine j_iadd C (nI (48 * m + 12 + k)) dX5_restore_92 (nI_add (48 * m + 12) k) ?_
          refine j_iald C (zb_rMat hG) (zs_rMat hG) (zl_rMat hG) rfl (by omega) (by decide) (Z (124) (48 * m + 12 + k)) ((zu_o (by omega)).trans ((zu_o (by omega)).trans ((zu_o (by omega)).trans ((zu_o (by omega)).trans ((zu_o (by omega)).trans ((zaf_o (by omega)))))))) dX5_restore_93 ?_
          refine j_iast C hD (zb_rAt hG) (zs_rAt hG) (zl_rAt hG) rfl (by omega) (by decide) dX5_restore_94 ?_
          refine j_iinc (v := nI 2) (lv' := [(5, .int (nI 2)), (4, .int (Z 121 k)), (3, .int (nI k)), (2, .int (nI (zcn (mvM Z m kp (nt : Int)) k))), (0, .ref (G.2.1 (113))), (1, .int (nI m))]) C 0 dX5_restore_95 rfl (nI_add 1 1) (by rw [hN]; decide) rfl ?_
          refine j_goto (tgt := 50) C dX5_restore_98 (by decide) ?_
          refine j_iload C 0 dX5_restore_50 rfl ?_
          refine j_iconst C (nI 4) dX5_restore_52 (by decide) ?_
          refine j_icmp_ge (tgt := 101) (a := ((2 : Nat) : Int)) (b := ((4 : Nat) : Int)) C (nI_toInt (by omega)) (nI_toInt (by omega)) dX5_restore_53 (by decide) (fun c53 => absurd c53 (by omega)) (fun c53 => ?_)
          refine j_iload_n C 2 dX5_restore_56 rfl rfl ?_
          refine j_aload_n C 4 dX5_restore_57 rfl rfl ?_
          refine j_getR C zK5 (zb_M hG) (zs_M hG) (f := 19) (by decide) rfl zk_X5_57 rfl (zf_M_19 hG) dX5_restore_58 ?_
          refine j_iload_n C 5 dX5_restore_61 rfl rfl ?_
          refine j_iald C (zb_rMpa hG) (zs_rMpa hG) (zl_rMpa hG) rfl (by omega) (by decide) (nI kp) ((zu_o (by omega)).trans ((zu_o (by omega)).trans ((zu_o (by omega)).trans ((zu_o (by omega)).trans ((zu_o (by omega)).trans ((zu_o (by omega)).trans ((zaf_o (by omega)).trans (hkp)))))))) dX5_restore_62 ?_
          refine j_icmp_ge (tgt := 101) (a := ((k : Nat) : Int)) (b := ((kp : Nat) : Int)) C (nI_toInt (by omega)) (nI_toInt (by omega)) dX5_restore_63 (by decide) (fun c63 => absurd c63 (by omega)) (fun c63 => ?_)
          refine j_aload_n C 4 dX5_restore_66 rfl rfl ?_
          refine j_getR C zK5 (zb_M hG) (zs_M hG) (f := 10) (by decide) rfl zk_X5_36 rfl (zf_M_10 hG) dX5_restore_67 ?_
          refine j_bipush C (nI 12) dX5_restore_70 (by decide) ?_
          refine j_iload C 0 dX5_restore_72 rfl ?_
          refine j_imul C (nI 24) dX5_restore_74 (pk_mul 12 2) ?_
          refine j_iload_n C 2 dX5_restore_75 rfl rfl ?_
          refine j_iadd C (nI (24 + k)) dX5_restore_76 (nI_add 24 k) ?_
          refine j_aload_n C 4 dX5_restore_77 rfl rfl ?_
          refine j_getR C zK5 (zb_M hG) (zs_M hG) (f := 15) (by decide) rfl zk_X5_45 rfl (zf_M_15 hG) dX5_restore_78 ?_
          refine j_bipush C (nI 48) dX5_restore_81 (by decide) ?_
          refine j_iload_n C 5 dX5_restore_83 rfl rfl ?_
          refine j_imul C (nI (48 * m)) dX5_restore_84 (pk_mul 48 m) ?_
          refine j_bipush C (nI 12) dX5_restore_85 (by decide) ?_
          refine j_iload C 0 dX5_restore_87 rfl ?_
          refine j_imul C (nI 24) dX5_restore_89 (pk_mul 12 2) ?_
          refine j_iadd C (nI (48 * m + 24)) dX5_restore_90 (nI_add (48 * m) 24) ?_
          refine j_iload_n C 2 dX5_restore_91 rfl rfl ?_
          refine j_iadd C (nI (48 * m + 24 + k)) dX5_restore_92 (nI_add (48 * m + 24) k) ?_
          refine j_iald C (zb_rMat hG) (zs_rMat hG) (zl_rMat hG) rfl (by omega) (by decide) (Z (124) (48 * m + 24 + k)) ((zu_o (by omega)).trans ((zu_o (by omega)).trans ((zu_o (by omega)).trans ((zu_o (by omega)).trans ((zu_o (by omega)).trans ((zu_o (by omega)).trans ((zaf_o (by omega))))))))) dX5_restore_93 ?_
          refine j_iast C hD (zb_rAt hG) (zs_rAt hG) (zl_rAt hG) rfl (by omega) (by decide) dX5_restore_94 ?_
          refine j_iinc (v := nI 3) (lv' := [(5, .int (nI 3)), (4, .int (Z 121 k)), (3, .int (nI k)), (2, .int (nI (zcn (mvM Z m kp (nt : Int)) k))), (0, .ref (G.2.1 (113))), (1, .int (nI m))]) C 0 dX5_restore_95 rfl (nI_add 2 1) (by rw [hN]; decide) rfl ?_
          refine j_goto (tgt := 50) C dX5_restore_98 (by decide) ?_
          refine j_iload C 0 dX5_restore_50 rfl ?_
          refine j_iconst C (nI 4) dX5_restore_52 (by decide) ?_
          refine j_icmp_ge (tgt := 101) (a := ((3 : Nat) : Int)) (b := ((4 : Nat) : Int)) C (nI_toInt (by omega)) (nI_toInt (by omega)) dX5_restore_53 (by decide) (fun c53 => absurd c53 (by omega)) (fun c53 => ?_)
          refine j_iload_n C 2 dX5_restore_56 rfl rfl ?_
          refine j_aload_n C 4 dX5_restore_57 rfl rfl ?_
          refine j_getR C zK5 (zb_M hG) (zs_M hG) (f := 19) (by decide) rfl zk_X5_57 rfl (zf_M_19 hG) dX5_restore_58 ?_
          refine j_iload_n C 5 dX5_restore_61 rfl rfl ?_
          refine j_iald C (zb_rMpa hG) (zs_rMpa hG) (zl_rMpa hG) rfl (by omega) (by decide) (nI kp) ((zu_o (by omega)).trans ((zu_o (by omega)).trans ((zu_o (by omega)).trans ((zu_o (by omega)).trans ((zu_o (by omega)).trans ((zu_o (by omega)).trans ((zu_o (by omega)).trans ((zaf_o (by omega)).trans (hkp))))))))) dX5_restore_62 ?_
          refine j_icmp_ge (tgt := 101) (a := ((k : Nat) : Int)) (b := ((kp : Nat) : Int)) C (nI_toInt (by omega)) (nI_toInt (by omega)) dX5_restore_63 (by decide) (fun c63 => absurd c63 (by omega)) (fun c63 => ?_)
          refine j_aload_n C 4 dX5_restore_66 rfl rfl ?_
          refine j_getR C zK5 (zb_M hG) (zs_M hG) (f := 10) (by decide) rfl zk_X5_36 rfl (zf_M_10 hG) dX5_restore_67 ?_
          refine j_bipush C (nI 12) dX5_restore_70 (by decide) ?_
          refine j_iload C 0 dX5_restore_72 rfl ?_
          refine j_imul C (nI 36) dX5_restore_74 (pk_mul 12 3) ?_
          refine j_iload_n C 2 dX5_restore_75 rfl rfl ?_
          refine j_iadd C (nI (36 + k)) dX5_restore_76 (nI_add 36 k) ?_
          refine j_aload_n C 4 dX5_restore_77 rfl rfl ?_
          refine j_getR C zK5 (zb_M hG) (zs_M hG) (f := 15) (by decide) rfl zk_X5_45 rfl (zf_M_15 hG) dX5_restore_78 ?_
          refine j_bipush C (nI 48) dX5_restore_81 (by decide) ?_
          refine j_iload_n C 5 dX5_restore_83 rfl rfl ?_
          refine j_imul C (nI (48 * m)) dX5_restore_84 (pk_mul 48 m) ?_
          refine j_bipush C (nI 12) dX5_restore_85 (by decide) ?_
          refine j_iload C 0 dX5_restore_87 rfl ?_
          refine j_imul C (nI 36) dX5_restore_89 (pk_mul 12 3) ?_
          refine j_iadd C (nI (48 * m + 36)) dX5_restore_90 (nI_add (48 * m) 36) ?_
          refine j_iload_n C 2 dX5_restore_91 rfl rfl ?_
          refine j_iadd C (nI (48 * m + 36 + k)) dX5_restore_92 (nI_add (48 * m + 36) k) ?_
          refine j_iald C (zb_rMat hG) (zs_rMat hG) (zl_rMat hG) rfl (by omega) (by decide) (Z (124) (48 * m + 36 + k)) ((zu_o (by omega)).trans ((zu_o (by omega)).trans ((zu_o (by omega)).trans ((zu_o (by omega)).trans ((zu_o (by omega)).trans ((zu_o (by omega)).trans ((zu_o (by omega)).trans ((zaf_o (by omega)))))))))) dX5_restore_93 ?_
          refine j_iast C hD (zb_rAt hG) (zs_rAt hG) (zl_rAt hG) rfl (by omega) (by decide) dX5_restore_94 ?_
          refine j_iinc (v := nI 4) (lv' := [(5, .int (nI 4)), (4, .int (Z 121 k)), (3, .int (nI k)), (2, .int (nI (zcn (mvM Z m kp (nt : Int)) k))), (0, .ref (G.2.1 (113))), (1, .int (nI m))]) C 0 dX5_restore_95 rfl (nI_add 3 1) (by rw [hN]; decide) rfl ?_
          refine j_goto (tgt := 50) C dX5_restore_98 (by decide) ?_
          refine j_iload C 0 dX5_restore_50 rfl ?_
          refine j_iconst C (nI 4) dX5_restore_52 (by decide) ?_
          refine j_icmp_ge (tgt := 101) (a := ((4 : Nat) : Int)) (b := ((4 : Nat) : Int)) C (nI_toInt (by omega)) (nI_toInt (by omega)) dX5_restore_53 (by decide) (fun c53 => ?_) (fun c53 => absurd c53 (by omega))
          refine j_aload_n C 4 dX5_restore_101 rfl rfl ?_
          refine j_getR C zK5 (zb_M hG) (zs_M hG) (f := 10) (by decide) rfl zk_X5_36 rfl (zf_M_10 hG) dX5_restore_102 ?_
          refine j_bipush C (nI 36) dX5_restore_105 (by decide) ?_
          refine j_iload_n C 2 dX5_restore_107 rfl rfl ?_
          refine j_iadd C (nI (36 + k)) dX5_restore_108 (nI_add 36 k) ?_
          refine j_aload_n C 4 dX5_restore_109 rfl rfl ?_
          refine j_iload_n C 2 dX5_restore_110 rfl rfl ?_
          refine j_callI C hR (kX5_reader hD hG (i := k) (by omega) (re := Z (124) (48 * m + 36 + k)) zu_s) [.int (nI (36 + k)), .ref (G.2.1 (121))] zmX5_reader zk_X5_105 zK5 (zb_M hG) (zs_M hG) (by decide) rfl rfl (Nat.le_of_ble_eq_true rfl) dX5_restore_111 (fun r111 Z111 h111 => ?_)
          obtain ⟨h111, rfl⟩ := h111
          refine j_Z (Z' := (zu (zu (zu (zu (zu (zu (zu (zu (zaf Z (k) (rsM Z m kp (nt : Int)) [0, 1, 2, 3]) (121) (k) (nI 0)) (121) (12 + k) (-1)) (121) (24 + k) (nI 0)) (121) (36 + k) (-1)) (121) (k) (Z (124) (48 * m + k))) (121) (12 + k) (Z (124) (48 * m + 12 + k))) (121) (24 + k) (Z (124) (48 * m + 24 + k))) (121) (36 + k) (Z (124) (48 * m + 36 + k)))) h111 ?_
          refine j_aload_n C 4 dX5_restore_114 rfl rfl ?_
          refine j_getI C zK5 (zb_M hG) (zs_M hG) (f := 2) (by decide) rfl zk_X5_7 rfl (nI nt) ((zu_o (by omega)).trans ((zu_o (by omega)).trans ((zu_o (by omega)).trans ((zu_o (by omega)).trans ((zu_o (by omega)).trans ((zu_o (by omega)).trans ((zu_o (by omega)).trans ((zu_o (by omega)).trans ((zaf_o (by omega)).trans (hnt)))))))))) dX5_restore_115 ?_
          refine j_icmp_lt (tgt := 125) (a := (Z (124) (48 * m + 36 + k)).toInt) (b := ((nt : Nat) : Int)) C rfl (nI_toInt (by omega)) dX5_restore_118 (by decide) (fun c118 => ?_) (fun c118 => ?_)
          ·
            refine j_aload_n C 4 dX5_restore_125 rfl rfl ?_
            refine j_iload_n C 2 dX5_restore_126 rfl rfl ?_
            refine j_callI C hR (kX5_reader hD hG (i := k) (by omega) (re := Z (124) (48 * m + 36 + k)) zu_s) [.int (nI (36 + k)), .ref (G.2.1 (121))] zmX5_reader zk_X5_105 zK5 (zb_M hG) (zs_M hG) (by decide) rfl rfl (Nat.le_of_ble_eq_true rfl) dX5_restore_127 (fun r127 Z127 h127 => ?_)
            obtain ⟨h127, rfl⟩ := h127
            refine j_Z (Z' := (zu (zu (zu (zu (zu (zu (zu (zu (zaf Z (k) (rsM Z m kp (nt : Int)) [0, 1, 2, 3]) (121) (k) (nI 0)) (121) (12 + k) (-1)) (121) (24 + k) (nI 0)) (121) (36 + k) (-1)) (121) (k) (Z (124) (48 * m + k))) (121) (12 + k) (Z (124) (48 * m + 12 + k))) (121) (24 + k) (Z (124) (48 * m + 24 + k))) (121) (36 + k) (Z (124) (48 * m + 36 + k)))) h127 ?_
            refine j_iast C hD (zb_rAt hG) (zs_rAt hG) (zl_rAt hG) rfl (by omega) (by decide) dX5_restore_130 ?_
            refine j_iload_n C 3 dX5_restore_131 rfl rfl ?_
            refine j_aload_n C 4 dX5_restore_132 rfl rfl ?_
            refine j_getR C zK5 (zb_M hG) (zs_M hG) (f := 10) (by decide) rfl zk_X5_36 rfl (zf_M_10 hG) dX5_restore_133 ?_
            refine j_iload_n C 2 dX5_restore_136 rfl rfl ?_
            refine j_iald C (zb_rAt hG) (zs_rAt hG) (zl_rAt hG) rfl (by omega) (by decide) (Z (124) (48 * m + k)) ((zu_o (by omega)).trans ((zu_o (by omega)).trans ((zu_o (by omega)).trans ((zu_o (by omega)).trans (zu_s))))) dX5_restore_137 ?_
            refine j_iload C 1 dX5_restore_138 rfl ?_
            refine j_icmp_eq (tgt := 147) (a := (Z (124) (48 * m + k)).toInt) (b := (Z 121 k).toInt) C rfl rfl dX5_restore_140 (by decide) (fun c140 => ?_) (fun c140 => ?_)
            ·
              refine j_iconst C (nI 0) dX5_restore_147 (by decide) ?_
              refine j_iadd C (nI (zcn (mvM Z m kp (nt : Int)) k + 0)) dX5_restore_148 (nI_add (zcn (mvM Z m kp (nt : Int)) k) 0) ?_
              refine j_istore_n (lv' := [(2, .int (nI (zcn (mvM Z m kp (nt : Int)) k + 0))), (5, .int (nI 4)), (4, .int (Z 121 k)), (3, .int (nI k)), (0, .ref (G.2.1 (113))), (1, .int (nI m))]) C dX5_restore_149 rfl (by rw [hN]; decide) rfl ?_
              refine j_iinc (v := nI (k + 1)) (lv' := [(3, .int (nI (k + 1))), (2, .int (nI (zcn (mvM Z m kp (nt : Int)) k + 0))), (5, .int (nI 4)), (4, .int (Z 121 k)), (0, .ref (G.2.1 (113))), (1, .int (nI m))]) C 3 dX5_restore_150 rfl (nI_add k 1) (by rw [hN]; decide) rfl ?_
              refine j_goto (tgt := 26) C dX5_restore_153 (by decide) ?_
              refine j_sub (lv' := [(3, .int (nI (k + 1))), (2, .int (nI (zcn (mvM Z m kp (nt : Int)) k + 0))), (0, .ref (G.2.1 (113))), (1, .int (nI m))]) [0, 1, 4, 5] rfl ?_
              refine j_lv (lv' := [(3, .int (nI (k + 1))), (2, .int (nI (zcn (mvM Z m kp (nt : Int)) (k + 1)))), (0, .ref (G.2.1 (113))), (1, .int (nI m))]) (by rw [zcn_f (show mvM Z m kp (nt : Int) k = false from decide_eq_false (by rw [(show rsM Z m kp (nt : Int) k 0 = Z (124) (48 * m + k) by simp [rsM, show k < kp by omega, show (Z 124 (48 * m + 36 + k)).toInt < (nt : Int) by omega])]; omega))]; rfl) ?_
              refine j_Z (Z' := (zaf Z (k + 1) (rsM Z m kp (nt : Int)) [0, 1, 2, 3])) (zaf_s4 (by omega) (fun a b hab => by rw [zu_o (by omega), zu_o (by omega), zu_o (by omega), zu_o (by omega), zu_o (by omega), zu_o (by omega), zu_o (by omega), zu_o (by omega), zu_o (by omega)]) (by rw [if_pos (by decide)]; exact (((zu_o (by omega)).trans ((zu_o (by omega)).trans ((zu_o (by omega)).trans ((zu_o (by omega)).trans (zu_s)))))).trans (by simp [rsM, show k < kp by omega, show (Z 124 (48 * m + 36 + k)).toInt < (nt : Int) by omega])) (by rw [if_pos (by decide)]; exact (((zu_o (by omega)).trans ((zu_o (by omega)).trans ((zu_o (by omega)).trans (zu_s))))).trans (by simp [rsM, show k < kp by omega, show (Z 124 (48 * m + 36 + k)).toInt < (nt : Int) by omega])) (by rw [if_pos (by decide)]; exact (((zu_o (by omega)).trans ((zu_o (by omega)).trans (zu_s)))).trans (by simp [rsM, show k < kp by omega, show (Z 124 (48 * m + 36 + k)).toInt < (nt : Int) by omega])) (by rw [if_pos (by decide)]; exact (zu_s).trans (by simp [rsM, show k < kp by omega, show (Z 124 (48 * m + 36 + k)).toInt < (nt : Int) by omega]))) ?_
              exact ih m kp hm hpm hkp hkp12 ma hma hma100 (k + 1) (by omega) (by omega)
            ·
              refine j_iconst C (nI 1) dX5_restore_143 (by decide) ?_
              refine j_goto (tgt := 148) C dX5_restore_144 (by decide) ?_
              refine j_iadd C (nI (zcn (mvM Z m kp (nt : Int)) k + 1)) dX5_restore_148 (nI_add (zcn (mvM Z m kp (nt : Int)) k) 1) ?_
              refine j_istore_n (lv' := [(2, .int (nI (zcn (mvM Z m kp (nt : Int)) k + 1))), (5, .int (nI 4)), (4, .int (Z 121 k)), (3, .int (nI k)), (0, .ref (G.2.1 (113))), (1, .int (nI m))]) C dX5_restore_149 rfl (by rw [hN]; decide) rfl ?_
              refine j_iinc (v := nI (k + 1)) (lv' := [(3, .int (nI (k + 1))), (2, .int (nI (zcn (mvM Z m kp (nt : Int)) k + 1))), (5, .int (nI 4)), (4, .int (Z 121 k)), (0, .ref (G.2.1 (113))), (1, .int (nI m))]) C 3 dX5_restore_150 rfl (nI_add k 1) (by rw [hN]; decide) rfl ?_
              refine j_goto (tgt := 26) C dX5_restore_153 (by decide) ?_
              refine j_sub (lv' := [(3, .int (nI (k + 1))), (2, .int (nI (zcn (mvM Z m kp (nt : Int)) k + 1))), (0, .ref (G.2.1 (113))), (1, .int (nI m))]) [0, 1, 4, 5] rfl ?_
              refine j_lv (lv' := [(3, .int (nI (k + 1))), (2, .int (nI (zcn (mvM Z m kp (nt : Int)) (k + 1)))), (0, .ref (G.2.1 (113))), (1, .int (nI m))]) (by rw [zcn_t (show mvM Z m kp (nt : Int) k = true from decide_eq_true (by rw [(show rsM Z m kp (nt : Int) k 0 = Z (124) (48 * m + k) by simp [rsM, show k < kp by omega, show (Z 124 (48 * m + 36 + k)).toInt < (nt : Int) by omega])]; omega))]) ?_
              refine j_Z (Z' := (zaf Z (k + 1) (rsM Z m kp (nt : Int)) [0, 1, 2, 3])) (zaf_s4 (by omega) (fun a b hab => by rw [zu_o (by omega), zu_o (by omega), zu_o (by omega), zu_o (by omega), zu_o (by omega), zu_o (by omega), zu_o (by omega), zu_o (by omega), zu_o (by omega)]) (by rw [if_pos (by decide)]; exact (((zu_o (by omega)).trans ((zu_o (by omega)).trans ((zu_o (by omega)).trans ((zu_o (by omega)).trans (zu_s)))))).trans (by simp [rsM, show k < kp by omega, show (Z 124 (48 * m + 36 + k)).toInt < (nt : Int) by omega])) (by rw [if_pos (by decide)]; exact (((zu_o (by omega)).trans ((zu_o (by omega)).trans ((zu_o (by omega)).trans (zu_s))))).trans (by simp [rsM, show k < kp by omega, show (Z 124 (48 * m + 36 + k)).toInt < (nt : Int) by omega])) (by rw [if_pos (by decide)]; exact (((zu_o (by omega)).trans ((zu_o (by omega)).trans (zu_s)))).trans (by simp [rsM, show k < kp by omega, show (Z 124 (48 * m + 36 + k)).toInt < (nt : Int) by omega])) (by rw [if_pos (by decide)]; exact (zu_s).trans (by simp [rsM, show k < kp by omega, show (Z 124 (48 * m + 36 + k)).toInt < (nt : Int) by omega]))) ?_
              exact ih m kp hm hpm hkp hkp12 ma hma hma100 (k + 1) (by omega) (by omega)
          ·
            refine j_iconst C (-1) dX5_restore_121 (by decide) ?_
            refine j_goto (tgt := 130) C dX5_restore_122 (by decide) ?_
            refine j_iast C hD (zb_rAt hG) (zs_rAt hG) (zl_rAt hG) rfl (by omega) (by decide) dX5_restore_130 ?_
            refine j_iload_n C 3 dX5_restore_131 rfl rfl ?_
            refine j_aload_n C 4 dX5_restore_132 rfl rfl ?_
            refine j_getR C zK5 (zb_M hG) (zs_M hG) (f := 10) (by decide) rfl zk_X5_36 rfl (zf_M_10 hG) dX5_restore_133 ?_
            refine j_iload_n C 2 dX5_restore_136 rfl rfl ?_
            refine j_iald C (zb_rAt hG) (zs_rAt hG) (zl_rAt hG) rfl (by omega) (by decide) (Z (124) (48 * m + k)) ((zu_o (by omega)).trans ((zu_o (by omega)).trans ((zu_o (by omega)).trans ((zu_o (by omega)).trans (zu_s))))) dX5_restore_137 ?_
            refine j_iload C 1 dX5_restore_138 rfl ?_
            refine j_icmp_eq (tgt := 147) (a := (Z (124) (48 * m + k)).toInt) (b := (Z 121 k).toInt) C rfl rfl dX5_restore_140 (by decide) (fun c140 => ?_) (fun c140 => ?_)
            ·
              refine j_iconst C (nI 0) dX5_restore_147 (by decide) ?_
              refine j_iadd C (nI (zcn (mvM Z m kp (nt : Int)) k + 0)) dX5_restore_148 (nI_add (zcn (mvM Z m kp (nt : Int)) k) 0) ?_
              refine j_istore_n (lv' := [(2, .int (nI (zcn (mvM Z m kp (nt : Int)) k + 0))), (5, .int (nI 4)), (4, .int (Z 121 k)), (3, .int (nI k)), (0, .ref (G.2.1 (113))), (1, .int (nI m))]) C dX5_restore_149 rfl (by rw [hN]; decide) rfl ?_
              refine j_iinc (v := nI (k + 1)) (lv' := [(3, .int (nI (k + 1))), (2, .int (nI (zcn (mvM Z m kp (nt : Int)) k + 0))), (5, .int (nI 4)), (4, .int (Z 121 k)), (0, .ref (G.2.1 (113))), (1, .int (nI m))]) C 3 dX5_restore_150 rfl (nI_add k 1) (by rw [hN]; decide) rfl ?_
              refine j_goto (tgt := 26) C dX5_restore_153 (by decide) ?_
              refine j_sub (lv' := [(3, .int (nI (k + 1))), (2, .int (nI (zcn (mvM Z m kp (nt : Int)) k + 0))), (0, .ref (G.2.1 (113))), (1, .int (nI m))]) [0, 1, 4, 5] rfl ?_
              refine j_lv (lv' := [(3, .int (nI (k + 1))), (2, .int (nI (zcn (mvM Z m kp (nt : Int)) (k + 1)))), (0, .ref (G.2.1 (113))), (1, .int (nI m))]) (by rw [zcn_f (show mvM Z m kp (nt : Int) k = false from decide_eq_false (by rw [(show rsM Z m kp (nt : Int) k 0 = Z (124) (48 * m + k) by simp [rsM, show k < kp by omega, show ¬ (Z 124 (48 * m + 36 + k)).toInt < (nt : Int) by omega])]; omega))]; rfl) ?_
              refine j_Z (Z' := (zaf Z (k + 1) (rsM Z m kp (nt : Int)) [0, 1, 2, 3])) (zaf_s4 (by omega) (fun a b hab => by rw [zu_o (by omega), zu_o (by omega), zu_o (by omega), zu_o (by omega), zu_o (by omega), zu_o (by omega), zu_o (by omega), zu_o (by omega), zu_o (by omega)]) (by rw [if_pos (by decide)]; exact (((zu_o (by omega)).trans ((zu_o (by omega)).trans ((zu_o (by omega)).trans ((zu_o (by omega)).trans (zu_s)))))).trans (by simp [rsM, show k < kp by omega, show ¬ (Z 124 (48 * m + 36 + k)).toInt < (nt : Int) by omega])) (by rw [if_pos (by decide)]; exact (((zu_o (by omega)).trans ((zu_o (by omega)).trans ((zu_o (by omega)).trans (zu_s))))).trans (by simp [rsM, show k < kp by omega, show ¬ (Z 124 (48 * m + 36 + k)).toInt < (nt : Int) by omega])) (by rw [if_pos (by decide)]; exact (((zu_o (by omega)).trans ((zu_o (by omega)).trans (zu_s)))).trans (by simp [rsM, show k < kp by omega, show ¬ (Z 124 (48 * m + 36 + k)).toInt < (nt : Int) by omega])) (by rw [if_pos (by decide)]; exact (zu_s).trans (by simp [rsM, show k < kp by omega, show ¬ (Z 124 (48 * m + 36 + k)).toInt < (nt : Int) by omega]))) ?_
              exact ih m kp hm hpm hkp hkp12 ma hma hma100 (k + 1) (by omega) (by omega)
            ·
              refine j_iconst C (nI 1) dX5_restore_143 (by decide) ?_
              refine j_goto (tgt := 148) C dX5_restore_144 (by decide) ?_
              refine j_iadd C (nI (zcn (mvM Z m kp (nt : Int)) k + 1)) dX5_restore_148 (nI_add (zcn (mvM Z m kp (nt : Int)) k) 1) ?_
              refine j_istore_n (lv' := [(2, .int (nI (zcn (mvM Z m kp (nt : Int)) k + 1))), (5, .int (nI 4)), (4, .int (Z 121 k)), (3, .int (nI k)), (0, .ref (G.2.1 (113))), (1, .int (nI m))]) C dX5_restore_149 rfl (by rw [hN]; decide) rfl ?_
              refine j_iinc (v := nI (k + 1)) (lv' := [(3, .int (nI (k + 1))), (2, .int (nI (zcn (mvM Z m kp (nt : Int)) k + 1))), (5, .int (nI 4)), (4, .int (Z 121 k)), (0, .ref (G.2.1 (113))), (1, .int (nI m))]) C 3 dX5_restore_150 rfl (nI_add k 1) (by rw [hN]; decide) rfl ?_
              refine j_goto (tgt := 26) C dX5_restore_153 (by decide) ?_
              refine j_sub (lv' := [(3, .int (nI (k + 1))), (2, .int (nI (zcn (mvM Z m kp (nt : Int)) k + 1))), (0, .ref (G.2.1 (113))), (1, .int (nI m))]) [0, 1, 4, 5] rfl ?_
              refine j_lv (lv' := [(3, .int (nI (k + 1))), (2, .int (nI (zcn (mvM Z m kp (nt : Int)) (k + 1)))), (0, .ref (G.2.1 (113))), (1, .int (nI m))]) (by rw [zcn_t (show mvM Z m kp (nt : Int) k = true from decide_eq_true (by rw [(show rsM Z m kp (nt : Int) k 0 = Z (124) (48 * m + k) by simp [rsM, show k < kp by omega, show ¬ (Z 124 (48 * m + 36 + k)).toInt < (nt : Int) by omega])]; omega))]) ?_
              refine j_Z (Z' := (zaf Z (k + 1) (rsM Z m kp (nt : Int)) [0, 1, 2, 3])) (zaf_s4 (by omega) (fun a b hab => by rw [zu_o (by omega), zu_o (by omega), zu_o (by omega), zu_o (by omega), zu_o (by omega), zu_o (by omega), zu_o (by omega), zu_o (by omega), zu_o (by omega)]) (by rw [if_pos (by decide)]; exact (((zu_o (by omega)).trans ((zu_o (by omega)).trans ((zu_o (by omega)).trans ((zu_o (by omega)).trans (zu_s)))))).trans (by simp [rsM, show k < kp by omega, show ¬ (Z 124 (48 * m + 36 + k)).toInt < (nt : Int) by omega])) (by rw [if_pos (by decide)]; exact (((zu_o (by omega)).trans ((zu_o (by omega)).trans ((zu_o (by omega)).trans (zu_s))))).trans (by simp [rsM, show k < kp by omega, show ¬ (Z 124 (48 * m + 36 + k)).toInt < (nt : Int) by omega])) (by rw [if_pos (by decide)]; exact (((zu_o (by omega)).trans ((zu_o (by omega)).trans (zu_s)))).trans (by simp [rsM, show k < kp by omega, show ¬ (Z 124 (48 * m + 36 + k)).toInt < (nt : Int) by omega])) (by rw [if_pos (by decide)]; exact (zu_s).trans (by simp [rsM, show k < kp by omega, show ¬ (Z 124 (48 * m + 36 + k)).toInt < (nt : Int) by omega]))) ?_
              exact ih m kp hm hpm hkp hkp12 ma hma hma100 (k + 1) (by omega) (by omega)
  refine j_aload_n C 0 dX5_restore_0 rfl rfl ?_
  refine j_iconst C (nI 0) dX5_restore_1 (by decide) ?_
  refine j_putI C hD zK5 (zb_M hG) (zs_M hG) (f := 0) (by decide) rfl zk_X5_72 rfl rfl rfl rfl dX5_restore_2 ?_
  refine j_Z hZi ?_
  refine j_iload_n C 1 dX5_restore_5 rfl rfl ?_
  refine j_iconst C (nI 0) dX5_restore_6 (by decide) ?_
  refine j_aload_n C 0 dX5_restore_7 rfl rfl ?_
  refine j_getI C zK5 (zb_M hG) (zs_M hG) (f := 14) (by decide) rfl zk_X5_130 rfl (nI nm) hnm dX5_restore_8 ?_
  refine j_iconst C (nI 1) dX5_restore_11 (by decide) ?_
  refine j_isub C (nI nm - nI 1) dX5_restore_12 rfl ?_
  refine j_callS C hR (kX5_in hD hG (p0 := p0) (p1 := nI 0) (p2 := nI nm - nI 1) (a := (p0).toInt) (b := ((0 : Nat) : Int)) (c := ((nm : Nat) : Int) - ((1 : Nat) : Int)) rfl (nI_toInt (by omega)) (pk_sub_toInt (by omega) (by omega))) [] zmX5_in rfl zk_X5_78 (by decide) rfl rfl (Nat.le_of_ble_eq_true rfl) dX5_restore_13 (fun r13 Z13 h13 => ?_)
  obtain ⟨e13, ⟨rfl, h13⟩ | ⟨rfl, h13⟩⟩ := h13
  ·
    refine j_Z e13 ?_
    refine j_if_ne (tgt := 22) (a := ((1 : Nat) : Int)) C (nI_toInt (by omega)) dX5_restore_16 (by decide) (fun c16 => ?_) (fun c16 => absurd c16 (by omega))
    obtain ⟨m, hm, rfl⟩ := zi_nat (x := p0) (n := nm) (by omega) (by omega)
    obtain ⟨⟨kp, hkp, hkp12⟩, ma, hma, hma100⟩ := hkps m hm
    refine j_iconst C (nI 0) dX5_restore_22 (by decide) ?_
    refine j_istore_n (lv' := [(2, .int (nI 0)), (0, .ref (G.2.1 (113))), (1, .int (nI m))]) C dX5_restore_23 rfl (by rw [hN]; decide) rfl ?_
    refine j_iconst C (nI 0) dX5_restore_24 (by decide) ?_
    refine j_istore_n (lv' := [(3, .int (nI 0)), (2, .int (nI 0)), (0, .ref (G.2.1 (113))), (1, .int (nI m))]) C dX5_restore_25 rfl (by rw [hN]; decide) rfl ?_
    refine j_Z (Z' := (zaf Z (0) (rsM Z m kp (nt : Int)) [0, 1, 2, 3])) (zaf_0).symm ?_
    exact L26 (np + 1) m kp hm rfl hkp hkp12 ma hma hma100 0 (by omega) (by omega)
  ·
    refine j_Z e13 ?_
    refine j_if_ne (tgt := 22) (a := ((0 : Nat) : Int)) C (nI_toInt (by omega)) dX5_restore_16 (by decide) (fun c16 => absurd c16 (by omega)) (fun c16 => ?_)
    refine j_bipush C (-11) dX5_restore_19 (by decide) ?_
    refine j_iret C R dX5_restore_21 ?_
    exact Or.inl ⟨by omega, rfl, rfl⟩
