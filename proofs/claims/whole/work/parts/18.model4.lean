def zco (Z : ZT) (c0 c1 o m : Nat) : ZT := fun a b => if a = c1 ∧ o ≤ b ∧ b < o + m then Z c0 (b - o) else Z a b
theorem zco_o {Z : ZT} {c0 c1 o m a b : Nat} (h : a ≠ c1 ∨ b < o ∨ o + m ≤ b) : zco Z c0 c1 o m a b = Z a b := by
  have : ¬ (a = c1 ∧ o ≤ b ∧ b < o + m) := by omega
  simp only [zco, this, if_false]
theorem zco_i {Z : ZT} {c0 c1 o m j : Nat} (h : j < m) : zco Z c0 c1 o m c1 (o + j) = Z c0 j := by
  have h1 : c1 = c1 ∧ o ≤ o + j ∧ o + j < o + m := by omega
  unfold zco
  rw [if_pos h1, show o + j - o = j by omega]
theorem zco_0 {Z : ZT} {c0 c1 o : Nat} : zco Z c0 c1 o 0 = Z := by
  funext a b
  exact zco_o (by omega)
theorem zco_s {Z : ZT} {c0 c1 o k : Nat} {v : Int32} (hv : v = Z c0 k) : zu (zco Z c0 c1 o k) c1 (o + k) v = zco Z c0 c1 o (k + 1) := by
  funext a b
  by_cases h : a = c1 ∧ b = o + k
  · rw [h.1, h.2, zu_s, zco_i (by omega), hv]
  · rw [zu_o (by omega)]
    by_cases h2 : a = c1 ∧ o ≤ b ∧ b < o + k
    · obtain ⟨j, rfl⟩ : ∃ j, b = o + j := ⟨b - o, by omega⟩
      rw [h2.1, zco_i (by omega), zco_i (by omega)]
    · rw [zco_o (by omega), zco_o (by omega)]
def zci (Z : ZT) (c0 c1 o m : Nat) : ZT := fun a b => if a = c1 ∧ b < m then Z c0 (o + b) else Z a b
theorem zci_o {Z : ZT} {c0 c1 o m a b : Nat} (h : a ≠ c1 ∨ m ≤ b) : zci Z c0 c1 o m a b = Z a b := by
  have : ¬ (a = c1 ∧ b < m) := by omega
  simp only [zci, this, if_false]
theorem zci_i {Z : ZT} {c0 c1 o m j : Nat} (h : j < m) : zci Z c0 c1 o m c1 j = Z c0 (o + j) := by
  simp only [zci, h, and_self, if_true]
theorem zci_0 {Z : ZT} {c0 c1 o : Nat} : zci Z c0 c1 o 0 = Z := by
  funext a b
  exact zci_o (by omega)
theorem zci_s {Z : ZT} {c0 c1 o k : Nat} {v : Int32} (hv : v = Z c0 (o + k)) : zu (zci Z c0 c1 o k) c1 k v = zci Z c0 c1 o (k + 1) := by
  funext a b
  by_cases h : a = c1 ∧ b = k
  · rw [h.1, h.2, zu_s, zci_i (by omega), hv]
  · rw [zu_o (by omega)]
    by_cases h2 : a = c1 ∧ b < k
    · rw [h2.1, zci_i (by omega), zci_i (by omega)]
    · rw [zci_o (by omega), zci_o (by omega)]
theorem zaf_s4 {Z Z1 : ZT} {k : Nat} {F : Nat → Nat → Int32} {gs : List Nat} (hk : k < 12) (h1 : ∀ a b, (a ≠ 121 ∨ 48 ≤ b ∨ b % 12 ≠ k) → Z1 a b = zaf Z k F gs a b) (q0 : Z1 121 k = if 0 ∈ gs then F k 0 else Z 121 k) (q1 : Z1 121 (12 + k) = if 1 ∈ gs then F k 1 else Z 121 (12 + k)) (q2 : Z1 121 (24 + k) = if 2 ∈ gs then F k 2 else Z 121 (24 + k)) (q3 : Z1 121 (36 + k) = if 3 ∈ gs then F k 3 else Z 121 (36 + k)) : Z1 = zaf Z (k + 1) F gs := by
  refine zaf_s hk h1 (fun g h4 hg => ?_) (fun g h4 hg => ?_)
  · rcases (show g = 0 ∨ g = 1 ∨ g = 2 ∨ g = 3 by omega) with rfl | rfl | rfl | rfl
    · rw [show 12 * 0 + k = k by omega, q0, if_pos hg]
    · rw [show 12 * 1 + k = 12 + k by omega, q1, if_pos hg]
    · rw [show 12 * 2 + k = 24 + k by omega, q2, if_pos hg]
    · rw [show 12 * 3 + k = 36 + k by omega, q3, if_pos hg]
  · rcases (show g = 0 ∨ g = 1 ∨ g = 2 ∨ g = 3 by omega) with rfl | rfl | rfl | rfl
    · rw [show 12 * 0 + k = k by omega, q0, if_neg hg]
    · rw [show 12 * 1 + k = 12 + k by omega, q1, if_neg hg]
    · rw [show 12 * 2 + k = 24 + k by omega, q2, if_neg hg]
    · rw [show 12 * 3 + k = 36 + k by omega, q3, if_neg hg]
set_option maxRecDepth 100000 in
set_option maxHeartbeats 4000000 in
theorem kX5_mark {l : Launch} {D : va_G} {Y : YT} {b0 : Nat} {G : GT} (hD : GD b0 G) (hG : Gok 132 G) {Z : ZT} {Zi : ZT} (hZi : zu Zi 113 0 (nI 0) = Z) {np : Nat} (hnp : Z 113 1 = nI np) (hnp12 : np ≤ 12) {nm : Nat} (hnm : Z 113 14 = nI nm) (hnm6 : nm ≤ 6) {na : Nat} (hna : Z 113 13 = nI na) (hna100 : na ≤ 100) (hz : ∀ b, b < 256 → Z 122 b = 0 ∨ Z 122 b = 1) : CI l D Y b0 G yX5_mark cX5_mark 2 (some .int) 0 [.ref (G.2.1 (113))] Zi (fun r Z' => ((6 ≤ nm) ∧ r = (-14) ∧ Z' = Z) ∨ ((nm < 6) ∧ r = nI nm ∧ Z' = (zu (zu (zu (zco (zco (zco Z 121 124 (48 * nm) (48)) 122 125 (256 * nm) (256)) 123 126 (200 * nm) (2 * na)) (127) (nm) (nI na)) (128) (nm) (nI np)) (113) (14) (nI (nm + 1))))) := by
  refine ci_start (lv0 := [(0, .ref (G.2.1 (113)))]) hD rfl rfl (Nat.le_of_ble_eq_true rfl) rfl ?_
  intro E C R hR hD hN
  have L89 : ∀ (n : Nat) (h6 : nm < 6) (k : Nat), 2 * na + 1 ≤ k + n → k ≤ 2 * na → J E 0 0 G 89 [(1, .int (nI k)), (0, .ref (G.2.1 (113)))] [] (zco (zco (zco Z 121 124 (48 * nm) (48)) 122 125 (256 * nm) (256)) 123 126 (200 * nm) (k)) := by
    intro n
    induction n with
    | zero => intro h6 k hn hk; exact absurd hn (by omega)
    | succ n ih =>
      intro h6 k hn hk
      refine j_iload_n C 0 dX5_mark_89 rfl rfl ?_
      refine j_iconst C (nI 2) dX5_mark_90 (by decide) ?_
      refine j_aload_n C 1 dX5_mark_91 rfl rfl ?_
      refine j_getI C zK5 (zb_M hG) (zs_M hG) (f := 13) (by decide) rfl zk_X5_128 rfl (nI na) ((zco_o (by omega)).trans ((zco_o (by omega)).trans ((zco_o (by omega)).trans (hna)))) dX5_mark_92 ?_
      refine j_imul C (nI (2 * na)) dX5_mark_95 (pk_mul 2 na) ?_
      refine j_icmp_ge (tgt := 126) (a := ((k : Nat) : Int)) (b := ((2 * na : Nat) : Int)) C (nI_toInt (by omega)) (nI_toInt (by omega)) dX5_mark_96 (by decide) (fun c96 => ?_) (fun c96 => ?_)
      ·
        have e9 : k = 2 * na := by omega
        refine j_Z (Z' := (zco (zco (zco Z 121 124 (48 * nm) (48)) 122 125 (256 * nm) (256)) 123 126 (200 * nm) (2 * na))) (by rw [e9]) ?_
        refine j_aload_n C 1 dX5_mark_126 rfl rfl ?_
        refine j_getR C zK5 (zb_M hG) (zs_M hG) (f := 18) (by decide) rfl zk_X5_54 rfl (zf_M_18 hG) dX5_mark_127 ?_
        refine j_aload_n C 1 dX5_mark_130 rfl rfl ?_
        refine j_getI C zK5 (zb_M hG) (zs_M hG) (f := 14) (by decide) rfl zk_X5_130 rfl (nI nm) ((zco_o (by omega)).trans ((zco_o (by omega)).trans ((zco_o (by omega)).trans (hnm)))) dX5_mark_131 ?_
        refine j_aload_n C 1 dX5_mark_134 rfl rfl ?_
        refine j_getI C zK5 (zb_M hG) (zs_M hG) (f := 13) (by decide) rfl zk_X5_128 rfl (nI na) ((zco_o (by omega)).trans ((zco_o (by omega)).trans ((zco_o (by omega)).trans (hna)))) dX5_mark_135 ?_
        refine j_iast C hD (zb_rMns hG) (zs_rMns hG) (zl_rMns hG) rfl (by omega) (by decide) dX5_mark_138 ?_
        refine j_aload_n C 1 dX5_mark_139 rfl rfl ?_
        refine j_getR C zK5 (zb_M hG) (zs_M hG) (f := 19) (by decide) rfl zk_X5_57 rfl (zf_M_19 hG) dX5_mark_140 ?_
        refine j_aload_n C 1 dX5_mark_143 rfl rfl ?_
        refine j_getI C zK5 (zb_M hG) (zs_M hG) (f := 14) (by decide) rfl zk_X5_130 rfl (nI nm) ((zu_o (by omega)).trans ((zco_o (by omega)).trans ((zco_o (by omega)).trans ((zco_o (by omega)).trans (hnm))))) dX5_mark_144 ?_
        refine j_aload_n C 1 dX5_mark_147 rfl rfl ?_
        refine j_getI C zK5 (zb_M hG) (zs_M hG) (f := 1) (by decide) rfl zk_X5_75 rfl (nI np) ((zu_o (by omega)).trans ((zco_o (by omega)).trans ((zco_o (by omega)).trans ((zco_o (by omega)).trans (hnp))))) dX5_mark_148 ?_
        refine j_iast C hD (zb_rMpa hG) (zs_rMpa hG) (zl_rMpa hG) rfl (by omega) (by decide) dX5_mark_151 ?_
        refine j_aload_n C 1 dX5_mark_152 rfl rfl ?_
        refine j_dup C dX5_mark_153 rfl ?_
        refine j_getI C zK5 (zb_M hG) (zs_M hG) (f := 14) (by decide) rfl zk_X5_130 rfl (nI nm) ((zu_o (by omega)).trans ((zu_o (by omega)).trans ((zco_o (by omega)).trans ((zco_o (by omega)).trans ((zco_o (by omega)).trans (hnm)))))) dX5_mark_154 ?_
        refine j_iconst C (nI 1) dX5_mark_157 (by decide) ?_
        refine j_iadd C (nI (nm + 1)) dX5_mark_158 (nI_add nm 1) ?_
        refine j_putI C hD zK5 (zb_M hG) (zs_M hG) (f := 14) (by decide) rfl zk_X5_130 rfl rfl rfl rfl dX5_mark_159 ?_
        refine j_aload_n C 1 dX5_mark_162 rfl rfl ?_
        refine j_getI C zK5 (zb_M hG) (zs_M hG) (f := 14) (by decide) rfl zk_X5_130 rfl (nI (nm + 1)) zu_s dX5_mark_163 ?_
        refine j_iconst C (nI 1) dX5_mark_166 (by decide) ?_
        refine j_isub C (nI nm) dX5_mark_167 (pk_sub (by omega)) ?_
        refine j_iret C R dX5_mark_168 ?_
        first | exact Or.inl ⟨by omega, rfl, rfl⟩ | exact Or.inr (⟨by omega, rfl, rfl⟩)
      ·
        refine j_aload_n C 1 dX5_mark_99 rfl rfl ?_
        refine j_getR C zK5 (zb_M hG) (zs_M hG) (f := 17) (by decide) rfl zk_X5_51 rfl (zf_M_17 hG) dX5_mark_100 ?_
        refine j_sipush C (nI 200) dX5_mark_103 (by decide) ?_
        refine j_aload_n C 1 dX5_mark_106 rfl rfl ?_
        refine j_getI C zK5 (zb_M hG) (zs_M hG) (f := 14) (by decide) rfl zk_X5_130 rfl (nI nm) ((zco_o (by omega)).trans ((zco_o (by omega)).trans ((zco_o (by omega)).trans (hnm)))) dX5_mark_107 ?_
        refine j_imul C (nI (200 * nm)) dX5_mark_110 (pk_mul 200 nm) ?_
        refine j_iload_n C 0 dX5_mark_111 rfl rfl ?_
        refine j_iadd C (nI (200 * nm + k)) dX5_mark_112 (nI_add (200 * nm) k) ?_
        refine j_aload_n C 1 dX5_mark_113 rfl rfl ?_
        refine j_getR C zK5 (zb_M hG) (zs_M hG) (f := 12) (by decide) rfl zk_X5_42 rfl (zf_M_12 hG) dX5_mark_114 ?_
        refine j_iload_n C 0 dX5_mark_117 rfl rfl ?_
        refine j_iald C (zb_rNot hG) (zs_rNot hG) (zl_rNot hG) rfl (by omega) (by decide) (Z 123 k) ((zco_o (by omega)).trans ((zco_o (by omega)).trans ((zco_o (by omega))))) dX5_mark_118 ?_
        refine j_iast C hD (zb_rMno hG) (zs_rMno hG) (zl_rMno hG) rfl (by omega) (by decide) dX5_mark_119 ?_
        refine j_iinc (v := nI (k + 1)) (lv' := [(1, .int (nI (k + 1))), (0, .ref (G.2.1 (113)))]) C 0 dX5_mark_120 rfl (nI_add k 1) (by rw [hN]; decide) rfl ?_
        refine j_goto (tgt := 89) C dX5_mark_123 (by decide) ?_
        refine j_Z (Z' := (zco (zco (zco Z 121 124 (48 * nm) (48)) 122 125 (256 * nm) (256)) 123 126 (200 * nm) (k + 1))) (zco_s (by rw [zco_o (by omega), zco_o (by omega)])) ?_
        exact ih h6 (k + 1) (by omega) (by omega)
  have L53 : ∀ (n : Nat) (h6 : nm < 6) (k : Nat), 256 + 1 ≤ k + n → k ≤ 256 → J E 0 0 G 53 [(1, .int (nI k)), (0, .ref (G.2.1 (113)))] [] (zco (zco Z 121 124 (48 * nm) (48)) 122 125 (256 * nm) (k)) := by
    intro n
    induction n with
    | zero => intro h6 k hn hk; exact absurd hn (by omega)
    | succ n ih =>
      intro h6 k hn hk
      refine j_iload_n C 0 dX5_mark_53 rfl rfl ?_
      refine j_sipush C (nI 256) dX5_mark_54 (by decide) ?_
      refine j_icmp_ge (tgt := 87) (a := ((k : Nat) : Int)) (b := ((256 : Nat) : Int)) C (nI_toInt (by omega)) (nI_toInt (by omega)) dX5_mark_57 (by decide) (fun c57 => ?_) (fun c57 => ?_)
      ·
        have e9 : k = 256 := by omega
        refine j_Z (Z' := (zco (zco Z 121 124 (48 * nm) (48)) 122 125 (256 * nm) (256))) (by rw [e9]) ?_
        refine j_iconst C (nI 0) dX5_mark_87 (by decide) ?_
        refine j_istore_n (lv' := [(1, .int (nI 0)), (0, .ref (G.2.1 (113)))]) C dX5_mark_88 rfl (by rw [hN]; decide) rfl ?_
        refine j_Z (Z' := (zco (zco (zco Z 121 124 (48 * nm) (48)) 122 125 (256 * nm) (256)) 123 126 (200 * nm) (0))) (zco_0).symm ?_
        exact L89 (2 * na + 1) (by omega) 0 (by omega) (by omega)
      ·
        refine j_aload_n C 1 dX5_mark_60 rfl rfl ?_
        refine j_getR C zK5 (zb_M hG) (zs_M hG) (f := 16) (by decide) rfl zk_X5_48 rfl (zf_M_16 hG) dX5_mark_61 ?_
        refine j_sipush C (nI 256) dX5_mark_64 (by decide) ?_
        refine j_aload_n C 1 dX5_mark_67 rfl rfl ?_
        refine j_getI C zK5 (zb_M hG) (zs_M hG) (f := 14) (by decide) rfl zk_X5_130 rfl (nI nm) ((zco_o (by omega)).trans ((zco_o (by omega)).trans (hnm))) dX5_mark_68 ?_
        refine j_imul C (nI (256 * nm)) dX5_mark_71 (pk_mul 256 nm) ?_
        refine j_iload_n C 0 dX5_mark_72 rfl rfl ?_
        refine j_iadd C (nI (256 * nm + k)) dX5_mark_73 (nI_add (256 * nm) k) ?_
        refine j_aload_n C 1 dX5_mark_74 rfl rfl ?_
        refine j_getR C zK5 (zb_M hG) (zs_M hG) (f := 11) (by decide) rfl zk_X5_39 rfl (zf_M_11 hG) dX5_mark_75 ?_
        refine j_iload_n C 0 dX5_mark_78 rfl rfl ?_
        refine j_zald C (zb_rGiv hG) (zs_rGiv hG) (zl_rGiv hG) rfl (by omega) (by decide) (Z 122 k) ((zco_o (by omega)).trans ((zco_o (by omega)))) dX5_mark_79 ?_
        refine j_zast C hD (zb_rMgi hG) (zs_rMgi hG) (zl_rMgi hG) rfl (by omega) (by decide) (hz _ (by omega)) dX5_mark_80 ?_
        refine j_iinc (v := nI (k + 1)) (lv' := [(1, .int (nI (k + 1))), (0, .ref (G.2.1 (113)))]) C 0 dX5_mark_81 rfl (nI_add k 1) (by rw [hN]; decide) rfl ?_
        refine j_goto (tgt := 53) C dX5_mark_84 (by decide) ?_
        refine j_Z (Z' := (zco (zco Z 121 124 (48 * nm) (48)) 122 125 (256 * nm) (k + 1))) (zco_s (by rw [zco_o (by omega)])) ?_
        exact ih h6 (k + 1) (by omega) (by omega)
  have L19 : ∀ (n : Nat) (h6 : nm < 6) (k : Nat), 48 + 1 ≤ k + n → k ≤ 48 → J E 0 0 G 19 [(1, .int (nI k)), (0, .ref (G.2.1 (113)))] [] (zco Z 121 124 (48 * nm) (k)) := by
    intro n
    induction n with
    | zero => intro h6 k hn hk; exact absurd hn (by omega)
    | succ n ih =>
      intro h6 k hn hk
      refine j_iload_n C 0 dX5_mark_19 rfl rfl ?_
      refine j_bipush C (nI 48) dX5_mark_20 (by decide) ?_
      refine j_icmp_ge (tgt := 51) (a := ((k : Nat) : Int)) (b := ((48 : Nat) : Int)) C (nI_toInt (by omega)) (nI_toInt (by omega)) dX5_mark_22 (by decide) (fun c22 => ?_) (fun c22 => ?_)
      ·
        have e9 : k = 48 := by omega
        refine j_Z (Z' := (zco Z 121 124 (48 * nm) (48))) (by rw [e9]) ?_
        refine j_iconst C (nI 0) dX5_mark_51 (by decide) ?_
        refine j_istore_n (lv' := [(1, .int (nI 0)), (0, .ref (G.2.1 (113)))]) C dX5_mark_52 rfl (by rw [hN]; decide) rfl ?_
        refine j_Z (Z' := (zco (zco Z 121 124 (48 * nm) (48)) 122 125 (256 * nm) (0))) (zco_0).symm ?_
        exact L53 257 (by omega) 0 (by omega) (by omega)
      ·
        refine j_aload_n C 1 dX5_mark_25 rfl rfl ?_
        refine j_getR C zK5 (zb_M hG) (zs_M hG) (f := 15) (by decide) rfl zk_X5_45 rfl (zf_M_15 hG) dX5_mark_26 ?_
        refine j_bipush C (nI 48) dX5_mark_29 (by decide) ?_
        refine j_aload_n C 1 dX5_mark_31 rfl rfl ?_
        refine j_getI C zK5 (zb_M hG) (zs_M hG) (f := 14) (by decide) rfl zk_X5_130 rfl (nI nm) ((zco_o (by omega)).trans (hnm)) dX5_mark_32 ?_
        refine j_imul C (nI (48 * nm)) dX5_mark_35 (pk_mul 48 nm) ?_
        refine j_iload_n C 0 dX5_mark_36 rfl rfl ?_
        refine j_iadd C (nI (48 * nm + k)) dX5_mark_37 (nI_add (48 * nm) k) ?_
        refine j_aload_n C 1 dX5_mark_38 rfl rfl ?_
        refine j_getR C zK5 (zb_M hG) (zs_M hG) (f := 10) (by decide) rfl zk_X5_36 rfl (zf_M_10 hG) dX5_mark_39 ?_
        refine j_iload_n C 0 dX5_mark_42 rfl rfl ?_
        refine j_iald C (zb_rAt hG) (zs_rAt hG) (zl_rAt hG) rfl (by omega) (by decide) (Z 121 k) (zco_o (by omega)) dX5_mark_43 ?_
        refine j_iast C hD (zb_rMat hG) (zs_rMat hG) (zl_rMat hG) rfl (by omega) (by decide) dX5_mark_44 ?_
        refine j_iinc (v := nI (k + 1)) (lv' := [(1, .int (nI (k + 1))), (0, .ref (G.2.1 (113)))]) C 0 dX5_mark_45 rfl (nI_add k 1) (by rw [hN]; decide) rfl ?_
        refine j_goto (tgt := 19) C dX5_mark_48 (by decide) ?_
        refine j_Z (Z' := (zco Z 121 124 (48 * nm) (k + 1))) (zco_s rfl) ?_
        exact ih h6 (k + 1) (by omega) (by omega)
  refine j_aload_n C 0 dX5_mark_0 rfl rfl ?_
  refine j_iconst C (nI 0) dX5_mark_1 (by decide) ?_
  refine j_putI C hD zK5 (zb_M hG) (zs_M hG) (f := 0) (by decide) rfl zk_X5_72 rfl rfl rfl rfl dX5_mark_2 ?_
  refine j_Z hZi ?_
  refine j_aload_n C 0 dX5_mark_5 rfl rfl ?_
  refine j_getI C zK5 (zb_M hG) (zs_M hG) (f := 14) (by decide) rfl zk_X5_130 rfl (nI nm) hnm dX5_mark_6 ?_
  refine j_bipush C (nI 6) dX5_mark_9 (by decide) ?_
  refine j_icmp_ne (tgt := 17) (a := ((nm : Nat) : Int)) (b := ((6 : Nat) : Int)) C (nI_toInt (by omega)) (nI_toInt (by omega)) dX5_mark_11 (by decide) (fun c11 => ?_) (fun c11 => ?_)
  ·
    refine j_iconst C (nI 0) dX5_mark_17 (by decide) ?_
    refine j_istore_n (lv' := [(1, .int (nI 0)), (0, .ref (G.2.1 (113)))]) C dX5_mark_18 rfl (by rw [hN]; decide) rfl ?_
    refine j_Z (Z' := (zco Z 121 124 (48 * nm) (0))) (zco_0).symm ?_
    exact L19 49 (by omega) 0 (by omega) (by omega)
  ·
    refine j_bipush C (-14) dX5_mark_14 (by decide) ?_
    refine j_iret C R dX5_mark_16 ?_
    first | exact Or.inl ⟨by omega, rfl, rfl⟩ | exact Or.inr (⟨by omega, rfl, rfl⟩)
def rsM (Z : ZT) (m kp : Nat) (ntI : Int) (i g : Nat) : Int32 := if g = 0 then (if i < kp then Z 124 (48 * m + i) else nI 0) else if g = 1 then (if i < kp then Z 124 (48 * m + 12 + i) else -1) else if g = 2 then (if i < kp then Z 124 (48 * m + 24 + i) else nI 0) else (if i < kp ∧ (Z 124 (48 * m + 36 + i)).toInt < ntI then Z 124 (48 * m + 36 + i) else -1)
def mvM (Z : ZT) (m kp : Nat) (ntI : Int) (i : Nat) : Bool := decide ((rsM Z m kp ntI i 0).toInt ≠ (Z 121 i).toInt)
set_option maxRecDepth 100000 in
set_option maxHeartbeats 4000000 in
theorem kX5_restore {l : Launch} {D : va_G} {Y : YT} {b0 : Nat} {G : GT} (hD : GD b0 G) (hG : Gok 132 G) {Z : ZT} {Zi : ZT} (hZi : zu Zi 113 0 (nI 0) = Z) {np : Nat} (hnp : Z 113 1 = nI np) (hnp12 : np ≤ 12) {nm : Nat} (hnm : Z 113 14 = nI nm) (hnm6 : nm ≤ 6) {nt : Nat} (hnt : Z 113 2 = nI nt) (hnt6 : nt ≤ 6) (hkps : ∀ m, m < nm → (∃ kp : Nat, Z 128 m = nI kp ∧ kp ≤ 12) ∧ ∃ ma : Nat, Z 127 m = nI ma ∧ ma ≤ 100) (hmz : ∀ m, m < nm → ∀ b, b < 256 → Z 125 (256 * m + b) = 0 ∨ Z 125 (256 * m + b) = 1) (p0 : Int32) : CI l D Y b0 G yX5_restore cX5_restore 6 (some .int) 1 [.ref (G.2.1 (113)), .int (p0)] Zi (fun r Z' => ((p0.toInt < 0 ∨ (nm : Int) ≤ p0.toInt) ∧ r = (-11) ∧ Z' = Z) ∨ ∃ m : Nat, m < nm ∧ p0 = nI m ∧ ∃ kp ma : Nat, Z 128 m = nI kp ∧ Z 127 m = nI ma ∧ r = nI (zcn (mvM Z m kp (nt : Int)) np) ∧ Z' = (zci (zu (zci (zaf Z np (rsM Z m kp (nt : Int)) [0, 1, 2, 3]) 125 122 (256 * m) (256)) (113) (13) (nI ma)) 126 123 (200 * m) (2 * ma))) := by
  refine ci_start (lv0 := [(0, .ref (G.2.1 (113))), (1, .int (p0))]) hD rfl rfl (Nat.le_of_ble_eq_true rfl) rfl ?_
  intro E C R hR hD hN
  have L201 : ∀ (n : Nat) (m kp : Nat) (hm : m < nm) (hpm : p0 = nI m) (hkp : Z 128 m = nI kp) (hkp12 : kp ≤ 12) (ma : Nat) (hma : Z 127 m = nI ma) (hma100 : ma ≤ 100) (k : Nat), 2 * ma + 1 ≤ k + n → k ≤ 2 * ma → J E 0 0 G 201 [(3, .int (nI k)), (2, .int (nI (zcn (mvM Z m kp (nt : Int)) np))), (0, .ref (G.2.1 (113))), (1, .int (nI m))] [] (zci (zu (zci (zaf Z np (rsM Z m kp (nt : Int)) [0, 1, 2, 3]) 125 122 (256 * m) (256)) (113) (13) (nI ma)) 126 123 (200 * m) (k)) := by
    intro n
    induction n with
    | zero => intro m kp hm hpm hkp hkp12 ma hma hma100 k hn hk; exact absurd hn (by omega)
    | succ n ih =>
      intro m kp hm hpm hkp hkp12 ma hma hma100 k hn hk
      refine j_iload_n C 0 dX5_restore_201 rfl rfl ?_
      refine j_iconst C (nI 2) dX5_restore_202 (by decide) ?_
      refine j_aload_n C 2 dX5_restore_203 rfl rfl ?_
      refine j_getI C zK5 (zb_M hG) (zs_M hG) (f := 13) (by decide) rfl zk_X5_128 rfl (nI ma) ((zci_o (by omega)).trans (zu_s)) dX5_restore_204 ?_
      refine j_imul C (nI (2 * ma)) dX5_restore_207 (pk_mul 2 ma) ?_
      refine j_icmp_ge (tgt := 235) (a := ((k : Nat) : Int)) (b := ((2 * ma : Nat) : Int)) C (nI_toInt (by omega)) (nI_toInt (by omega)) dX5_restore_208 (by decide) (fun c208 => ?_) (fun c208 => ?_)
      ·
        have e9 : k = 2 * ma := by omega
        refine j_Z (Z' := (zci (zu (zci (zaf Z np (rsM Z m kp (nt : Int)) [0, 1, 2, 3]) 125 122 (256 * m) (256)) (113) (13) (nI ma)) 126 123 (200 * m) (2 * ma))) (by rw [e9]) ?_
        refine j_iload_n C 1 dX5_restore_235 rfl rfl ?_
        refine j_iret C R dX5_restore_236 ?_
        exact Or.inr ⟨m, hm, hpm, kp, ma, hkp, hma, rfl, rfl⟩
      ·
        refine j_aload_n C 2 dX5_restore_211 rfl rfl ?_
        refine j_getR C zK5 (zb_M hG) (zs_M hG) (f := 12) (by decide) rfl zk_X5_42 rfl (zf_M_12 hG) dX5_restore_212 ?_
        refine j_iload_n C 0 dX5_restore_215 rfl rfl ?_
        refine j_aload_n C 2 dX5_restore_216 rfl rfl ?_
        refine j_getR C zK5 (zb_M hG) (zs_M hG) (f := 17) (by decide) rfl zk_X5_51 rfl (zf_M_17 hG) dX5_restore_217 ?_
        refine j_sipush C (nI 200) dX5_restore_220 (by decide) ?_
        refine j_iload_n C 3 dX5_restore_223 rfl rfl ?_
        refine j_imul C (nI (200 * m)) dX5_restore_224 (pk_mul 200 m) ?_
        refine j_iload_n C 0 dX5_restore_225 rfl rfl ?_
        refine j_iadd C (nI (200 * m + k)) dX5_restore_226 (nI_add (200 * m) k) ?_
        refine j_iald C (zb_rMno hG) (zs_rMno hG) (zl_rMno hG) rfl (by omega) (by decide) (Z (126) (200 * m + k)) ((zci_o (by omega)).trans ((zu_o (by omega)).trans ((zci_o (by omega)).trans ((zaf_o (by omega)))))) dX5_restore_227 ?_
        refine j_iast C hD (zb_rNot hG) (zs_rNot hG) (zl_rNot hG) rfl (by omega) (by decide) dX5_restore_228 ?_
        refine j_iinc (v := nI (k + 1)) (lv' := [(3, .int (nI (k + 1))), (2, .int (nI (zcn (mvM Z m kp (nt : Int)) np))), (0, .ref (G.2.1 (113))), (1, .int (nI m))]) C 0 dX5_restore_229 rfl (nI_add k 1) (by rw [hN]; decide) rfl ?_
        refine j_goto (tgt := 201) C dX5_restore_232 (by decide) ?_
        refine j_Z (Z' := (zci (zu (zci (zaf Z np (rsM Z m kp (nt : Int)) [0, 1, 2, 3]) 125 122 (256 * m) (256)) (113) (13) (nI ma)) 126 123 (200 * m) (k + 1))) (zci_s (by rw [zu_o (by omega), zci_o (by omega), zaf_o (by omega)])) ?_
        exact ih m kp hm hpm hkp hkp12 ma hma hma100 (k + 1) (by omega) (by omega)
  have L158 : ∀ (n : Nat) (m kp : Nat) (hm : m < nm) (hpm : p0 = nI m) (hkp : Z 128 m = nI kp) (hkp12 : kp ≤ 12) (ma : Nat) (hma : Z 127 m = nI ma) (hma100 : ma ≤ 100) (k : Nat), 256 + 1 ≤ k + n → k ≤ 256 → J E 0 0 G 158 [(3, .int (nI k)), (2, .int (nI (zcn (mvM Z m kp (nt : Int)) np))), (0, .ref (G.2.1 (113))), (1, .int (nI m))] [] (zci (zaf Z np (rsM Z m kp (nt : Int)) [0, 1, 2, 3]) 125 122 (256 * m) (k)) := by
    intro n
    induction n with
    | zero => intro m kp hm hpm hkp hkp12 ma hma hma100 k hn hk; exact absurd hn (by omega)
    | succ n ih =>
      intro m kp hm hpm hkp hkp12 ma hma hma100 k hn hk
      refine j_iload_n C 0 dX5_restore_158 rfl rfl ?_
      refine j_sipush C (nI 256) dX5_restore_159 (by decide) ?_
      refine j_icmp_ge (tgt := 189) (a := ((k : Nat) : Int)) (b := ((256 : Nat) : Int)) C (nI_toInt (by omega)) (nI_toInt (by omega)) dX5_restore_162 (by decide) (fun c162 => ?_) (fun c162 => ?_)
      ·
        have e9 : k = 256 := by omega
        refine j_Z (Z' := (zci (zaf Z np (rsM Z m kp (nt : Int)) [0, 1, 2, 3]) 125 122 (256 * m) (256))) (by rw [e9]) ?_
        refine j_aload_n C 2 dX5_restore_189 rfl rfl ?_
        refine j_aload_n C 2 dX5_restore_190 rfl rfl ?_
        refine j_getR C zK5 (zb_M hG) (zs_M hG) (f := 18) (by decide) rfl zk_X5_54 rfl (zf_M_18 hG) dX5_restore_191 ?_
        refine j_iload_n C 3 dX5_restore_194 rfl rfl ?_
        refine j_iald C (zb_rMns hG) (zs_rMns hG) (zl_rMns hG) rfl (by omega) (by decide) (nI ma) ((zci_o (by omega)).trans ((zaf_o (by omega)).trans (hma))) dX5_restore_195 ?_
        refine j_putI C hD zK5 (zb_M hG) (zs_M hG) (f := 13) (by decide) rfl zk_X5_128 rfl rfl rfl rfl dX5_restore_196 ?_
        refine j_iconst C (nI 0) dX5_restore_199 (by decide) ?_
        refine j_istore_n (lv' := [(3, .int (nI 0)), (2, .int (nI (zcn (mvM Z m kp (nt : Int)) np))), (0, .ref (G.2.1 (113))), (1, .int (nI m))]) C dX5_restore_200 rfl (by rw [hN]; decide) rfl ?_
        refine j_Z (Z' := (zci (zu (zci (zaf Z np (rsM Z m kp (nt : Int)) [0, 1, 2, 3]) 125 122 (256 * m) (256)) (113) (13) (nI ma)) 126 123 (200 * m) (0))) (zci_0).symm ?_
        exact L201 (2 * ma + 1) m kp hm hpm hkp hkp12 ma hma hma100 0 (by omega) (by omega)
      ·
        refine j_aload_n C 2 dX5_restore_165 rfl rfl ?_
        refine j_getR C zK5 (zb_M hG) (zs_M hG) (f := 11) (by decide) rfl zk_X5_39 rfl (zf_M_11 hG) dX5_restore_166 ?_
        refine j_iload_n C 0 dX5_restore_169 rfl rfl ?_
        refine j_aload_n C 2 dX5_restore_170 rfl rfl ?_
        refine j_getR C zK5 (zb_M hG) (zs_M hG) (f := 16) (by decide) rfl zk_X5_48 rfl (zf_M_16 hG) dX5_restore_171 ?_
        refine j_sipush C (nI 256) dX5_restore_174 (by decide) ?_
        refine j_iload_n C 3 dX5_restore_177 rfl rfl ?_
        refine j_imul C (nI (256 * m)) dX5_restore_178 (pk_mul 256 m) ?_
        refine j_iload_n C 0 dX5_restore_179 rfl rfl ?_
        refine j_iadd C (nI (256 * m + k)) dX5_restore_180 (nI_add (256 * m) k) ?_
        refine j_zald C (zb_rMgi hG) (zs_rMgi hG) (zl_rMgi hG) rfl (by omega) (by decide) (Z (125) (256 * m + k)) ((zci_o (by omega)).trans ((zaf_o (by omega)))) dX5_restore_181 ?_
        refine j_zast C hD (zb_rGiv hG) (zs_rGiv hG) (zl_rGiv hG) rfl (by omega) (by decide) (hmz m hm _ (by omega)) dX5_restore_182 ?_
        refine j_iinc (v := nI (k + 1)) (lv' := [(3, .int (nI (k + 1))), (2, .int (nI (zcn (mvM Z m kp (nt : Int)) np))), (0, .ref (G.2.1 (113))), (1, .int (nI m))]) C 0 dX5_restore_183 rfl (nI_add k 1) (by rw [hN]; decide) rfl ?_
        refine j_goto (tgt := 158) C dX5_restore_186 (by decide) ?_
        refine j_Z (Z' := (zci (zaf Z np (rsM Z m kp (nt : Int)) [0, 1, 2, 3]) 125 122 (256 * m) (k + 1))) (zci_s (by rw [zaf_o (by omega)])) ?_
        exact ih m kp hm hpm hkp hkp12 ma hma hma100 (k + 1) (by omega) (by omega)
  have L26 : ∀ (n : Nat) (m kp : Nat) (hm : m < nm) (hpm : p0 = nI m) (hkp : Z 128 m = nI kp) (hkp12 : kp ≤ 12) (ma : Nat) (hma : Z 127 m = nI ma) (hma100 : ma ≤ 100) (k : Nat), np + 1 ≤ k + n → k ≤ np → J E 0 0 G 26 [(3, .int (nI k)), (2, .int (nI (zcn (mvM Z m kp (nt : Int)) k))), (0, .ref (G.2.1 (113))), (1, .int (nI m))] [] (zaf Z (k) (rsM Z m kp (nt : Int)) [0, 1, 2, 3]) := by
    intro n
    induction n with
    | zero => intro m kp hm hpm hkp hkp12 ma hma hma100 k hn hk; exact absurd hn (by omega)
    | succ n ih =>
      intro m kp hm hpm hkp hkp12 ma hma hma100 k hn hk
      have z00 : (nI 0).toInt = 0 := rfl
      refine j_iload_n C 0 dX5_restore_26 rfl rfl ?_
      refine j_aload_n C 2 dX5_restore_27 rfl rfl ?_
      refine j_getI C zK5 (zb_M hG) (zs_M hG) (f := 1) (by decide) rfl zk_X5_75 rfl (nI np) ((zaf_o (by omega)).trans (hnp)) dX5_restore_28 ?_
      refine j_icmp_ge (tgt := 156) (a := ((k : Nat) : Int)) (b := ((np : Nat) : Int)) C (nI_toInt (by omega)) (nI_toInt (by omega)) dX5_restore_31 (by decide) (fun c31 => ?_) (fun c31 => ?_)
      ·
        have e9 : k = np := by omega
        refine j_Z (Z' := (zaf Z np (rsM Z m kp (nt : Int)) [0, 1, 2, 3])) (by rw [e9]) ?_
        refine j_lv (lv' := [(3, .int (nI np)), (2, .int (nI (zcn (mvM Z m kp (nt : Int)) np))), (0, .ref (G.2.1 (113))), (1, .int (nI m))]) (by rw [e9]) ?_
        refine j_iconst C (nI 0) dX5_restore_156 (by decide) ?_
        refine j_istore_n (lv' := [(3, .int (nI 0)), (2, .int (nI (zcn (mvM Z m kp (nt : Int)) np))), (0, .ref (G.2.1 (113))), (1, .int (nI m))]) C dX5_restore_157 rfl (by rw [hN]; decide) rfl ?_
        refine j_Z (Z' := (zci (zaf Z np (rsM Z m kp (nt : Int)) [0, 1, 2, 3]) 125 122 (256 * m) (0))) (zci_0).symm ?_
        exact L158 257 m kp hm hpm hkp hkp12 ma hma hma100 0 (by omega) (by omega)
      ·
        refine j_aload_n C 2 dX5_restore_34 rfl rfl ?_
        refine j_getR C zK5 (zb_M hG) (zs_M hG) (f := 10) (by decide) rfl zk_X5_36 rfl (zf_M_10 hG) dX5_restore_35 ?_
        refine j_iload_n C 0 dX5_restore_38 rfl rfl ?_
        refine j_iald C (zb_rAt hG) (zs_rAt hG) (zl_rAt hG) rfl (by omega) (by decide) (Z 121 k) (zaf_o (by omega)) dX5_restore_39 ?_
        refine j_istore (lv' := [(4, .int (Z 121 k)), (3, .int (nI k)), (2, .int (nI (zcn (mvM Z m kp (nt : Int)) k))), (0, .ref (G.2.1 (113))), (1, .int (nI m))]) C dX5_restore_40 (by rw [hN]; decide) rfl ?_
        refine j_aload_n C 3 dX5_restore_42 rfl rfl ?_
        refine j_iload_n C 1 dX5_restore_43 rfl rfl ?_
        refine j_callV C hR (kX5_fresh hD hG (i := k) (by omega)) [] zmX5_fresh zk_X5_86 zK5 (zb_M hG) (zs_M hG) (by decide) rfl rfl (Nat.le_of_ble_eq_true rfl) dX5_restore_44 (fun Z44 h44 => ?_)
        refine j_Z (Z' := (zu (zu (zu (zu (zaf Z (k) (rsM Z m kp (nt : Int)) [0, 1, 2, 3]) (121) (k) (nI 0)) (121) (12 + k) (-1)) (121) (24 + k) (nI 0)) (121) (36 + k) (-1))) h44 ?_
        refine j_iconst C (nI 0) dX5_restore_47 (by decide) ?_
        refine j_istore (lv' := [(5, .int (nI 0)), (4, .int (Z 121 k)), (3, .int (nI k)), (2, .int (nI (zcn (mvM Z m kp (nt : Int)) k))), (0, .ref (G.2.1 (113))), (1, .int (nI m))]) C dX5_restore_48 (by rw [hN]; decide) rfl ?_
        refine j_iload C 0 dX5_restore_50 rfl ?_
        refine j_iconst C (nI 4) dX5_restore_52 (by decide) ?_
        refine j_icmp_ge (tgt := 101) (a := ((0 : Nat) : Int)) (b := ((4 : Nat) : Int)) C (nI_toInt (by omega)) (nI_toInt (by omega)) dX5_restore_53 (by decide) (fun c53 => absurd c53 (by omega)) (fun c53 => ?_)
        refine j_iload_n C 2 dX5_restore_56 rfl rfl ?_
        refine j_aload_n C 4 dX5_restore_57 rfl rfl ?_
        refine j_getR C zK5 (zb_M hG) (zs_M hG) (f := 19) (by decide) rfl zk_X5_57 rfl (zf_M_19 hG) dX5_restore_58 ?_
        refine j_iload_n C 5 dX5_restore_61 rfl rfl ?_
        refine j_iald C (zb_rMpa hG) (zs_rMpa hG) (zl_rMpa hG) rfl (by omega) (by decide) (nI kp) ((zu_o (by omega)).trans ((zu_o (by omega)).trans ((zu_o (by omega)).trans ((zu_o (by omega)).trans ((zaf_o (by omega)).trans (hkp)))))) dX5_restore_62 ?_
        refine j_icmp_ge (tgt := 101) (a := ((k : Nat) : Int)) (b := ((kp : Nat) : Int)) C (nI_toInt (by omega)) (nI_toInt (by omega)) dX5_restore_63 (by decide) (fun c63 => ?_) (fun c63 => ?_)
        ·
          refine j_aload_n C 4 dX5_restore_101 rfl rfl ?_
          refine j_getR C zK5 (zb_M hG) (zs_M hG) (f := 10) (by decide) rfl zk_X5_36 rfl (zf_M_10 hG) dX5_restore_102 ?_
          refine j_bipush C (nI 36) dX5_restore_105 (by decide) ?_
          refine j_iload_n C 2 dX5_restore_107 rfl rfl ?_
          refine j_iadd C (nI (36 + k)) dX5_restore_108 (nI_add 36 k) ?_
          refine j_aload_n C 4 dX5_restore_109 rfl rfl ?_
          refine j_iload_n C 2 dX5_restore_110 rfl rfl ?_
          refine j_callI C hR (kX5_reader hD hG (i := k) (by omega) (re := -1) zu_s) [.int (nI (36 + k)), .ref (G.2.1 (121))] zmX5_reader zk_X5_105 zK5 (zb_M hG) (zs_M hG) (by decide) rfl rfl (Nat.le_of_ble_eq_true rfl) dX5_restore_111 (fun r111 Z111 h111 => ?_)
          obtain ⟨h111, rfl⟩ := h111
          refine j_Z (Z' := (zu (zu (zu (zu (zaf Z (k) (rsM Z m kp (nt : Int)) [0, 1, 2, 3]) (121) (k) (nI 0)) (121) (12 + k) (-1)) (121) (24 + k) (nI 0)) (121) (36 + k) (-1))) h111 ?_
          refine j_aload_n C 4 dX5_restore_114 rfl rfl ?_
          refine j_getI C zK5 (zb_M hG) (zs_M hG) (f := 2) (by decide) rfl zk_X5_7 rfl (nI nt) ((zu_o (by omega)).trans ((zu_o (by omega)).trans ((zu_o (by omega)).trans ((zu_o (by omega)).trans ((zaf_o (by omega)).trans (hnt)))))) dX5_restore_115 ?_
          refine j_icmp_lt (tgt := 125) (a := -1) (b := ((nt : Nat) : Int)) C (show ((-1 : Int32)).toInt = -1 by decide) (nI_toInt (by omega)) dX5_restore_118 (by decide) (fun c118 => ?_) (fun c118 => ?_)
          ·
            refine j_aload_n C 4 dX5_restore_125 rfl rfl ?_
            refine j_iload_n C 2 dX5_restore_126 rfl rfl ?_
            refine j_callI C hR (kX5_reader hD hG (i := k) (by omega) (re := -1) zu_s) [.int (nI (36 + k)), .ref (G.2.1 (121))] zmX5_reader zk_X5_105 zK5 (zb_M hG) (zs_M hG) (by decide) rfl rfl (Nat.le_of_ble_eq_true rfl) dX5_restore_127 (fun r127 Z127 h127 => ?_)
            obtain ⟨h127, rfl⟩ := h127
            refine j_Z (Z' := (zu (zu (zu (zu (zaf Z (k) (rsM Z m kp (nt : Int)) [0, 1, 2, 3]) (121) (k) (nI 0)) (121) (12 + k) (-1)) (121) (24 + k) (nI 0)) (121) (36 + k) (-1))) h127 ?_
            refine j_iast C hD (zb_rAt hG) (zs_rAt hG) (zl_rAt hG) rfl (by omega) (by decide) dX5_restore_130 ?_
            refine j_iload_n C 3 dX5_restore_131 rfl rfl ?_
            refine j_aload_n C 4 dX5_restore_132 rfl rfl ?_
            refine j_getR C zK5 (zb_M hG) (zs_M hG) (f := 10) (by decide) rfl zk_X5_36 rfl (zf_M_10 hG) dX5_restore_133 ?_
            refine j_iload_n C 2 dX5_restore_136 rfl rfl ?_
            refine j_iald C (zb_rAt hG) (zs_rAt hG) (zl_rAt hG) rfl (by omega) (by decide) (nI 0) ((zu_o (by omega)).trans ((zu_o (by omega)).trans ((zu_o (by omega)).trans ((zu_o (by omega)).trans (zu_s))))) dX5_restore_137 ?_
            refine j_iload C 1 dX5_restore_138 rfl ?_
            refine j_icmp_eq (tgt := 147) (a := ((0 : Nat) : Int)) (b := (Z 121 k).toInt) C (nI_toInt (by omega)) rfl dX5_restore_140 (by decide) (fun c140 => ?_) (fun c140 => ?_)
            ·
              refine j_iconst C (nI 0) dX5_restore_147 (by decide) ?_
              refine j_iadd C (nI (zcn (mvM Z m kp (nt : Int)) k + 0)) dX5_restore_148 (nI_add (zcn (mvM Z m kp (nt : Int)) k) 0) ?_
              refine j_istore_n (lv' := [(2, .int (nI (zcn (mvM Z m kp (nt : Int)) k + 0))), (5, .int (nI 0)), (4, .int (Z 121 k)), (3, .int (nI k)), (0, .ref (G.2.1 (113))), (1, .int (nI m))]) C dX5_restore_149 rfl (by rw [hN]; decide) rfl ?_
              refine j_iinc (v := nI (k + 1)) (lv' := [(3, .int (nI (k + 1))), (2, .int (nI (zcn (mvM Z m kp (nt : Int)) k + 0))), (5, .int (nI 0)), (4, .int (Z 121 k)), (0, .ref (G.2.1 (113))), (1, .int (nI m))]) C 3 dX5_restore_150 rfl (nI_add k 1) (by rw [hN]; decide) rfl ?_
              refine j_goto (tgt := 26) C dX5_restore_153 (by decide) ?_
              refine j_sub (lv' := [(3, .int (nI (k + 1))), (2, .int (nI (zcn (mvM Z m kp (nt : Int)) k + 0))), (0, .ref (G.2.1 (113))), (1, .int (nI m))]) [0, 1, 4, 5] rfl ?_
              refine j_lv (lv' := [(3, .int (nI (k + 1))), (2, .int (nI (zcn (mvM Z m kp (nt : Int)) (k + 1)))), (0, .ref (G.2.1 (113))), (1, .int (nI m))]) (by rw [zcn_f (show mvM Z m kp (nt : Int) k = false from decide_eq_false (by rw [(show rsM Z m kp (nt : Int) k 0 = nI 0 by simp [rsM, show ¬ k < kp by omega])]; omega))]; rfl) ?_
              refine j_Z (Z' := (zaf Z (k + 1) (rsM Z m kp (nt : Int)) [0, 1, 2, 3])) (zaf_s4 (by omega) (fun a b hab => by rw [zu_o (by omega), zu_o (by omega), zu_o (by omega), zu_o (by omega), zu_o (by omega)]) (by rw [if_pos (by decide)]; exact (((zu_o (by omega)).trans ((zu_o (by omega)).trans ((zu_o (by omega)).trans ((zu_o (by omega)).trans (zu_s)))))).trans (by simp [rsM, show ¬ k < kp by omega])) (by rw [if_pos (by decide)]; exact (((zu_o (by omega)).trans ((zu_o (by omega)).trans ((zu_o (by omega)).trans (zu_s))))).trans (by simp [rsM, show ¬ k < kp by omega])) (by rw [if_pos (by decide)]; exact (((zu_o (by omega)).trans ((zu_o (by omega)).trans (zu_s)))).trans (by simp [rsM, show ¬ k < kp by omega])) (by rw [if_pos (by decide)]; exact (zu_s).trans (by simp [rsM, show ¬ k < kp by omega]))) ?_
              exact ih m kp hm hpm hkp hkp12 ma hma hma100 (k + 1) (by omega) (by omega)
            ·
              refine j_iconst C (nI 1) dX5_restore_143 (by decide) ?_
              refine j_goto (tgt := 148) C dX5_restore_144 (by decide) ?_
              refine j_iadd C (nI (zcn (mvM Z m kp (nt : Int)) k + 1)) dX5_restore_148 (nI_add (zcn (mvM Z m kp (nt : Int)) k) 1) ?_
              refine j_istore_n (lv' := [(2, .int (nI (zcn (mvM Z m kp (nt : Int)) k + 1))), (5, .int (nI 0)), (4, .int (Z 121 k)), (3, .int (nI k)), (0, .ref (G.2.1 (113))), (1, .int (nI m))]) C dX5_restore_149 rfl (by rw [hN]; decide) rfl ?_
              refine j_iinc (v := nI (k + 1)) (lv' := [(3, .int (nI (k + 1))), (2, .int (nI (zcn (mvM Z m kp (nt : Int)) k + 1))), (5, .int (nI 0)), (4, .int (Z 121 k)), (0, .ref (G.2.1 (113))), (1, .int (nI m))]) C 3 dX5_restore_150 rfl (nI_add k 1) (by rw [hN]; decide) rfl ?_
              refine j_goto (tgt := 26) C dX5_restore_153 (by decide) ?_
              refine j_sub (lv' := [(3, .int (nI (k + 1))), (2, .int (nI (zcn (mvM Z m kp (nt : Int)) k + 1))), (0, .ref (G.2.1 (113))), (1, .int (nI m))]) [0, 1, 4, 5] rfl ?_
              refine j_lv (lv' := [(3, .int (nI (k + 1))), (2, .int (nI (zcn (mvM Z m kp (nt : Int)) (k + 1)))), (0, .ref (G.2.1 (113))), (1, .int (nI m))]) (by rw [zcn_t (show mvM Z m kp (nt : Int) k = true from decide_eq_true (by rw [(show rsM Z m kp (nt : Int) k 0 = nI 0 by simp [rsM, show ¬ k < kp by omega])]; omega))]) ?_
              refine j_Z (Z' := (zaf Z (k + 1) (rsM Z m kp (nt : Int)) [0, 1, 2, 3])) (zaf_s4 (by omega) (fun a b hab => by rw [zu_o (by omega), zu_o (by omega), zu_o (by omega), zu_o (by omega), zu_o (by omega)]) (by rw [if_pos (by decide)]; exact (((zu_o (by omega)).trans ((zu_o (by omega)).trans ((zu_o (by omega)).trans ((zu_o (by omega)).trans (zu_s)))))).trans (by simp [rsM, show ¬ k < kp by omega])) (by rw [if_pos (by decide)]; exact (((zu_o (by omega)).trans ((zu_o (by omega)).trans ((zu_o (by omega)).trans (zu_s))))).trans (by simp [rsM, show ¬ k < kp by omega])) (by rw [if_pos (by decide)]; exact (((zu_o (by omega)).trans ((zu_o (by omega)).trans (zu_s)))).trans (by simp [rsM, show ¬ k < kp by omega])) (by rw [if_pos (by decide)]; exact (zu_s).trans (by simp [rsM, show ¬ k < kp by omega]))) ?_
              exact ih m kp hm hpm hkp hkp12 ma hma hma100 (k + 1) (by omega) (by omega)
          ·
            refine j_iconst C (-1) dX5_restore_121 (by decide) ?_
            refine j_goto (tgt := 130) C dX5_restore_122 (by decide) ?_
            refine j_iast C hD (zb_rAt hG) (zs_rAt hG) (zl_rAt hG) rfl (by omega) (by decide) dX5_restore_130 ?_
            refine j_iload_n C 3 dX5_restore_131 rfl rfl ?_
            refine j_aload_n C 4 dX5_restore_132 rfl rfl ?_
            refine j_getR C zK5 (zb_M hG) (zs_M hG) (f := 10) (by decide) rfl zk_X5_36 rfl (zf_M_10 hG) dX5_restore_133 ?_
            refine j_iload_n C 2 dX5_restore_136 rfl rfl ?_
            refine j_iald C (zb_rAt hG) (zs_rAt hG) (zl_rAt hG) rfl (by omega) (by decide) (nI 0) ((zu_o (by omega)).trans ((zu_o (by omega)).trans ((zu_o (by omega)).trans ((zu_o (by omega)).trans (zu_s))))) dX5_restore_137 ?_
            refine j_iload C 1 dX5_restore_138 rfl ?_
            refine j_icmp_eq (tgt := 147) (a := ((0 : Nat) : Int)) (b := (Z 121 k).toInt) C (nI_toInt (by omega)) rfl dX5_restore_140 (by decide) (fun c140 => ?_) (fun c140 => ?_)
            ·
              refine j_iconst C (nI 0) dX5_restore_147 (by decide) ?_
              refine j_iadd C (nI (zcn (mvM Z m kp (nt : Int)) k + 0)) dX5_restore_148 (nI_add (zcn (mvM Z m kp (nt : Int)) k) 0) ?_
              refine j_istore_n (lv' := [(2, .int (nI (zcn (mvM Z m kp (nt : Int)) k + 0))), (5, .int (nI 0)), (4, .int (Z 121 k)), (3, .int (nI k)), (0, .ref (G.2.1 (113))), (1, .int (nI m))]) C dX5_restore_149 rfl (by rw [hN]; decide) rfl ?_
              refine j_iinc (v := nI (k + 1)) (lv' := [(3, .int (nI (k + 1))), (2, .int (nI (zcn (mvM Z m kp (nt : Int)) k + 0))), (5, .int (nI 0)), (4, .int (Z 121 k)), (0, .ref (G.2.1 (113))), (1, .int (nI m))]) C 3 dX5_restore_150 rfl (nI_add k 1) (by rw [hN]; decide) rfl ?_
              refine j_goto (tgt := 26) C dX5_restore_153 (by decide) ?_
              refine j_sub (lv' := [(3, .int (nI (k + 1))), (2, .int (nI (zcn (mvM Z m kp (nt : Int)) k + 0))), (0, .ref (G.2.1 (113))), (1, .int (nI m))]) [0, 1, 4, 5] rfl ?_
              refine j_lv (lv' := [(3, .int (nI (k + 1))), (2, .int (nI (zcn (mvM Z m kp (nt : Int)) (k + 1)))), (0, .ref (G.2.1 (113))), (1, .int (nI m))]) (by rw [zcn_f (show mvM Z m kp (nt : Int) k = false from decide_eq_false (by rw [(show rsM Z m kp (nt : Int) k 0 = nI 0 by simp [rsM, show ¬ k < kp by omega])]; omega))]; rfl) ?_
              refine j_Z (Z' := (zaf Z (k + 1) (rsM Z m kp (nt : Int)) [0, 1, 2, 3])) (zaf_s4 (by omega) (fun a b hab => by rw [zu_o (by omega), zu_o (by omega), zu_o (by omega), zu_o (by omega), zu_o (by omega)]) (by rw [if_pos (by decide)]; exact (((zu_o (by omega)).trans ((zu_o (by omega)).trans ((zu_o (by omega)).trans ((zu_o (by omega)).trans (zu_s)))))).trans (by simp [rsM, show ¬ k < kp by omega])) (by rw [if_pos (by decide)]; exact (((zu_o (by omega)).trans ((zu_o (by omega)).trans ((zu_o (by omega)).trans (zu_s))))).trans (by simp [rsM, show ¬ k < kp by omega])) (by rw [if_pos (by decide)]; exact (((zu_o (by omega)).trans ((zu_o (by omega)).trans (zu_s)))).trans (by simp [rsM, show ¬ k < kp by omega])) (by rw [if_pos (by decide)]; exact (zu_s).trans (by simp [rsM, show ¬ k < kp by omega]))) ?_
              exact ih m kp hm hpm hkp hkp12 ma hma hma100 (k + 1) (by omega) (by omega)
            ·
              refine j_iconst C (nI 1) dX5_restore_143 (by decide) ?_
              refine j_goto (tgt := 148) C dX5_restore_144 (by decide) ?_
              refine j_iadd C (nI (zcn (mvM Z m kp (nt : Int)) k + 1)) dX5_restore_148 (nI_add (zcn (mvM Z m kp (nt : Int)) k) 1) ?_
              refine j_istore_n (lv' := [(2, .int (nI (zcn (mvM Z m kp (nt : Int)) k + 1))), (5, .int (nI 0)), (4, .int (Z 121 k)), (3, .int (nI k)), (0, .ref (G.2.1 (113))), (1, .int (nI m))]) C dX5_restore_149 rfl (by rw [hN]; decide) rfl ?_
              refine j_iinc (v := nI (k + 1)) (lv' := [(3, .int (nI (k + 1))), (2, .int (nI (zcn (mvM Z m kp (nt : Int)) k + 1))), (5, .int (nI 0)), (4, .int (Z 121 k)), (0, .ref (G.2.1 (113))), (1, .int (nI m))]) C 3 dX5_restore_150 rfl (nI_add k 1) (by rw [hN]; decide) rfl ?_
              refine j_goto (tgt := 26) C dX5_restore_153 (by decide) ?_
              refine j_sub (lv' := [(3, .int (nI (k + 1))), (2, .int (nI (zcn (mvM Z m kp (nt : Int)) k + 1))), (0, .ref (G.2.1 (113))), (1, .int (nI m))]) [0, 1, 4, 5] rfl ?_
              refine j_lv (lv' := [(3, .int (nI (k + 1))), (2, .int (nI (zcn (mvM Z m kp (nt : Int)) (k + 1)))), (0, .ref (G.2.1 (113))), (1, .int (nI m))]) (by rw [zcn_t (show mvM Z m kp (nt : Int) k = true from decide_eq_true (by rw [(show rsM Z m kp (nt : Int) k 0 = nI 0 by simp [rsM, show ¬ k < kp by omega])]; omega))]) ?_
              refine j_Z (Z' := (zaf Z (k + 1) (rsM Z m kp (nt : Int)) [0, 1, 2, 3])) (zaf_s4 (by omega) (fun a b hab => by rw [zu_o (by omega), zu_o (by omega), zu_o (by omega), zu_o (by omega), zu_o (by omega)]) (by rw [if_pos (by decide)]; exact (((zu_o (by omega)).trans ((zu_o (by omega)).trans ((zu_o (by omega)).trans ((zu_o (by omega)).trans (zu_s)))))).trans (by simp [rsM, show ¬ k < kp by omega])) (by rw [if_pos (by decide)]; exact (((zu_o (by omega)).trans ((zu_o (by omega)).trans ((zu_o (by omega)).trans (zu_s))))).trans (by simp [rsM, show ¬ k < kp by omega])) (by rw [if_pos (by decide)]; exact (((zu_o (by omega)).trans ((zu_o (by omega)).trans (zu_s)))).trans (by simp [rsM, show ¬ k < kp by omega])) (by rw [if_pos (by decide)]; exact (zu_s).trans (by simp [rsM, show ¬ k < kp by omega]))) ?_
              exact ih m kp hm hpm hkp hkp12 ma hma hma100 (k + 1) (by omega) (by omega)
        ·
          refine j_aload_n C 4 dX5_restore_66 rfl rfl ?_
          refine j_getR C zK5 (zb_M hG) (zs_M hG) (f := 10) (by decide) rfl zk_X5_36 rfl (zf_M_10 hG) dX5_restore_67 ?_
          refine j_bipush C (nI 12) dX5_restore_70 (by decide) ?_
          refine j_iload C 0 dX5_restore_72 rfl ?_
          refine j_imul C (nI 0) dX5_restore_74 (pk_mul 12 0) ?_
          refine j_iload_n C 2 dX5_restore_75 rfl rfl ?_
          refine j_iadd C (nI k) dX5_restore_76 (by rw [nI_add, Nat.zero_add]) ?_
          refine j_aload_n C 4 dX5_restore_77 rfl rfl ?_
          refine j_getR C zK5 (zb_M hG) (zs_M hG) (f := 15) (by decide) rfl zk_X5_45 rfl (zf_M_15 hG) dX5_restore_78 ?_
          refine j_bipush C (nI 48) dX5_restore_81 (by decide) ?_
          refine j_iload_n C 5 dX5_restore_83 rfl rfl ?_
          refine j_imul C (nI (48 * m)) dX5_restore_84 (pk_mul 48 m) ?_
          refine j_bipush C (nI 12) dX5_restore_85 (by decide) ?_
          refine j_iload C 0 dX5_restore_87 rfl ?_
          refine j_imul C (nI 0) dX5_restore_89 (pk_mul 12 0) ?_
          refine j_iadd C (nI (48 * m)) dX5_restore_90 (by rw [nI_add, Nat.add_zero]) ?_
          refine j_iload_n C 2 dX5_restore_91 rfl rfl ?_
          refine j_iadd C (nI (48 * m + k)) dX5_restore_92 (nI_add (48 * m) k) ?_
          refine j_iald C (zb_rMat hG) (zs_rMat hG) (zl_rMat hG) rfl (by omega) (by decide) (Z (124) (48 * m + k)) ((zu_o (by omega)).trans ((zu_o (by omega)).trans ((zu_o (by omega)).trans ((zu_o (by omega)).trans ((zaf_o (by omega))))))) dX5_restore_93 ?_
          refine j_iast C hD (zb_rAt hG) (zs_rAt hG) (zl_rAt hG) rfl (by omega) (by decide) dX5_restore_94 ?_
          refine j_iinc (v := nI 1) (lv' := [(5, .int (nI 1)), (4, .int (Z 121 k)), (3, .int (nI k)), (2, .int (nI (zcn (mvM Z m kp (nt : Int)) k))), (0, .ref (G.2.1 (113))), (1, .int (nI m))]) C 0 dX5_restore_95 rfl (nI_add 0 1) (by rw [hN]; decide) rfl ?_
          refine j_goto (tgt := 50) C dX5_restore_98 (by decide) ?_
          refine j_iload C 0 dX5_restore_50 rfl ?_
          refine j_iconst C (nI 4) dX5_restore_52 (by decide) ?_
          refine j_icmp_ge (tgt := 101) (a := ((1 : Nat) : Int)) (b := ((4 : Nat) : Int)) C (nI_toInt (by omega)) (nI_toInt (by omega)) dX5_restore_53 (by decide) (fun c53 => absurd c53 (by omega)) (fun c53 => ?_)
          refine j_iload_n C 2 dX5_restore_56 rfl rfl ?_
          refine j_aload_n C 4 dX5_restore_57 rfl rfl ?_
          refine j_getR C zK5 (zb_M hG) (zs_M hG) (f := 19) (by decide) rfl zk_X5_57 rfl (zf_M_19 hG) dX5_restore_58 ?_
          refine j_iload_n C 5 dX5_restore_61 rfl rfl ?_
          refine j_iald C (zb_rMpa hG) (zs_rMpa hG) (zl_rMpa hG) rfl (by omega) (by decide) (nI kp) ((zu_o (by omega)).trans ((zu_o (by omega)).trans ((zu_o (by omega)).trans ((zu_o (by omega)).trans ((zu_o (by omega)).trans ((zaf_o (by omega)).trans (hkp))))))) dX5_restore_62 ?_
          refine j_icmp_ge (tgt := 101) (a := ((k : Nat) : Int)) (b := ((kp : Nat) : Int)) C (nI_toInt (by omega)) (nI_toInt (by omega)) dX5_restore_63 (by decide) (fun c63 => absurd c63 (by omega)) (fun c63 => ?_)
          refine j_aload_n C 4 dX5_restore_66 rfl rfl ?_
          refine j_getR C zK5 (zb_M hG) (zs_M hG) (f := 10) (by decide) rfl zk_X5_36 rfl (zf_M_10 hG) dX5_restore_67 ?_
          refine j_bipush C (nI 12) dX5_restore_70 (by decide) ?_
          refine j_iload C 0 dX5_restore_72 rfl ?_
          refine j_imul C (nI 12) dX5_restore_74 (pk_mul 12 1) ?_
          refine j_iload_n C 2 dX5_restore_75 rfl rfl ?_
          refine j_iadd C (nI (12 + k)) dX5_restore_76 (nI_add 12 k) ?_
          refine j_aload_n C 4 dX5_restore_77 rfl rfl ?_
          refine j_getR C zK5 (zb_M hG) (zs_M hG) (f := 15) (by decide) rfl zk_X5_45 rfl (zf_M_15 hG) dX5_restore_78 ?_
          refine j_bipush C (nI 48) dX5_restore_81 (by decide) ?_
          refine j_iload_n C 5 dX5_restore_83 rfl rfl ?_
          refine j_imul C (nI (48 * m)) dX5_restore_84 (pk_mul 48 m) ?_
          refine j_bipush C (nI 12) dX5_restore_85 (by decide) ?_
          refine j_iload C 0 dX5_restore_87 rfl ?_
          refine j_imul C (nI 12) dX5_restore_89 (pk_mul 12 1) ?_
          refine j_iadd C (nI (48 * m + 12)) dX5_restore_90 (nI_add (48 * m) 12) ?_
          refine j_iload_n C 2 dX5_restore_91 rfl rfl ?_
          refine j_iadd C (nI (48 * m + 12 + k)) dX5_restore_92 (nI_add (48 * m + 12) k) ?_
          refine j_iald C (zb_rMat hG) (zs_rMat hG) (zl_rMat hG) rfl (by omega) (by decide) (Z (124) (48 * m + 12 + k)) ((zu_o (by omega)).trans ((zu_o (by omega)).trans ((zu_o (by omega)).trans ((zu_o (by omega)).trans ((zu_o (by omega)).trans ((zaf_o (by omega)))))))) dX5_restore_93 ?_
          refine j_iast C hD (zb_rAt hG) (zs_rAt hG) (zl_rAt hG) rfl (by omega) (by decide) dX5_restore_94 ?_
          refine j_iinc (v := nI 2) (lv' := [(5, .int (nI 2)), (4, .int (Z 121 k)), (3, .int (nI k)), (2, .int (nI (zcn (mvM Z m kp (nt : Int)) k))), (0, .ref (G.2.1 (113))), (1, .int (nI m))]) C 0 dX5_restore_95 rfl (nI_add 1 1) (by rw [hN]; decide) rfl ?_
          refine j_goto (tgt := 50) C dX5_restore_98 (by decide) ?_
          refine j_iload C 0 dX5_restore_50 rfl ?_
          refine j_iconst C (nI 4) dX5_restore_52 (by decide) ?_
          refine j_icmp_ge (tgt := 101) (a := ((2 : Nat) : Int)) (b := ((4 : Nat) : Int)) C (nI_toInt (by omega)) (nI_toInt (by omega)) dX5_restore_53 (by decide) (fun c53 => absurd c53 (by omega)) (fun c53 => ?_)
          refine j_iload_n C 2 dX5_restore_56 rfl rfl ?_
          refine j_aload_n C 4 dX5_restore_57 rfl rfl ?_
          refine j_getR C zK5 (zb_M hG) (zs_M hG) (f := 19) (by decide) rfl zk_X5_57 rfl (zf_M_19 hG) dX5_restore_58 ?_
          refine j_iload_n C 5 dX5_restore_61 rfl rfl ?_
          refine j_iald C (zb_rMpa hG) (zs_rMpa hG) (zl_rMpa hG) rfl (by omega) (by decide) (nI kp) ((zu_o (by omega)).trans ((zu_o (by omega)).trans ((zu_o (by omega)).trans ((zu_o (by omega)).trans ((zu_o (by omega)).trans ((zu_o (by omega)).trans ((zaf_o (by omega)).trans (hkp)))))))) dX5_restore_62 ?_
          refine j_icmp_ge (tgt := 101) (a := ((k : Nat) : Int)) (b := ((kp : Nat) : Int)) C (nI_toInt (by omega)) (nI_toInt (by omega)) dX5_restore_63 (by decide) (fun c63 => absurd c63 (by omega)) (fun c63 => ?_)
          refine j_aload_n C 4 dX5_restore_66 rfl rfl ?_
          refine j_getR C zK5 (zb_M hG) (zs_M hG) (f := 10) (by decide) rfl zk_X5_36 rfl (zf_M_10 hG) dX5_restore_67 ?_
          refine j_bipush C (nI 12) dX5_restore_70 (by decide) ?_
          refine j_iload C 0 dX5_restore_72 rfl ?_
          refine j_imul C (nI 24) dX5_restore_74 (pk_mul 12 2) ?_
          refine j_iload_n C 2 dX5_restore_75 rfl rfl ?_
          refine j_iadd C (nI (24 + k)) dX5_restore_76 (nI_add 24 k) ?_
          refine j_aload_n C 4 dX5_restore_77 rfl rfl ?_
          refine j_getR C zK5 (zb_M hG) (zs_M hG) (f := 15) (by decide) rfl zk_X5_45 rfl (zf_M_15 hG) dX5_restore_78 ?_
          refine j_bipush C (nI 48) dX5_restore_81 (by decide) ?_
          refine j_iload_n C 5 dX5_restore_83 rfl rfl ?_
          refine j_imul C (nI (48 * m)) dX5_restore_84 (pk_mul 48 m) ?_
          refine j_bipush C (nI 12) dX5_restore_85 (by decide) ?_
          refine j_iload C 0 dX5_restore_87 rfl ?_
          refine j_imul C (nI 24) dX5_restore_89 (pk_mul 12 2) ?_
          refine j_iadd C (nI (48 * m + 24)) dX5_restore_90 (nI_add (48 * m) 24) ?_
          refine j_iload_n C 2 dX5_restore_91 rfl rfl ?_
          refine j_iadd C (nI (48 * m + 24 + k)) dX5_restore_92 (nI_add (48 * m + 24) k) ?_
          refine j_iald C (zb_rMat hG) (zs_rMat hG) (zl_rMat hG) rfl (by omega) (by decide) (Z (124) (48 * m + 24 + k)) ((zu_o (by omega)).trans ((zu_o (by omega)).trans ((zu_o (by omega)).trans ((zu_o (by omega)).trans ((zu_o (by omega)).trans ((zu_o (by omega)).trans ((zaf_o (by omega))))))))) dX5_restore_93 ?_
          refine j_iast C hD (zb_rAt hG) (zs_rAt hG) (zl_rAt hG) rfl (by omega) (by decide) dX5_restore_94 ?_
          refine j_iinc (v := nI 3) (lv' := [(5, .int (nI 3)), (4, .int (Z 121 k)), (3, .int (nI k)), (2, .int (nI (zcn (mvM Z m kp (nt : Int)) k))), (0, .ref (G.2.1 (113))), (1, .int (nI m))]) C 0 dX5_restore_95 rfl (nI_add 2 1) (by rw [hN]; decide) rfl ?_
          refine j_goto (tgt := 50) C dX5_restore_98 (by decide) ?_
          refine j_iload C 0 dX5_restore_50 rfl ?_
          refine j_iconst C (nI 4) dX5_restore_52 (by decide) ?_
          refine j_icmp_ge (tgt := 101) (a := ((3 : Nat) : Int)) (b := ((4 : Nat) : Int)) C (nI_toInt (by omega)) (nI_toInt (by omega)) dX5_restore_53 (by decide) (fun c53 => absurd c53 (by omega)) (fun c53 => ?_)
          refine j_iload_n C 2 dX5_restore_56 rfl rfl ?_
          refine j_aload_n C 4 dX5_restore_57 rfl rfl ?_
          refine j_getR C zK5 (zb_M hG) (zs_M hG) (f := 19) (by decide) rfl zk_X5_57 rfl (zf_M_19 hG) dX5_restore_58 ?_
          refine j_iload_n C 5 dX5_restore_61 rfl rfl ?_
          refine j_iald C (zb_rMpa hG) (zs_rMpa hG) (zl_rMpa hG) rfl (by omega) (by decide) (nI kp) ((zu_o (by omega)).trans ((zu_o (by omega)).trans ((zu_o (by omega)).trans ((zu_o (by omega)).trans ((zu_o (by omega)).trans ((zu_o (by omega)).trans ((zu_o (by omega)).trans ((zaf_o (by omega)).trans (hkp))))))))) dX5_restore_62 ?_
          refine j_icmp_ge (tgt := 101) (a := ((k : Nat) : Int)) (b := ((kp : Nat) : Int)) C (nI_toInt (by omega)) (nI_toInt (by omega)) dX5_restore_63 (by decide) (fun c63 => absurd c63 (by omega)) (fun c63 => ?_)
          refine j_aload_n C 4 dX5_restore_66 rfl rfl ?_
          refine j_getR C zK5 (zb_M hG) (zs_M hG) (f := 10) (by decide) rfl zk_X5_36 rfl (zf_M_10 hG) dX5_restore_67 ?_
          refine j_bipush C (nI 12) dX5_restore_70 (by decide) ?_
          refine j_iload C 0 dX5_restore_72 rfl ?_
          refine j_imul C (nI 36) dX5_restore_74 (pk_mul 12 3) ?_
          refine j_iload_n C 2 dX5_restore_75 rfl rfl ?_
          refine j_iadd C (nI (36 + k)) dX5_restore_76 (nI_add 36 k) ?_
          refine j_aload_n C 4 dX5_restore_77 rfl rfl ?_
          refine j_getR C zK5 (zb_M hG) (zs_M hG) (f := 15) (by decide) rfl zk_X5_45 rfl (zf_M_15 hG) dX5_restore_78 ?_
          refine j_bipush C (nI 48) dX5_restore_81 (by decide) ?_
          refine j_iload_n C 5 dX5_restore_83 rfl rfl ?_
          refine j_imul C (nI (48 * m)) dX5_restore_84 (pk_mul 48 m) ?_
          refine j_bipush C (nI 12) dX5_restore_85 (by decide) ?_
          refine j_iload C 0 dX5_restore_87 rfl ?_
          refine j_imul C (nI 36) dX5_restore_89 (pk_mul 12 3) ?_
          refine j_iadd C (nI (48 * m + 36)) dX5_restore_90 (nI_add (48 * m) 36) ?_
          refine j_iload_n C 2 dX5_restore_91 rfl rfl ?_
          refine j_iadd C (nI (48 * m + 36 + k)) dX5_restore_92 (nI_add (48 * m + 36) k) ?_
          refine j_iald C (zb_rMat hG) (zs_rMat hG) (zl_rMat hG) rfl (by omega) (by decide) (Z (124) (48 * m + 36 + k)) ((zu_o (by omega)).trans ((zu_o (by omega)).trans ((zu_o (by omega)).trans ((zu_o (by omega)).trans ((zu_o (by omega)).trans ((zu_o (by omega)).trans ((zu_o (by omega)).trans ((zaf_o (by omega)))))))))) dX5_restore_93 ?_
          refine j_iast C hD (zb_rAt hG) (zs_rAt hG) (zl_rAt hG) rfl (by omega) (by decide) dX5_restore_94 ?_
          refine j_iinc (v := nI 4) (lv' := [(5, .int (nI 4)), (4, .int (Z 121 k)), (3, .int (nI k)), (2, .int (nI (zcn (mvM Z m kp (nt : Int)) k))), (0, .ref (G.2.1 (113))), (1, .int (nI m))]) C 0 dX5_restore_95 rfl (nI_add 3 1) (by rw [hN]; decide) rfl ?_
          refine j_goto (tgt := 50) C dX5_restore_98 (by decide) ?_
          refine j_iload C 0 dX5_restore_50 rfl ?_
          refine j_iconst C (nI 4) dX5_restore_52 (by decide) ?_
          refine j_icmp_ge (tgt := 101) (a := ((4 : Nat) : Int)) (b := ((4 : Nat) : Int)) C (nI_toInt (by omega)) (nI_toInt (by omega)) dX5_restore_53 (by decide) (fun c53 => ?_) (fun c53 => absurd c53 (by omega))
          refine j_aload_n C 4 dX5_restore_101 rfl rfl ?_
          refine j_getR C zK5 (zb_M hG) (zs_M hG) (f := 10) (by decide) rfl zk_X5_36 rfl (zf_M_10 hG) dX5_restore_102 ?_
          refine j_bipush C (nI 36) dX5_restore_105 (by decide) ?_
          refine j_iload_n C 2 dX5_restore_107 rfl rfl ?_
          refine j_iadd C (nI (36 + k)) dX5_restore_108 (nI_add 36 k) ?_
          refine j_aload_n C 4 dX5_restore_109 rfl rfl ?_
          refine j_iload_n C 2 dX5_restore_110 rfl rfl ?_
          refine j_callI C hR (kX5_reader hD hG (i := k) (by omega) (re := Z (124) (48 * m + 36 + k)) zu_s) [.int (nI (36 + k)), .ref (G.2.1 (121))] zmX5_reader zk_X5_105 zK5 (zb_M hG) (zs_M hG) (by decide) rfl rfl (Nat.le_of_ble_eq_true rfl) dX5_restore_111 (fun r111 Z111 h111 => ?_)
          obtain ⟨h111, rfl⟩ := h111
          refine j_Z (Z' := (zu (zu (zu (zu (zu (zu (zu (zu (zaf Z (k) (rsM Z m kp (nt : Int)) [0, 1, 2, 3]) (121) (k) (nI 0)) (121) (12 + k) (-1)) (121) (24 + k) (nI 0)) (121) (36 + k) (-1)) (121) (k) (Z (124) (48 * m + k))) (121) (12 + k) (Z (124) (48 * m + 12 + k))) (121) (24 + k) (Z (124) (48 * m + 24 + k))) (121) (36 + k) (Z (124) (48 * m + 36 + k)))) h111 ?_
          refine j_aload_n C 4 dX5_restore_114 rfl rfl ?_
          refine j_getI C zK5 (zb_M hG) (zs_M hG) (f := 2) (by decide) rfl zk_X5_7 rfl (nI nt) ((zu_o (by omega)).trans ((zu_o (by omega)).trans ((zu_o (by omega)).trans ((zu_o (by omega)).trans ((zu_o (by omega)).trans ((zu_o (by omega)).trans ((zu_o (by omega)).trans ((zu_o (by omega)).trans ((zaf_o (by omega)).trans (hnt)))))))))) dX5_restore_115 ?_
          refine j_icmp_lt (tgt := 125) (a := (Z (124) (48 * m + 36 + k)).toInt) (b := ((nt : Nat) : Int)) C rfl (nI_toInt (by omega)) dX5_restore_118 (by decide) (fun c118 => ?_) (fun c118 => ?_)
          ·
            refine j_aload_n C 4 dX5_restore_125 rfl rfl ?_
            refine j_iload_n C 2 dX5_restore_126 rfl rfl ?_
            refine j_callI C hR (kX5_reader hD hG (i := k) (by omega) (re := Z (124) (48 * m + 36 + k)) zu_s) [.int (nI (36 + k)), .ref (G.2.1 (121))] zmX5_reader zk_X5_105 zK5 (zb_M hG) (zs_M hG) (by decide) rfl rfl (Nat.le_of_ble_eq_true rfl) dX5_restore_127 (fun r127 Z127 h127 => ?_)
            obtain ⟨h127, rfl⟩ := h127
            refine j_Z (Z' := (zu (zu (zu (zu (zu (zu (zu (zu (zaf Z (k) (rsM Z m kp (nt : Int)) [0, 1, 2, 3]) (121) (k) (nI 0)) (121) (12 + k) (-1)) (121) (24 + k) (nI 0)) (121) (36 + k) (-1)) (121) (k) (Z (124) (48 * m + k))) (121) (12 + k) (Z (124) (48 * m + 12 + k))) (121) (24 + k) (Z (124) (48 * m + 24 + k))) (121) (36 + k) (Z (124) (48 * m + 36 + k)))) h127 ?_
            refine j_iast C hD (zb_rAt hG) (zs_rAt hG) (zl_rAt hG) rfl (by omega) (by decide) dX5_restore_130 ?_
            refine j_iload_n C 3 dX5_restore_131 rfl rfl ?_
            refine j_aload_n C 4 dX5_restore_132 rfl rfl ?_
            refine j_getR C zK5 (zb_M hG) (zs_M hG) (f := 10) (by decide) rfl zk_X5_36 rfl (zf_M_10 hG) dX5_restore_133 ?_
            refine j_iload_n C 2 dX5_restore_136 rfl rfl ?_
            refine j_iald C (zb_rAt hG) (zs_rAt hG) (zl_rAt hG) rfl (by omega) (by decide) (Z (124) (48 * m + k)) ((zu_o (by omega)).trans ((zu_o (by omega)).trans ((zu_o (by omega)).trans ((zu_o (by omega)).trans (zu_s))))) dX5_restore_137 ?_
            refine j_iload C 1 dX5_restore_138 rfl ?_
            refine j_icmp_eq (tgt := 147) (a := (Z (124) (48 * m + k)).toInt) (b := (Z 121 k).toInt) C rfl rfl dX5_restore_140 (by decide) (fun c140 => ?_) (fun c140 => ?_)
            ·
              refine j_iconst C (nI 0) dX5_restore_147 (by decide) ?_
              refine j_iadd C (nI (zcn (mvM Z m kp (nt : Int)) k + 0)) dX5_restore_148 (nI_add (zcn (mvM Z m kp (nt : Int)) k) 0) ?_
              refine j_istore_n (lv' := [(2, .int (nI (zcn (mvM Z m kp (nt : Int)) k + 0))), (5, .int (nI 4)), (4, .int (Z 121 k)), (3, .int (nI k)), (0, .ref (G.2.1 (113))), (1, .int (nI m))]) C dX5_restore_149 rfl (by rw [hN]; decide) rfl ?_
              refine j_iinc (v := nI (k + 1)) (lv' := [(3, .int (nI (k + 1))), (2, .int (nI (zcn (mvM Z m kp (nt : Int)) k + 0))), (5, .int (nI 4)), (4, .int (Z 121 k)), (0, .ref (G.2.1 (113))), (1, .int (nI m))]) C 3 dX5_restore_150 rfl (nI_add k 1) (by rw [hN]; decide) rfl ?_
              refine j_goto (tgt := 26) C dX5_restore_153 (by decide) ?_
              refine j_sub (lv' := [(3, .int (nI (k + 1))), (2, .int (nI (zcn (mvM Z m kp (nt : Int)) k + 0))), (0, .ref (G.2.1 (113))), (1, .int (nI m))]) [0, 1, 4, 5] rfl ?_
              refine j_lv (lv' := [(3, .int (nI (k + 1))), (2, .int (nI (zcn (mvM Z m kp (nt : Int)) (k + 1)))), (0, .ref (G.2.1 (113))), (1, .int (nI m))]) (by rw [zcn_f (show mvM Z m kp (nt : Int) k = false from decide_eq_false (by rw [(show rsM Z m kp (nt : Int) k 0 = Z (124) (48 * m + k) by simp [rsM, show k < kp by omega, show (Z 124 (48 * m + 36 + k)).toInt < (nt : Int) by omega])]; omega))]; rfl) ?_
              refine j_Z (Z' := (zaf Z (k + 1) (rsM Z m kp (nt : Int)) [0, 1, 2, 3])) (zaf_s4 (by omega) (fun a b hab => by rw [zu_o (by omega), zu_o (by omega), zu_o (by omega), zu_o (by omega), zu_o (by omega), zu_o (by omega), zu_o (by omega), zu_o (by omega), zu_o (by omega)]) (by rw [if_pos (by decide)]; exact (((zu_o (by omega)).trans ((zu_o (by omega)).trans ((zu_o (by omega)).trans ((zu_o (by omega)).trans (zu_s)))))).trans (by simp [rsM, show k < kp by omega, show (Z 124 (48 * m + 36 + k)).toInt < (nt : Int) by omega])) (by rw [if_pos (by decide)]; exact (((zu_o (by omega)).trans ((zu_o (by omega)).trans ((zu_o (by omega)).trans (zu_s))))).trans (by simp [rsM, show k < kp by omega, show (Z 124 (48 * m + 36 + k)).toInt < (nt : Int) by omega])) (by rw [if_pos (by decide)]; exact (((zu_o (by omega)).trans ((zu_o (by omega)).trans (zu_s)))).trans (by simp [rsM, show k < kp by omega, show (Z 124 (48 * m + 36 + k)).toInt < (nt : Int) by omega])) (by rw [if_pos (by decide)]; exact (zu_s).trans (by simp [rsM, show k < kp by omega, show (Z 124 (48 * m + 36 + k)).toInt < (nt : Int) by omega]))) ?_
              exact ih m kp hm hpm hkp hkp12 ma hma hma100 (k + 1) (by omega) (by omega)
            ·
              refine j_iconst C (nI 1) dX5_restore_143 (by decide) ?_
              refine j_goto (tgt := 148) C dX5_restore_144 (by decide) ?_
              refine j_iadd C (nI (zcn (mvM Z m kp (nt : Int)) k + 1)) dX5_restore_148 (nI_add (zcn (mvM Z m kp (nt : Int)) k) 1) ?_
              refine j_istore_n (lv' := [(2, .int (nI (zcn (mvM Z m kp (nt : Int)) k + 1))), (5, .int (nI 4)), (4, .int (Z 121 k)), (3, .int (nI k)), (0, .ref (G.2.1 (113))), (1, .int (nI m))]) C dX5_restore_149 rfl (by rw [hN]; decide) rfl ?_
              refine j_iinc (v := nI (k + 1)) (lv' := [(3, .int (nI (k + 1))), (2, .int (nI (zcn (mvM Z m kp (nt : Int)) k + 1))), (5, .int (nI 4)), (4, .int (Z 121 k)), (0, .ref (G.2.1 (113))), (1, .int (nI m))]) C 3 dX5_restore_150 rfl (nI_add k 1) (by rw [hN]; decide) rfl ?_
              refine j_goto (tgt := 26) C dX5_restore_153 (by decide) ?_
              refine j_sub (lv' := [(3, .int (nI (k + 1))), (2, .int (nI (zcn (mvM Z m kp (nt : Int)) k + 1))), (0, .ref (G.2.1 (113))), (1, .int (nI m))]) [0, 1, 4, 5] rfl ?_
              refine j_lv (lv' := [(3, .int (nI (k + 1))), (2, .int (nI (zcn (mvM Z m kp (nt : Int)) (k + 1)))), (0, .ref (G.2.1 (113))), (1, .int (nI m))]) (by rw [zcn_t (show mvM Z m kp (nt : Int) k = true from decide_eq_true (by rw [(show rsM Z m kp (nt : Int) k 0 = Z (124) (48 * m + k) by simp [rsM, show k < kp by omega, show (Z 124 (48 * m + 36 + k)).toInt < (nt : Int) by omega])]; omega))]) ?_
              refine j_Z (Z' := (zaf Z (k + 1) (rsM Z m kp (nt : Int)) [0, 1, 2, 3])) (zaf_s4 (by omega) (fun a b hab => by rw [zu_o (by omega), zu_o (by omega), zu_o (by omega), zu_o (by omega), zu_o (by omega), zu_o (by omega), zu_o (by omega), zu_o (by omega), zu_o (by omega)]) (by rw [if_pos (by decide)]; exact (((zu_o (by omega)).trans ((zu_o (by omega)).trans ((zu_o (by omega)).trans ((zu_o (by omega)).trans (zu_s)))))).trans (by simp [rsM, show k < kp by omega, show (Z 124 (48 * m + 36 + k)).toInt < (nt : Int) by omega])) (by rw [if_pos (by decide)]; exact (((zu_o (by omega)).trans ((zu_o (by omega)).trans ((zu_o (by omega)).trans (zu_s))))).trans (by simp [rsM, show k < kp by omega, show (Z 124 (48 * m + 36 + k)).toInt < (nt : Int) by omega])) (by rw [if_pos (by decide)]; exact (((zu_o (by omega)).trans ((zu_o (by omega)).trans (zu_s)))).trans (by simp [rsM, show k < kp by omega, show (Z 124 (48 * m + 36 + k)).toInt < (nt : Int) by omega])) (by rw [if_pos (by decide)]; exact (zu_s).trans (by simp [rsM, show k < kp by omega, show (Z 124 (48 * m + 36 + k)).toInt < (nt : Int) by omega]))) ?_
              exact ih m kp hm hpm hkp hkp12 ma hma hma100 (k + 1) (by omega) (by omega)
          ·
            refine j_iconst C (-1) dX5_restore_121 (by decide) ?_
            refine j_goto (tgt := 130) C dX5_restore_122 (by decide) ?_
            refine j_iast C hD (zb_rAt hG) (zs_rAt hG) (zl_rAt hG) rfl (by omega) (by decide) dX5_restore_130 ?_
            refine j_iload_n C 3 dX5_restore_131 rfl rfl ?_
            refine j_aload_n C 4 dX5_restore_132 rfl rfl ?_
            refine j_getR C zK5 (zb_M hG) (zs_M hG) (f := 10) (by decide) rfl zk_X5_36 rfl (zf_M_10 hG) dX5_restore_133 ?_
            refine j_iload_n C 2 dX5_restore_136 rfl rfl ?_
            refine j_iald C (zb_rAt hG) (zs_rAt hG) (zl_rAt hG) rfl (by omega) (by decide) (Z (124) (48 * m + k)) ((zu_o (by omega)).trans ((zu_o (by omega)).trans ((zu_o (by omega)).trans ((zu_o (by omega)).trans (zu_s))))) dX5_restore_137 ?_
            refine j_iload C 1 dX5_restore_138 rfl ?_
            refine j_icmp_eq (tgt := 147) (a := (Z (124) (48 * m + k)).toInt) (b := (Z 121 k).toInt) C rfl rfl dX5_restore_140 (by decide) (fun c140 => ?_) (fun c140 => ?_)
            ·
              refine j_iconst C (nI 0) dX5_restore_147 (by decide) ?_
              refine j_iadd C (nI (zcn (mvM Z m kp (nt : Int)) k + 0)) dX5_restore_148 (nI_add (zcn (mvM Z m kp (nt : Int)) k) 0) ?_
              refine j_istore_n (lv' := [(2, .int (nI (zcn (mvM Z m kp (nt : Int)) k + 0))), (5, .int (nI 4)), (4, .int (Z 121 k)), (3, .int (nI k)), (0, .ref (G.2.1 (113))), (1, .int (nI m))]) C dX5_restore_149 rfl (by rw [hN]; decide) rfl ?_
              refine j_iinc (v := nI (k + 1)) (lv' := [(3, .int (nI (k + 1))), (2, .int (nI (zcn (mvM Z m kp (nt : Int)) k + 0))), (5, .int (nI 4)), (4, .int (Z 121 k)), (0, .ref (G.2.1 (113))), (1, .int (nI m))]) C 3 dX5_restore_150 rfl (nI_add k 1) (by rw [hN]; decide) rfl ?_
              refine j_goto (tgt := 26) C dX5_restore_153 (by decide) ?_
              refine j_sub (lv' := [(3, .int (nI (k + 1))), (2, .int (nI (zcn (mvM Z m kp (nt : Int)) k + 0))), (0, .ref (G.2.1 (113))), (1, .int (nI m))]) [0, 1, 4, 5] rfl ?_
              refine j_lv (lv' := [(3, .int (nI (k + 1))), (2, .int (nI (zcn (mvM Z m kp (nt : Int)) (k + 1)))), (0, .ref (G.2.1 (113))), (1, .int (nI m))]) (by rw [zcn_f (show mvM Z m kp (nt : Int) k = false from decide_eq_false (by rw [(show rsM Z m kp (nt : Int) k 0 = Z (124) (48 * m + k) by simp [rsM, show k < kp by omega, show ¬ (Z 124 (48 * m + 36 + k)).toInt < (nt : Int) by omega])]; omega))]; rfl) ?_
              refine j_Z (Z' := (zaf Z (k + 1) (rsM Z m kp (nt : Int)) [0, 1, 2, 3])) (zaf_s4 (by omega) (fun a b hab => by rw [zu_o (by omega), zu_o (by omega), zu_o (by omega), zu_o (by omega), zu_o (by omega), zu_o (by omega), zu_o (by omega), zu_o (by omega), zu_o (by omega)]) (by rw [if_pos (by decide)]; exact (((zu_o (by omega)).trans ((zu_o (by omega)).trans ((zu_o (by omega)).trans ((zu_o (by omega)).trans (zu_s)))))).trans (by simp [rsM, show k < kp by omega, show ¬ (Z 124 (48 * m + 36 + k)).toInt < (nt : Int) by omega])) (by rw [if_pos (by decide)]; exact (((zu_o (by omega)).trans ((zu_o (by omega)).trans ((zu_o (by omega)).trans (zu_s))))).trans (by simp [rsM, show k < kp by omega, show ¬ (Z 124 (48 * m + 36 + k)).toInt < (nt : Int) by omega])) (by rw [if_pos (by decide)]; exact (((zu_o (by omega)).trans ((zu_o (by omega)).trans (zu_s)))).trans (by simp [rsM, show k < kp by omega, show ¬ (Z 124 (48 * m + 36 + k)).toInt < (nt : Int) by omega])) (by rw [if_pos (by decide)]; exact (zu_s).trans (by simp [rsM, show k < kp by omega, show ¬ (Z 124 (48 * m + 36 + k)).toInt < (nt : Int) by omega]))) ?_
              exact ih m kp hm hpm hkp hkp12 ma hma hma100 (k + 1) (by omega) (by omega)
            ·
              refine j_iconst C (nI 1) dX5_restore_143 (by decide) ?_
              refine j_goto (tgt := 148) C dX5_restore_144 (by decide) ?_
              refine j_iadd C (nI (zcn (mvM Z m kp (nt : Int)) k + 1)) dX5_restore_148 (nI_add (zcn (mvM Z m kp (nt : Int)) k) 1) ?_
              refine j_istore_n (lv' := [(2, .int (nI (zcn (mvM Z m kp (nt : Int)) k + 1))), (5, .int (nI 4)), (4, .int (Z 121 k)), (3, .int (nI k)), (0, .ref (G.2.1 (113))), (1, .int (nI m))]) C dX5_restore_149 rfl (by rw [hN]; decide) rfl ?_
              refine j_iinc (v := nI (k + 1)) (lv' := [(3, .int (nI (k + 1))), (2, .int (nI (zcn (mvM Z m kp (nt : Int)) k + 1))), (5, .int (nI 4)), (4, .int (Z 121 k)), (0, .ref (G.2.1 (113))), (1, .int (nI m))]) C 3 dX5_restore_150 rfl (nI_add k 1) (by rw [hN]; decide) rfl ?_
              refine j_goto (tgt := 26) C dX5_restore_153 (by decide) ?_
              refine j_sub (lv' := [(3, .int (nI (k + 1))), (2, .int (nI (zcn (mvM Z m kp (nt : Int)) k + 1))), (0, .ref (G.2.1 (113))), (1, .int (nI m))]) [0, 1, 4, 5] rfl ?_
              refine j_lv (lv' := [(3, .int (nI (k + 1))), (2, .int (nI (zcn (mvM Z m kp (nt : Int)) (k + 1)))), (0, .ref (G.2.1 (113))), (1, .int (nI m))]) (by rw [zcn_t (show mvM Z m kp (nt : Int) k = true from decide_eq_true (by rw [(show rsM Z m kp (nt : Int) k 0 = Z (124) (48 * m + k) by simp [rsM, show k < kp by omega, show ¬ (Z 124 (48 * m + 36 + k)).toInt < (nt : Int) by omega])]; omega))]) ?_
              refine j_Z (Z' := (zaf Z (k + 1) (rsM Z m kp (nt : Int)) [0, 1, 2, 3])) (zaf_s4 (by omega) (fun a b hab => by rw [zu_o (by omega), zu_o (by omega), zu_o (by omega), zu_o (by omega), zu_o (by omega), zu_o (by omega), zu_o (by omega), zu_o (by omega), zu_o (by omega)]) (by rw [if_pos (by decide)]; exact (((zu_o (by omega)).trans ((zu_o (by omega)).trans ((zu_o (by omega)).trans ((zu_o (by omega)).trans (zu_s)))))).trans (by simp [rsM, show k < kp by omega, show ¬ (Z 124 (48 * m + 36 + k)).toInt < (nt : Int) by omega])) (by rw [if_pos (by decide)]; exact (((zu_o (by omega)).trans ((zu_o (by omega)).trans ((zu_o (by omega)).trans (zu_s))))).trans (by simp [rsM, show k < kp by omega, show ¬ (Z 124 (48 * m + 36 + k)).toInt < (nt : Int) by omega])) (by rw [if_pos (by decide)]; exact (((zu_o (by omega)).trans ((zu_o (by omega)).trans (zu_s)))).trans (by simp [rsM, show k < kp by omega, show ¬ (Z 124 (48 * m + 36 + k)).toInt < (nt : Int) by omega])) (by rw [if_pos (by decide)]; exact (zu_s).trans (by simp [rsM, show k < kp by omega, show ¬ (Z 124 (48 * m + 36 + k)).toInt < (nt : Int) by omega]))) ?_
              exact ih m kp hm hpm hkp hkp12 ma hma hma100 (k + 1) (by omega) (by omega)
  refine j_aload_n C 0 dX5_restore_0 rfl rfl ?_
  refine j_iconst C (nI 0) dX5_restore_1 (by decide) ?_
  refine j_putI C hD zK5 (zb_M hG) (zs_M hG) (f := 0) (by decide) rfl zk_X5_72 rfl rfl rfl rfl dX5_restore_2 ?_
  refine j_Z hZi ?_
  refine j_iload_n C 1 dX5_restore_5 rfl rfl ?_
  refine j_iconst C (nI 0) dX5_restore_6 (by decide) ?_
  refine j_aload_n C 0 dX5_restore_7 rfl rfl ?_
  refine j_getI C zK5 (zb_M hG) (zs_M hG) (f := 14) (by decide) rfl zk_X5_130 rfl (nI nm) hnm dX5_restore_8 ?_
  refine j_iconst C (nI 1) dX5_restore_11 (by decide) ?_
  refine j_isub C (nI nm - nI 1) dX5_restore_12 rfl ?_
  refine j_callS C hR (kX5_in hD hG (p0 := p0) (p1 := nI 0) (p2 := nI nm - nI 1) (a := (p0).toInt) (b := ((0 : Nat) : Int)) (c := ((nm : Nat) : Int) - ((1 : Nat) : Int)) rfl (nI_toInt (by omega)) (pk_sub_toInt (by omega) (by omega))) [] zmX5_in rfl zk_X5_78 (by decide) rfl rfl (Nat.le_of_ble_eq_true rfl) dX5_restore_13 (fun r13 Z13 h13 => ?_)
  obtain ⟨e13, ⟨rfl, h13⟩ | ⟨rfl, h13⟩⟩ := h13
  ·
    refine j_Z e13 ?_
    refine j_if_ne (tgt := 22) (a := ((1 : Nat) : Int)) C (nI_toInt (by omega)) dX5_restore_16 (by decide) (fun c16 => ?_) (fun c16 => absurd c16 (by omega))
    obtain ⟨m, hm, rfl⟩ := zi_nat (x := p0) (n := nm) (by omega) (by omega)
    obtain ⟨⟨kp, hkp, hkp12⟩, ma, hma, hma100⟩ := hkps m hm
    refine j_iconst C (nI 0) dX5_restore_22 (by decide) ?_
    refine j_istore_n (lv' := [(2, .int (nI 0)), (0, .ref (G.2.1 (113))), (1, .int (nI m))]) C dX5_restore_23 rfl (by rw [hN]; decide) rfl ?_
    refine j_iconst C (nI 0) dX5_restore_24 (by decide) ?_
    refine j_istore_n (lv' := [(3, .int (nI 0)), (2, .int (nI 0)), (0, .ref (G.2.1 (113))), (1, .int (nI m))]) C dX5_restore_25 rfl (by rw [hN]; decide) rfl ?_
    refine j_Z (Z' := (zaf Z (0) (rsM Z m kp (nt : Int)) [0, 1, 2, 3])) (zaf_0).symm ?_
    exact L26 (np + 1) m kp hm rfl hkp hkp12 ma hma hma100 0 (by omega) (by omega)
  ·
    refine j_Z e13 ?_
    refine j_if_ne (tgt := 22) (a := ((0 : Nat) : Int)) C (nI_toInt (by omega)) dX5_restore_16 (by decide) (fun c16 => absurd c16 (by omega)) (fun c16 => ?_)
    refine j_bipush C (-11) dX5_restore_19 (by decide) ?_
    refine j_iret C R dX5_restore_21 ?_
    exact Or.inl ⟨by omega, rfl, rfl⟩
