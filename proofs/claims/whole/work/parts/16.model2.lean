def zmm (Z : ZT) (p q s m : Nat) : ZT := fun a b => if a = 114 ∧ 40 * q ≤ b ∧ b < 40 * q + m then Z 114 (40 * p + (s + (b - 40 * q))) else if a = 115 ∧ 40 * q ≤ b ∧ b < 40 * q + m then Z 115 (40 * p + (s + (b - 40 * q))) else if a = 116 ∧ 40 * q ≤ b ∧ b < 40 * q + m then Z 116 (40 * p + (s + (b - 40 * q))) else if a = 117 ∧ b = q then nI m else Z a b
theorem zmm_0 {Z : ZT} {p q s : Nat} (h : Z 117 q = nI 0) : zmm Z p q s 0 = Z := by
  funext a b
  by_cases h1 : a = 117 ∧ b = q
  · obtain ⟨rfl, rfl⟩ := h1
    unfold zmm
    rw [if_neg (by omega), if_neg (by omega), if_neg (by omega), if_pos ⟨rfl, rfl⟩, h]
  · unfold zmm
    rw [if_neg (by omega), if_neg (by omega), if_neg (by omega), if_neg h1]
theorem zmm_o {Z : ZT} {p q s m a b : Nat} (h : a < 114 ∨ 117 < a ∨ (a < 117 ∧ (b < 40 * q ∨ 40 * q + m ≤ b)) ∨ (a = 117 ∧ b ≠ q)) : zmm Z p q s m a b = Z a b := by
  unfold zmm
  rw [if_neg (by omega), if_neg (by omega), if_neg (by omega), if_neg (by omega)]
theorem zmm_3 {Z : ZT} {p q s m : Nat} : zmm Z p q s m 117 q = nI m := by
  unfold zmm
  rw [if_neg (by omega), if_neg (by omega), if_neg (by omega), if_pos ⟨rfl, rfl⟩]
theorem zmm_i {Z : ZT} {p q s m a j : Nat} (ha : a = 114 ∨ a = 115 ∨ a = 116) (hj : j < m) : zmm Z p q s m a (40 * q + j) = Z a (40 * p + (s + j)) := by
  have e : 40 * q + j - 40 * q = j := by omega
  rcases ha with rfl | rfl | rfl
  · unfold zmm; rw [if_pos (by omega), e]
  · unfold zmm; rw [if_neg (by omega), if_pos (by omega), e]
  · unfold zmm; rw [if_neg (by omega), if_neg (by omega), if_pos (by omega), e]
theorem zmm_s {Z : ZT} {p q s m : Nat} : zu (zu (zu (zu (zmm Z p q s m) 114 (40 * q + m) (Z 114 (40 * p + (s + m)))) 115 (40 * q + m) (Z 115 (40 * p + (s + m)))) 116 (40 * q + m) (Z 116 (40 * p + (s + m)))) 117 q (nI (m + 1)) = zmm Z p q s (m + 1) := by
  funext a b
  by_cases h4 : a = 117 ∧ b = q
  · obtain ⟨rfl, rfl⟩ := h4
    rw [zu_s, zmm_3]
  · by_cases hb : (a = 114 ∨ a = 115 ∨ a = 116) ∧ b = 40 * q + m
    · obtain ⟨ha, rfl⟩ := hb
      rw [zmm_i ha (by omega)]
      rcases ha with rfl | rfl | rfl
      · rw [zu_o (by omega), zu_o (by omega), zu_o (by omega), zu_s]
      · rw [zu_o (by omega), zu_o (by omega), zu_s]
      · rw [zu_o (by omega), zu_s]
    · rw [zu_o (by omega), zu_o (by omega), zu_o (by omega), zu_o (by omega)]
      by_cases hin : (a = 114 ∨ a = 115 ∨ a = 116) ∧ 40 * q ≤ b ∧ b < 40 * q + m
      · obtain ⟨ha, h1, h2⟩ := hin
        obtain ⟨j, rfl⟩ : ∃ j, b = 40 * q + j := ⟨b - 40 * q, by omega⟩
        rw [zmm_i ha (by omega), zmm_i ha (by omega)]
      · rw [zmm_o (by omega), zmm_o (by omega)]
def zaf (Z : ZT) (k : Nat) (F : Nat → Nat → Int32) (gs : List Nat) : ZT := fun a b => if a = 121 ∧ b < 48 ∧ b % 12 < k ∧ b / 12 ∈ gs then F (b % 12) (b / 12) else Z a b
theorem zaf_i {Z : ZT} {k i g b : Nat} {F : Nat → Nat → Int32} {gs : List Nat} (hb : b = 12 * g + i) (hi : i < 12) (hg4 : g < 4) (h : i < k) (hg : g ∈ gs) : zaf Z k F gs 121 b = F i g := by
  have h1 : b % 12 = i := by omega
  have h2 : b / 12 = g := by omega
  have h3 : b < 48 := by omega
  simp only [zaf, h1, h2, h3, h, hg, and_self, if_true]
theorem zaf_o {Z : ZT} {k a b : Nat} {F : Nat → Nat → Int32} {gs : List Nat} (h : a ≠ 121 ∨ 48 ≤ b ∨ k ≤ b % 12) : zaf Z k F gs a b = Z a b := by
  have : ¬ (a = 121 ∧ b < 48 ∧ b % 12 < k ∧ b / 12 ∈ gs) := fun q => by omega
  simp only [zaf, this, if_false]
theorem zaf_g {Z : ZT} {k a b : Nat} (g : Nat) {F : Nat → Nat → Int32} {gs : List Nat} (hb : b / 12 = g) (hg : g ∉ gs) : zaf Z k F gs a b = Z a b := by
  have : ¬ (a = 121 ∧ b < 48 ∧ b % 12 < k ∧ b / 12 ∈ gs) := fun q => hg (hb ▸ q.2.2.2)
  simp only [zaf, this, if_false]
theorem zaf_0 {Z : ZT} {F : Nat → Nat → Int32} {gs : List Nat} : zaf Z 0 F gs = Z := by
  funext a b
  exact zaf_o (by omega)
theorem zaf_s {Z Z1 : ZT} {k : Nat} {F : Nat → Nat → Int32} {gs : List Nat} (hk : k < 12) (h1 : ∀ a b, (a ≠ 121 ∨ 48 ≤ b ∨ b % 12 ≠ k) → Z1 a b = zaf Z k F gs a b) (h2 : ∀ g, g < 4 → g ∈ gs → Z1 121 (12 * g + k) = F k g) (h3 : ∀ g, g < 4 → g ∉ gs → Z1 121 (12 * g + k) = Z 121 (12 * g + k)) : Z1 = zaf Z (k + 1) F gs := by
  funext a b
  by_cases hab : a = 121 ∧ b < 48 ∧ b % 12 = k
  · obtain ⟨rfl, hb, hm⟩ := hab
    have eb : b = 12 * (b / 12) + k := by omega
    by_cases hg : b / 12 ∈ gs
    · have h9 := h2 (b / 12) (by omega) hg
      rw [← eb] at h9
      rw [zaf_i eb hk (by omega) (by omega) hg, h9]
    · have h9 := h3 (b / 12) (by omega) hg
      rw [← eb] at h9
      rw [zaf_g (b / 12) rfl hg, h9]
  · rw [h1 a b (by omega)]
    by_cases hc : a = 121 ∧ b < 48 ∧ b % 12 < k ∧ b / 12 ∈ gs
    · have hc2 : a = 121 ∧ b < 48 ∧ b % 12 < k + 1 ∧ b / 12 ∈ gs := ⟨hc.1, hc.2.1, by omega, hc.2.2.2⟩
      simp only [zaf, hc, hc2, if_true, and_self]
    · have hc2 : ¬ (a = 121 ∧ b < 48 ∧ b % 12 < k + 1 ∧ b / 12 ∈ gs) := fun q => hc ⟨q.1, q.2.1, by omega, q.2.2.2⟩
      simp only [zaf, hc, hc2, if_false]
theorem zaf_n {Z : ZT} {k : Nat} {F : Nat → Nat → Int32} {gs : List Nat} (hk : k < 12) (h : ∀ g, g < 4 → g ∈ gs → F k g = Z 121 (12 * g + k)) : zaf Z k F gs = zaf Z (k + 1) F gs :=
  zaf_s hk (fun _ _ _ => rfl) (fun g h4 hg => by rw [zaf_o (by omega), h g h4 hg]) (fun g h4 hg => zaf_g g (by omega) hg)
theorem zu_c {Z : ZT} {c f a b : Nat} {v : Int32} (h : a ≠ c) : zu Z c f v a b = Z a b := zu_o (Or.inl h)
set_option maxRecDepth 100000 in
set_option maxHeartbeats 4000000 in
theorem kX5_split {l : Launch} {D : va_G} {Y : YT} {b0 : Nat} {G : GT} (hD : GD b0 G) (hG : Gok 132 G) {Z : ZT} {np : Nat} (hnp : Z 113 1 = nI np) (hnp12 : np ≤ 12) {rc : Nat → Nat} (hrc : ∀ i, i < np → Z 117 i = nI (rc i) ∧ rc i ≤ 40) (hsn : ∀ i, i < np → ∀ j, j < rc i → Z 116 (40 * i + j) = 0 ∨ Z 116 (40 * i + j) = 1) (hen : ∀ i, i < np → Z 118 i = 0 ∨ Z 118 i = 1) (p0 p1 : Int32) : CI l D Y b0 G yX5_split cX5_split 5 (some .int) 2 [.ref (G.2.1 (113)), .int (p0), .int (p1)] Z (fun r Z' => ((p0.toInt < 0 ∨ (np : Int) ≤ p0.toInt) ∧ r = (-11) ∧ Z' = (zu Z 113 0 (nI 0))) ∨ ∃ p : Nat, p < np ∧ p0 = nI p ∧ (((p1.toInt < 0 ∨ (rc p : Int) ≤ p1.toInt) ∧ r = (-11) ∧ Z' = (zu Z 113 0 (nI 0))) ∨ ((0 ≤ p1.toInt ∧ p1.toInt < (rc p : Int) ∧ (p1.toInt = 0 ∨ p1.toInt < (Z 121 p).toInt)) ∧ r = (-13) ∧ Z' = (zu Z 113 0 (nI 0))) ∨ ((0 ≤ p1.toInt ∧ p1.toInt < (rc p : Int) ∧ p1.toInt ≠ 0 ∧ (Z 121 p).toInt ≤ p1.toInt ∧ 12 ≤ np) ∧ r = (-14) ∧ Z' = (zu Z 113 0 (nI 0))) ∨ (∃ q : Nat, q < rc p ∧ p1 = nI q ∧ (p1.toInt ≠ 0 ∧ (Z 121 p).toInt ≤ p1.toInt ∧ np < 12) ∧ r = nI np ∧ Z' = (zu (zu (zu (zmm (zu (zu (zu (zu (zu (zu (zu (zu (zu (zu Z (113) (0) (nI 0)) (117) (np) (nI 0)) (118) (np) (nI 0)) (119) (np) (Z 119 p)) (120) (np) (nI p)) (121) (np) (nI 0)) (121) (12 + np) (-1)) (121) (24 + np) (nI 0)) (121) (36 + np) (-1)) (113) (1) (nI (np + 1))) p np q (rc p - q)) (118) (np) (Z 118 p)) (117) (p) (nI q)) (118) (p) (nI 1))))) := by
  refine ci_start (lv0 := [(0, .ref (G.2.1 (113))), (1, .int (p0)), (2, .int (p1))]) hD rfl rfl (Nat.le_of_ble_eq_true rfl) rfl ?_
  intro E C R hR hD hN
  have L76 : ∀ (n : Nat) (p q : Nat) (hp : p < np) (hq : q < rc p) (hpp : p0 = nI p) (hqq : p1 = nI q) (hcc : p1.toInt ≠ 0 ∧ (Z 121 p).toInt ≤ p1.toInt ∧ np < 12) (m : Nat), rc p + 1 ≤ q + m + n → q + m ≤ rc p → J E 0 0 G 76 [(4, .int (nI (q + m))), (3, .int (nI np)), (0, .ref (G.2.1 (113))), (1, .int (nI p)), (2, .int (nI q))] [] (zmm (zu (zu (zu (zu (zu (zu (zu (zu (zu (zu Z (113) (0) (nI 0)) (117) (np) (nI 0)) (118) (np) (nI 0)) (119) (np) (Z 119 p)) (120) (np) (nI p)) (121) (np) (nI 0)) (121) (12 + np) (-1)) (121) (24 + np) (nI 0)) (121) (36 + np) (-1)) (113) (1) (nI (np + 1))) p np q (m)) := by
    intro n
    induction n with
    | zero => intro p q hp hq hpp hqq hcc m hn hm; exact absurd hn (by omega)
    | succ n ih =>
      intro p q hp hq hpp hqq hcc m hn hm
      have hrc40 := (hrc p hp).2
      refine j_iload C 0 dX5_split_76 rfl ?_
      refine j_aload_n C 2 dX5_split_78 rfl rfl ?_
      refine j_getR C zK5 (zb_M hG) (zs_M hG) (f := 6) (by decide) rfl zk_X5_24 rfl (zf_M_6 hG) dX5_split_79 ?_
      refine j_iload_n C 3 dX5_split_82 rfl rfl ?_
      refine j_iald C (zb_rRow hG) (zs_rRow hG) (zl_rRow hG) rfl (by omega) (by decide) (nI (rc p)) ((zmm_o (by omega)).trans ((zu_o (by omega)).trans ((zu_o (by omega)).trans ((zu_o (by omega)).trans ((zu_o (by omega)).trans ((zu_o (by omega)).trans ((zu_o (by omega)).trans ((zu_o (by omega)).trans ((zu_o (by omega)).trans ((zu_o (by omega)).trans ((zu_o (by omega)).trans ((hrc p hp).1)))))))))))) dX5_split_83 ?_
      refine j_icmp_ge (tgt := 134) (a := ((q + m : Nat) : Int)) (b := ((rc p : Nat) : Int)) C (nI_toInt (by omega)) (nI_toInt (by omega)) dX5_split_84 (by decide) (fun c84 => ?_) (fun c84 => ?_)
      ·
        have e9 : m = rc p - q := by omega
        subst e9
        refine j_aload_n C 2 dX5_split_134 rfl rfl ?_
        refine j_getR C zK5 (zb_M hG) (zs_M hG) (f := 7) (by decide) rfl zk_X5_27 rfl (zf_M_7 hG) dX5_split_135 ?_
        refine j_iload_n C 1 dX5_split_138 rfl rfl ?_
        refine j_aload_n C 2 dX5_split_139 rfl rfl ?_
        refine j_getR C zK5 (zb_M hG) (zs_M hG) (f := 7) (by decide) rfl zk_X5_27 rfl (zf_M_7 hG) dX5_split_140 ?_
        refine j_iload_n C 3 dX5_split_143 rfl rfl ?_
        refine j_zald C (zb_rEnd hG) (zs_rEnd hG) (zl_rEnd hG) rfl (by omega) (by decide) (Z 118 p) ((zmm_o (by omega)).trans ((zu_o (by omega)).trans ((zu_o (by omega)).trans ((zu_o (by omega)).trans ((zu_o (by omega)).trans ((zu_o (by omega)).trans ((zu_o (by omega)).trans ((zu_o (by omega)).trans ((zu_o (by omega)).trans ((zu_o (by omega)).trans ((zu_o (by omega))))))))))))) dX5_split_144 ?_
        refine j_zast C hD (zb_rEnd hG) (zs_rEnd hG) (zl_rEnd hG) rfl (by omega) (by decide) (hen p hp) dX5_split_145 ?_
        refine j_aload_n C 2 dX5_split_146 rfl rfl ?_
        refine j_getR C zK5 (zb_M hG) (zs_M hG) (f := 6) (by decide) rfl zk_X5_24 rfl (zf_M_6 hG) dX5_split_147 ?_
        refine j_iload_n C 3 dX5_split_150 rfl rfl ?_
        refine j_iload_n C 4 dX5_split_151 rfl rfl ?_
        refine j_iast C hD (zb_rRow hG) (zs_rRow hG) (zl_rRow hG) rfl (by omega) (by decide) dX5_split_152 ?_
        refine j_aload_n C 2 dX5_split_153 rfl rfl ?_
        refine j_getR C zK5 (zb_M hG) (zs_M hG) (f := 7) (by decide) rfl zk_X5_27 rfl (zf_M_7 hG) dX5_split_154 ?_
        refine j_iload_n C 3 dX5_split_157 rfl rfl ?_
        refine j_iconst C (nI 1) dX5_split_158 (by decide) ?_
        refine j_zast C hD (zb_rEnd hG) (zs_rEnd hG) (zl_rEnd hG) rfl (by omega) (by decide) (by decide) dX5_split_159 ?_
        refine j_iload_n C 1 dX5_split_160 rfl rfl ?_
        refine j_iret C R dX5_split_161 ?_
        exact Or.inr ⟨p, hp, hpp, Or.inr (Or.inr (Or.inr ⟨q, hq, hqq, hcc, rfl, rfl⟩))⟩
      ·
        refine j_aload_n C 2 dX5_split_87 rfl rfl ?_
        refine j_iload_n C 1 dX5_split_88 rfl rfl ?_
        refine j_aload_n C 2 dX5_split_89 rfl rfl ?_
        refine j_getR C zK5 (zb_M hG) (zs_M hG) (f := 3) (by decide) rfl zk_X5_13 rfl (zf_M_3 hG) dX5_split_90 ?_
        refine j_bipush C (nI 40) dX5_split_93 (by decide) ?_
        refine j_iload_n C 3 dX5_split_95 rfl rfl ?_
        refine j_imul C (nI (40 * p)) dX5_split_96 (pk_mul 40 p) ?_
        refine j_iload C 0 dX5_split_97 rfl ?_
        refine j_iadd C (nI (40 * p + (q + m))) dX5_split_99 (nI_add (40 * p) (q + m)) ?_
        refine j_iald C (zb_rNum hG) (zs_rNum hG) (zl_rNum hG) rfl (by omega) (by decide) (Z (114) (40 * p + (q + m))) ((zmm_o (by omega)).trans ((zu_o (by omega)).trans ((zu_o (by omega)).trans ((zu_o (by omega)).trans ((zu_o (by omega)).trans ((zu_o (by omega)).trans ((zu_o (by omega)).trans ((zu_o (by omega)).trans ((zu_o (by omega)).trans ((zu_o (by omega)).trans ((zu_o (by omega))))))))))))) dX5_split_100 ?_
        refine j_aload_n C 2 dX5_split_101 rfl rfl ?_
        refine j_getR C zK5 (zb_M hG) (zs_M hG) (f := 4) (by decide) rfl zk_X5_17 rfl (zf_M_4 hG) dX5_split_102 ?_
        refine j_bipush C (nI 40) dX5_split_105 (by decide) ?_
        refine j_iload_n C 3 dX5_split_107 rfl rfl ?_
        refine j_imul C (nI (40 * p)) dX5_split_108 (pk_mul 40 p) ?_
        refine j_iload C 0 dX5_split_109 rfl ?_
        refine j_iadd C (nI (40 * p + (q + m))) dX5_split_111 (nI_add (40 * p) (q + m)) ?_
        refine j_iald C (zb_rTim hG) (zs_rTim hG) (zl_rTim hG) rfl (by omega) (by decide) (Z (115) (40 * p + (q + m))) ((zmm_o (by omega)).trans ((zu_o (by omega)).trans ((zu_o (by omega)).trans ((zu_o (by omega)).trans ((zu_o (by omega)).trans ((zu_o (by omega)).trans ((zu_o (by omega)).trans ((zu_o (by omega)).trans ((zu_o (by omega)).trans ((zu_o (by omega)).trans ((zu_o (by omega))))))))))))) dX5_split_112 ?_
        refine j_aload_n C 2 dX5_split_113 rfl rfl ?_
        refine j_getR C zK5 (zb_M hG) (zs_M hG) (f := 5) (by decide) rfl zk_X5_20 rfl (zf_M_5 hG) dX5_split_114 ?_
        refine j_bipush C (nI 40) dX5_split_117 (by decide) ?_
        refine j_iload_n C 3 dX5_split_119 rfl rfl ?_
        refine j_imul C (nI (40 * p)) dX5_split_120 (pk_mul 40 p) ?_
        refine j_iload C 0 dX5_split_121 rfl ?_
        refine j_iadd C (nI (40 * p + (q + m))) dX5_split_123 (nI_add (40 * p) (q + m)) ?_
        refine j_zald C (zb_rSnd hG) (zs_rSnd hG) (zl_rSnd hG) rfl (by omega) (by decide) (Z (116) (40 * p + (q + m))) ((zmm_o (by omega)).trans ((zu_o (by omega)).trans ((zu_o (by omega)).trans ((zu_o (by omega)).trans ((zu_o (by omega)).trans ((zu_o (by omega)).trans ((zu_o (by omega)).trans ((zu_o (by omega)).trans ((zu_o (by omega)).trans ((zu_o (by omega)).trans ((zu_o (by omega))))))))))))) dX5_split_124 ?_
        refine j_callV C hR (kX5_lays hD hG (i := np) (by omega) (k := m) zmm_3 (by omega) (Z (114) (40 * p + (q + m))) (Z (115) (40 * p + (q + m))) (hsn p hp (q + m) (by omega))) [] zmX5_lays zk_X5_98 zK5 (zb_M hG) (zs_M hG) (by decide) rfl rfl (Nat.le_of_ble_eq_true rfl) dX5_split_125 (fun Z125 h125 => ?_)
        refine j_Z (Z' := (zu (zu (zu (zu (zmm (zu (zu (zu (zu (zu (zu (zu (zu (zu (zu Z (113) (0) (nI 0)) (117) (np) (nI 0)) (118) (np) (nI 0)) (119) (np) (Z 119 p)) (120) (np) (nI p)) (121) (np) (nI 0)) (121) (12 + np) (-1)) (121) (24 + np) (nI 0)) (121) (36 + np) (-1)) (113) (1) (nI (np + 1))) p np q (m)) (114) (40 * np + m) (Z (114) (40 * p + (q + m)))) (115) (40 * np + m) (Z (115) (40 * p + (q + m)))) (116) (40 * np + m) (Z (116) (40 * p + (q + m)))) (117) (np) (nI (m + 1)))) h125 ?_
        refine j_iinc (v := nI (q + m + 1)) (lv' := [(4, .int (nI (q + m + 1))), (3, .int (nI np)), (0, .ref (G.2.1 (113))), (1, .int (nI p)), (2, .int (nI q))]) C 0 dX5_split_128 rfl (nI_add (q + m) 1) (by rw [hN]; decide) rfl ?_
        refine j_goto (tgt := 76) C dX5_split_131 (by decide) ?_
        refine j_Z (Z' := (zmm (zu (zu (zu (zu (zu (zu (zu (zu (zu (zu Z (113) (0) (nI 0)) (117) (np) (nI 0)) (118) (np) (nI 0)) (119) (np) (Z 119 p)) (120) (np) (nI p)) (121) (np) (nI 0)) (121) (12 + np) (-1)) (121) (24 + np) (nI 0)) (121) (36 + np) (-1)) (113) (1) (nI (np + 1))) p np q (m + 1))) (by rw [← zmm_s]; simp only [zu_c (show (114 : Nat) ≠ 113 by decide), zu_c (show (114 : Nat) ≠ 117 by decide), zu_c (show (114 : Nat) ≠ 118 by decide), zu_c (show (114 : Nat) ≠ 119 by decide), zu_c (show (114 : Nat) ≠ 120 by decide), zu_c (show (114 : Nat) ≠ 121 by decide), zu_c (show (115 : Nat) ≠ 113 by decide), zu_c (show (115 : Nat) ≠ 117 by decide), zu_c (show (115 : Nat) ≠ 118 by decide), zu_c (show (115 : Nat) ≠ 119 by decide), zu_c (show (115 : Nat) ≠ 120 by decide), zu_c (show (115 : Nat) ≠ 121 by decide), zu_c (show (116 : Nat) ≠ 113 by decide), zu_c (show (116 : Nat) ≠ 117 by decide), zu_c (show (116 : Nat) ≠ 118 by decide), zu_c (show (116 : Nat) ≠ 119 by decide), zu_c (show (116 : Nat) ≠ 120 by decide), zu_c (show (116 : Nat) ≠ 121 by decide)]) ?_
        exact ih p q hp hq hpp hqq hcc (m + 1) (by omega) (by omega)
  refine j_aload_n C 0 dX5_split_0 rfl rfl ?_
  refine j_iconst C (nI 0) dX5_split_1 (by decide) ?_
  refine j_putI C hD zK5 (zb_M hG) (zs_M hG) (f := 0) (by decide) rfl zk_X5_72 rfl rfl rfl rfl dX5_split_2 ?_
  refine j_aload_n C 0 dX5_split_5 rfl rfl ?_
  refine j_iload_n C 1 dX5_split_6 rfl rfl ?_
  refine j_callI C hR (kX5_isPart hD hG (np := np) ((zu_o (by omega)).trans (hnp)) (by omega) (p0 := p0) (b := (p0).toInt) rfl) [] zmX5_isPart zk_X5_94 zK5 (zb_M hG) (zs_M hG) (by decide) rfl rfl (Nat.le_of_ble_eq_true rfl) dX5_split_7 (fun r7 Z7 h7 => ?_)
  obtain ⟨e7, ⟨rfl, h7⟩ | ⟨rfl, h7⟩⟩ := h7
  ·
    refine j_Z e7 ?_
    refine j_if_eq (tgt := 29) (a := ((1 : Nat) : Int)) C (nI_toInt (by omega)) dX5_split_10 (by decide) (fun c10 => absurd c10 (by omega)) (fun c10 => ?_)
    obtain ⟨p, hp, rfl⟩ := zi_nat (x := p0) (n := np) (by omega) (by omega)
    obtain ⟨hrcp, hrc40⟩ := hrc p hp
    refine j_iload_n C 2 dX5_split_13 rfl rfl ?_
    refine j_iconst C (nI 0) dX5_split_14 (by decide) ?_
    refine j_aload_n C 0 dX5_split_15 rfl rfl ?_
    refine j_getR C zK5 (zb_M hG) (zs_M hG) (f := 6) (by decide) rfl zk_X5_24 rfl (zf_M_6 hG) dX5_split_16 ?_
    refine j_iload_n C 1 dX5_split_19 rfl rfl ?_
    refine j_iald C (zb_rRow hG) (zs_rRow hG) (zl_rRow hG) rfl (by omega) (by decide) (nI (rc p)) ((zu_o (by omega)).trans (hrcp)) dX5_split_20 ?_
    refine j_iconst C (nI 1) dX5_split_21 (by decide) ?_
    refine j_isub C (nI (rc p) - nI 1) dX5_split_22 rfl ?_
    refine j_callS C hR (kX5_in hD hG (p0 := p1) (p1 := nI 0) (p2 := nI (rc p) - nI 1) (a := (p1).toInt) (b := ((0 : Nat) : Int)) (c := ((rc p : Nat) : Int) - ((1 : Nat) : Int)) rfl (nI_toInt (by omega)) (pk_sub_toInt (by omega) (by omega))) [] zmX5_in rfl zk_X5_78 (by decide) rfl rfl (Nat.le_of_ble_eq_true rfl) dX5_split_23 (fun r23 Z23 h23 => ?_)
    obtain ⟨e23, ⟨rfl, h23⟩ | ⟨rfl, h23⟩⟩ := h23
    ·
      refine j_Z e23 ?_
      refine j_if_ne (tgt := 32) (a := ((1 : Nat) : Int)) C (nI_toInt (by omega)) dX5_split_26 (by decide) (fun c26 => ?_) (fun c26 => absurd c26 (by omega))
      refine j_iload_n C 2 dX5_split_32 rfl rfl ?_
      refine j_if_eq (tgt := 46) (a := (p1).toInt) C rfl dX5_split_33 (by decide) (fun c33 => ?_) (fun c33 => ?_)
      ·
        refine j_bipush C (-13) dX5_split_46 (by decide) ?_
        refine j_iret C R dX5_split_48 ?_
        exact Or.inr ⟨p, hp, rfl, Or.inr (Or.inl ⟨by omega, rfl, rfl⟩)⟩
      ·
        refine j_iload_n C 2 dX5_split_36 rfl rfl ?_
        refine j_aload_n C 0 dX5_split_37 rfl rfl ?_
        refine j_getR C zK5 (zb_M hG) (zs_M hG) (f := 10) (by decide) rfl zk_X5_36 rfl (zf_M_10 hG) dX5_split_38 ?_
        refine j_iload_n C 1 dX5_split_41 rfl rfl ?_
        refine j_iald C (zb_rAt hG) (zs_rAt hG) (zl_rAt hG) rfl (by omega) (by decide) (Z 121 p) (zu_o (by omega)) dX5_split_42 ?_
        refine j_icmp_ge (tgt := 49) (a := (p1).toInt) (b := (Z 121 p).toInt) C rfl rfl dX5_split_43 (by decide) (fun c43 => ?_) (fun c43 => ?_)
        ·
          refine j_aload_n C 0 dX5_split_49 rfl rfl ?_
          refine j_getI C zK5 (zb_M hG) (zs_M hG) (f := 1) (by decide) rfl zk_X5_75 rfl (nI np) ((zu_o (by omega)).trans (hnp)) dX5_split_50 ?_
          refine j_bipush C (nI 12) dX5_split_53 (by decide) ?_
          refine j_icmp_ne (tgt := 61) (a := ((np : Nat) : Int)) (b := ((12 : Nat) : Int)) C (nI_toInt (by omega)) (nI_toInt (by omega)) dX5_split_55 (by decide) (fun c55 => ?_) (fun c55 => ?_)
          ·
            obtain ⟨q, hq, rfl⟩ := zi_nat (x := p1) (n := (rc p)) (by omega) (by omega)
            refine j_aload_n C 0 dX5_split_61 rfl rfl ?_
            refine j_aload_n C 0 dX5_split_62 rfl rfl ?_
            refine j_getR C zK5 (zb_M hG) (zs_M hG) (f := 8) (by decide) rfl zk_X5_30 rfl (zf_M_8 hG) dX5_split_63 ?_
            refine j_iload_n C 1 dX5_split_66 rfl rfl ?_
            refine j_iald C (zb_rSha hG) (zs_rSha hG) (zl_rSha hG) rfl (by omega) (by decide) (Z 119 p) (zu_o (by omega)) dX5_split_67 ?_
            refine j_iload_n C 1 dX5_split_68 rfl rfl ?_
            refine j_callI C hR (kX5_adds hD hG (np := np) ((zu_o (by omega)).trans (hnp)) (by omega) (Z 119 p) (nI p)) [] zmX5_adds zk_X5_90 zK5 (zb_M hG) (zs_M hG) (by decide) rfl rfl (Nat.le_of_ble_eq_true rfl) dX5_split_69 (fun r69 Z69 h69 => ?_)
            obtain ⟨h69, rfl⟩ := h69
            refine j_Z (Z' := (zu (zu (zu (zu (zu (zu (zu (zu (zu (zu Z (113) (0) (nI 0)) (117) (np) (nI 0)) (118) (np) (nI 0)) (119) (np) (Z 119 p)) (120) (np) (nI p)) (121) (np) (nI 0)) (121) (12 + np) (-1)) (121) (24 + np) (nI 0)) (121) (36 + np) (-1)) (113) (1) (nI (np + 1)))) h69 ?_
            refine j_istore_n (lv' := [(3, .int (nI np)), (0, .ref (G.2.1 (113))), (1, .int (nI p)), (2, .int (nI q))]) C dX5_split_72 rfl (by rw [hN]; decide) rfl ?_
            refine j_iload_n C 3 dX5_split_73 rfl rfl ?_
            refine j_istore (lv' := [(4, .int (nI q)), (3, .int (nI np)), (0, .ref (G.2.1 (113))), (1, .int (nI p)), (2, .int (nI q))]) C dX5_split_74 (by rw [hN]; decide) rfl ?_
            refine j_Z (Z' := (zmm (zu (zu (zu (zu (zu (zu (zu (zu (zu (zu Z (113) (0) (nI 0)) (117) (np) (nI 0)) (118) (np) (nI 0)) (119) (np) (Z 119 p)) (120) (np) (nI p)) (121) (np) (nI 0)) (121) (12 + np) (-1)) (121) (24 + np) (nI 0)) (121) (36 + np) (-1)) (113) (1) (nI (np + 1))) p np q (0))) (zmm_0 ((zu_o (by omega)).trans ((zu_o (by omega)).trans ((zu_o (by omega)).trans ((zu_o (by omega)).trans ((zu_o (by omega)).trans ((zu_o (by omega)).trans ((zu_o (by omega)).trans ((zu_o (by omega)).trans (zu_s)))))))))).symm ?_
            exact L76 (rc p + 1) p q hp hq rfl rfl (by omega) 0 (by omega) (by omega)
          ·
            refine j_bipush C (-14) dX5_split_58 (by decide) ?_
            refine j_iret C R dX5_split_60 ?_
            exact Or.inr ⟨p, hp, rfl, Or.inr (Or.inr (Or.inl ⟨by omega, rfl, rfl⟩))⟩
        ·
          refine j_bipush C (-13) dX5_split_46 (by decide) ?_
          refine j_iret C R dX5_split_48 ?_
          exact Or.inr ⟨p, hp, rfl, Or.inr (Or.inl ⟨by omega, rfl, rfl⟩)⟩
    ·
      refine j_Z e23 ?_
      refine j_if_ne (tgt := 32) (a := ((0 : Nat) : Int)) C (nI_toInt (by omega)) dX5_split_26 (by decide) (fun c26 => absurd c26 (by omega)) (fun c26 => ?_)
      refine j_bipush C (-11) dX5_split_29 (by decide) ?_
      refine j_iret C R dX5_split_31 ?_
      exact Or.inr ⟨p, hp, rfl, Or.inl ⟨by omega, rfl, rfl⟩⟩
  ·
    refine j_Z e7 ?_
    refine j_if_eq (tgt := 29) (a := ((0 : Nat) : Int)) C (nI_toInt (by omega)) dX5_split_10 (by decide) (fun c10 => ?_) (fun c10 => absurd c10 (by omega))
    refine j_bipush C (-11) dX5_split_29 (by decide) ?_
    refine j_iret C R dX5_split_31 ?_
    exact Or.inl ⟨by omega, rfl, rfl⟩
theorem znm_s {Z : ZT} {k : Nat} {F : Nat → Nat → Int32} {v : Int32} (hk : k < 12) (hv : v = F k 2) : zu (zaf Z k F [2]) 121 (24 + k) v = zaf Z (k + 1) F [2] :=
  zaf_s hk (fun a b hab => zu_o (by omega)) (fun g _ hg => by rw [List.mem_singleton.mp hg, zu_s, hv]) (fun g h4 hg => by
    have h2 : g ≠ 2 := fun q => hg (by rw [q]; decide)
    rw [zu_o (by omega), zaf_o (by omega)])
set_option maxRecDepth 100000 in
set_option maxHeartbeats 4000000 in
theorem kX5_nextOf {l : Launch} {D : va_G} {Y : YT} {b0 : Nat} {G : GT} (hD : GD b0 G) (hG : Gok 132 G) {Z : ZT} {np : Nat} (hnp : Z 113 1 = nI np) (hnp12 : np ≤ 12) (p0 : Int32) : CI l D Y b0 G yX5_nextOf cX5_nextOf 5 (some .int) 1 [.ref (G.2.1 (113)), .int (p0)] Z (fun r Z' => (nxb (rtM Z p0) (ncM Z p0) np = none ∧ r = (-1) ∧ Z' = zaf Z np (fun i _ => ncM Z p0 i) [2]) ∨ ∃ c, nxb (rtM Z p0) (ncM Z p0) np = some c ∧ r = nI c ∧ Z' = zu (zaf Z np (fun i _ => ncM Z p0 i) [2]) 121 (24 + c) (ncM Z p0 c - nxs (rtM Z p0) (shM Z) np)) := by
  refine ci_start (lv0 := [(0, .ref (G.2.1 (113))), (1, .int (p0))]) hD rfl rfl (Nat.le_of_ble_eq_true rfl) rfl ?_
  intro E C R hR hD hN
  have L7 : ∀ (n : Nat) (k : Nat) (o : Option Nat), np + 1 ≤ k + n → k ≤ np → nxb (rtM Z p0) (ncM Z p0) k = o → J E 0 0 G 7 [(4, .int (nI k)), (2, .int (oiz o)), (3, .int (nxs (rtM Z p0) (shM Z) k)), (0, .ref (G.2.1 (113))), (1, .int (p0))] [] (zaf Z (k) (fun i _ => ncM Z p0 i) [2]) := by
    intro n
    induction n with
    | zero => intro k o hn hk ho; exact absurd hn (by omega)
    | succ n ih =>
      intro k o hn hk ho
      rcases o with _ | c
      ·
        refine j_iload C 0 dX5_nextOf_7 rfl ?_
        refine j_aload_n C 3 dX5_nextOf_9 rfl rfl ?_
        refine j_getI C zK5 (zb_M hG) (zs_M hG) (f := 1) (by decide) rfl zk_X5_75 rfl (nI np) ((zaf_o (by omega)).trans (hnp)) dX5_nextOf_10 ?_
        refine j_icmp_ge (tgt := 105) (a := ((k : Nat) : Int)) (b := ((np : Nat) : Int)) C (nI_toInt (by omega)) (nI_toInt (by omega)) dX5_nextOf_13 (by decide) (fun c13 => ?_) (fun c13 => ?_)
        ·
          have e9 : k = np := by omega
          subst e9
          refine j_iload_n C 1 dX5_nextOf_105 rfl rfl ?_
          refine j_iconst C (-1) dX5_nextOf_106 (by decide) ?_
          refine j_icmp_eq (tgt := 123) (a := -1) (b := -1) C (show ((-1 : Int32)).toInt = -1 by decide) (show ((-1 : Int32)).toInt = -1 by decide) dX5_nextOf_107 (by decide) (fun c107 => ?_) (fun c107 => absurd c107 (by omega))
          refine j_iload_n C 1 dX5_nextOf_123 rfl rfl ?_
          refine j_iret C R dX5_nextOf_124 ?_
          exact Or.inl ⟨ho, rfl, rfl⟩
        ·
          refine j_aload_n C 3 dX5_nextOf_16 rfl rfl ?_
          refine j_iload C 0 dX5_nextOf_17 rfl ?_
          refine j_callI C hR (kX5_reader hD hG (i := k) (by omega) (re := Z (121) (36 + k)) (zaf_o (by omega))) [] zmX5_reader zk_X5_105 zK5 (zb_M hG) (zs_M hG) (by decide) rfl rfl (Nat.le_of_ble_eq_true rfl) dX5_nextOf_19 (fun r19 Z19 h19 => ?_)
          obtain ⟨h19, rfl⟩ := h19
          refine j_Z (Z' := (zaf Z (k) (fun i _ => ncM Z p0 i) [2])) h19 ?_
          refine j_iload_n C 4 dX5_nextOf_22 rfl rfl ?_
          refine j_icmp_ne (tgt := 99) (a := (Z (121) (36 + k)).toInt) (b := (p0).toInt) C rfl rfl dX5_nextOf_23 (by decide) (fun c23 => ?_) (fun c23 => ?_)
          ·
            have hrt : rtM Z p0 k = false := decide_eq_false (by omega)
            have hnc : ncM Z p0 k = Z 121 (24 + k) := by simp only [ncM, hrt]; rfl
            refine j_iinc (v := nI (k + 1)) (lv' := [(4, .int (nI (k + 1))), (2, .int (-1)), (3, .int (nxs (rtM Z p0) (shM Z) k)), (0, .ref (G.2.1 (113))), (1, .int (p0))]) C 0 dX5_nextOf_99 rfl (nI_add k 1) (by rw [hN]; decide) rfl ?_
            refine j_goto (tgt := 7) C dX5_nextOf_102 (by decide) ?_
            refine j_lv (lv' := [(4, .int (nI (k + 1))), (2, .int (oiz none)), (3, .int (nxs (rtM Z p0) (shM Z) (k + 1))), (0, .ref (G.2.1 (113))), (1, .int (p0))]) (by rw [nxs_f hrt]; rfl) ?_
            refine j_Z (Z' := (zaf Z (k + 1) (fun i _ => ncM Z p0 i) [2])) (zaf_n (by omega) (fun g _ hg => by rw [List.mem_singleton.mp hg]; exact hnc)) ?_
            exact ih (k + 1) none (by omega) (by omega) (by rw [nxb_f hrt]; exact ho)
          ·
            refine j_aload_n C 3 dX5_nextOf_26 rfl rfl ?_
            refine j_iload C 0 dX5_nextOf_27 rfl ?_
            refine j_callI C hR (kX5_isReady hD hG (i := k) (by omega) (rc := Z 117 k) (rcI := (Z 117 k).toInt) (zaf_o (by omega)) rfl (po := Z 121 k) (poI := (Z 121 k).toInt) (zaf_o (by omega)) rfl) [] zmX5_isReady zk_X5_82 zK5 (zb_M hG) (zs_M hG) (by decide) rfl rfl (Nat.le_of_ble_eq_true rfl) dX5_nextOf_29 (fun r29 Z29 h29 => ?_)
            obtain ⟨e29, ⟨rfl, h29⟩ | ⟨rfl, h29⟩⟩ := h29
            ·
              refine j_Z e29 ?_
              refine j_if_eq (tgt := 99) (a := ((1 : Nat) : Int)) C (nI_toInt (by omega)) dX5_nextOf_32 (by decide) (fun c32 => absurd c32 (by omega)) (fun c32 => ?_)
              have hrt : rtM Z p0 k = true := decide_eq_true (by omega)
              have hnc : Z 121 (24 + k) + Z 119 k = ncM Z p0 k := by simp only [ncM, hrt, if_true]
              refine j_aload_n C 3 dX5_nextOf_35 rfl rfl ?_
              refine j_getR C zK5 (zb_M hG) (zs_M hG) (f := 10) (by decide) rfl zk_X5_36 rfl (zf_M_10 hG) dX5_nextOf_36 ?_
              refine j_bipush C (nI 24) dX5_nextOf_39 (by decide) ?_
              refine j_iload C 0 dX5_nextOf_41 rfl ?_
              refine j_iadd C (nI (24 + k)) dX5_nextOf_43 (nI_add 24 k) ?_
              refine j_dup2 C dX5_nextOf_44 rfl rfl ?_
              refine j_iald C (zb_rAt hG) (zs_rAt hG) (zl_rAt hG) rfl (by omega) (by decide) (Z (121) (24 + k)) (zaf_o (by omega)) dX5_nextOf_45 ?_
              refine j_aload_n C 3 dX5_nextOf_46 rfl rfl ?_
              refine j_getR C zK5 (zb_M hG) (zs_M hG) (f := 8) (by decide) rfl zk_X5_30 rfl (zf_M_8 hG) dX5_nextOf_47 ?_
              refine j_iload C 0 dX5_nextOf_50 rfl ?_
              refine j_iald C (zb_rSha hG) (zs_rSha hG) (zl_rSha hG) rfl (by omega) (by decide) (Z 119 k) (zaf_o (by omega)) dX5_nextOf_52 ?_
              refine j_iadd C (ncM Z p0 k) dX5_nextOf_53 hnc ?_
              refine j_iast C hD (zb_rAt hG) (zs_rAt hG) (zl_rAt hG) rfl (by omega) (by decide) dX5_nextOf_54 ?_
              refine j_iload_n C 2 dX5_nextOf_55 rfl rfl ?_
              refine j_aload_n C 3 dX5_nextOf_56 rfl rfl ?_
              refine j_getR C zK5 (zb_M hG) (zs_M hG) (f := 8) (by decide) rfl zk_X5_30 rfl (zf_M_8 hG) dX5_nextOf_57 ?_
              refine j_iload C 0 dX5_nextOf_60 rfl ?_
              refine j_iald C (zb_rSha hG) (zs_rSha hG) (zl_rSha hG) rfl (by omega) (by decide) (Z 119 k) ((zu_o (by omega)).trans ((zaf_o (by omega)))) dX5_nextOf_62 ?_
              refine j_iadd C ((nxs (rtM Z p0) (shM Z) k) + (Z 119 k)) dX5_nextOf_63 rfl ?_
              refine j_istore_n (lv' := [(3, .int ((nxs (rtM Z p0) (shM Z) k) + (Z 119 k))), (4, .int (nI k)), (2, .int (-1)), (0, .ref (G.2.1 (113))), (1, .int (p0))]) C dX5_nextOf_64 rfl (by rw [hN]; decide) rfl ?_
              refine j_iload_n C 2 dX5_nextOf_65 rfl rfl ?_
              refine j_iconst C (-1) dX5_nextOf_66 (by decide) ?_
              refine j_icmp_eq (tgt := 92) (a := -1) (b := -1) C (show ((-1 : Int32)).toInt = -1 by decide) (show ((-1 : Int32)).toInt = -1 by decide) dX5_nextOf_67 (by decide) (fun c67 => ?_) (fun c67 => absurd c67 (by omega))
              refine j_iload C 1 dX5_nextOf_92 rfl ?_
              refine j_goto (tgt := 98) C dX5_nextOf_94 (by decide) ?_
              refine j_istore_n (lv' := [(2, .int (nI k)), (3, .int ((nxs (rtM Z p0) (shM Z) k) + (Z 119 k))), (4, .int (nI k)), (0, .ref (G.2.1 (113))), (1, .int (p0))]) C dX5_nextOf_98 rfl (by rw [hN]; decide) rfl ?_
              refine j_iinc (v := nI (k + 1)) (lv' := [(4, .int (nI (k + 1))), (2, .int (nI k)), (3, .int ((nxs (rtM Z p0) (shM Z) k) + (Z 119 k))), (0, .ref (G.2.1 (113))), (1, .int (p0))]) C 2 dX5_nextOf_99 rfl (nI_add k 1) (by rw [hN]; decide) rfl ?_
              refine j_goto (tgt := 7) C dX5_nextOf_102 (by decide) ?_
              refine j_lv (lv' := [(4, .int (nI (k + 1))), (2, .int (oiz (some k))), (3, .int (nxs (rtM Z p0) (shM Z) (k + 1))), (0, .ref (G.2.1 (113))), (1, .int (p0))]) (by rw [nxs_t hrt]; rfl) ?_
              refine j_Z (Z' := (zaf Z (k + 1) (fun i _ => ncM Z p0 i) [2])) (znm_s (by omega) rfl) ?_
              exact ih (k + 1) (some k) (by omega) (by omega) (by first | exact nxb_0 hrt ho | exact nxb_2 hrt ho (by omega))
            ·
              refine j_Z e29 ?_
              refine j_if_eq (tgt := 99) (a := ((0 : Nat) : Int)) C (nI_toInt (by omega)) dX5_nextOf_32 (by decide) (fun c32 => ?_) (fun c32 => absurd c32 (by omega))
              have hrt : rtM Z p0 k = false := decide_eq_false (by omega)
              have hnc : ncM Z p0 k = Z 121 (24 + k) := by simp only [ncM, hrt]; rfl
              refine j_iinc (v := nI (k + 1)) (lv' := [(4, .int (nI (k + 1))), (2, .int (-1)), (3, .int (nxs (rtM Z p0) (shM Z) k)), (0, .ref (G.2.1 (113))), (1, .int (p0))]) C 0 dX5_nextOf_99 rfl (nI_add k 1) (by rw [hN]; decide) rfl ?_
              refine j_goto (tgt := 7) C dX5_nextOf_102 (by decide) ?_
              refine j_lv (lv' := [(4, .int (nI (k + 1))), (2, .int (oiz none)), (3, .int (nxs (rtM Z p0) (shM Z) (k + 1))), (0, .ref (G.2.1 (113))), (1, .int (p0))]) (by rw [nxs_f hrt]; rfl) ?_
              refine j_Z (Z' := (zaf Z (k + 1) (fun i _ => ncM Z p0 i) [2])) (zaf_n (by omega) (fun g _ hg => by rw [List.mem_singleton.mp hg]; exact hnc)) ?_
              exact ih (k + 1) none (by omega) (by omega) (by rw [nxb_f hrt]; exact ho)
      ·
        have hc : c < k := (nxb_spec ho).1
        refine j_iload C 0 dX5_nextOf_7 rfl ?_
        refine j_aload_n C 3 dX5_nextOf_9 rfl rfl ?_
        refine j_getI C zK5 (zb_M hG) (zs_M hG) (f := 1) (by decide) rfl zk_X5_75 rfl (nI np) ((zaf_o (by omega)).trans (hnp)) dX5_nextOf_10 ?_
        refine j_icmp_ge (tgt := 105) (a := ((k : Nat) : Int)) (b := ((np : Nat) : Int)) C (nI_toInt (by omega)) (nI_toInt (by omega)) dX5_nextOf_13 (by decide) (fun c13 => ?_) (fun c13 => ?_)
        ·
          have e9 : k = np := by omega
          subst e9
          refine j_iload_n C 1 dX5_nextOf_105 rfl rfl ?_
          refine j_iconst C (-1) dX5_nextOf_106 (by decide) ?_
          refine j_icmp_eq (tgt := 123) (a := ((c : Nat) : Int)) (b := -1) C (nI_toInt (by omega)) (show ((-1 : Int32)).toInt = -1 by decide) dX5_nextOf_107 (by decide) (fun c107 => ?_) (fun c107 => ?_)
          ·
            refine j_iload_n C 1 dX5_nextOf_123 rfl rfl ?_
            refine j_iret C R dX5_nextOf_124 ?_
            exact absurd c107 (by omega)
          ·
            refine j_aload_n C 3 dX5_nextOf_110 rfl rfl ?_
            refine j_getR C zK5 (zb_M hG) (zs_M hG) (f := 10) (by decide) rfl zk_X5_36 rfl (zf_M_10 hG) dX5_nextOf_111 ?_
            refine j_bipush C (nI 24) dX5_nextOf_114 (by decide) ?_
            refine j_iload_n C 1 dX5_nextOf_116 rfl rfl ?_
            refine j_iadd C (nI (24 + c)) dX5_nextOf_117 (nI_add 24 c) ?_
            refine j_dup2 C dX5_nextOf_118 rfl rfl ?_
            refine j_iald C (zb_rAt hG) (zs_rAt hG) (zl_rAt hG) rfl (by omega) (by decide) (ncM Z p0 c) (zaf_i (g := 2) (by omega) (by omega) (by decide) (by omega) (by decide)) dX5_nextOf_119 ?_
            refine j_iload_n C 2 dX5_nextOf_120 rfl rfl ?_
            refine j_isub C ((ncM Z p0 c) - (nxs (rtM Z p0) (shM Z) k)) dX5_nextOf_121 rfl ?_
            refine j_iast C hD (zb_rAt hG) (zs_rAt hG) (zl_rAt hG) rfl (by omega) (by decide) dX5_nextOf_122 ?_
            refine j_iload_n C 1 dX5_nextOf_123 rfl rfl ?_
            refine j_iret C R dX5_nextOf_124 ?_
            exact Or.inr ⟨c, ho, rfl, rfl⟩
        ·
          refine j_aload_n C 3 dX5_nextOf_16 rfl rfl ?_
          refine j_iload C 0 dX5_nextOf_17 rfl ?_
          refine j_callI C hR (kX5_reader hD hG (i := k) (by omega) (re := Z (121) (36 + k)) (zaf_o (by omega))) [] zmX5_reader zk_X5_105 zK5 (zb_M hG) (zs_M hG) (by decide) rfl rfl (Nat.le_of_ble_eq_true rfl) dX5_nextOf_19 (fun r19 Z19 h19 => ?_)
          obtain ⟨h19, rfl⟩ := h19
          refine j_Z (Z' := (zaf Z (k) (fun i _ => ncM Z p0 i) [2])) h19 ?_
          refine j_iload_n C 4 dX5_nextOf_22 rfl rfl ?_
          refine j_icmp_ne (tgt := 99) (a := (Z (121) (36 + k)).toInt) (b := (p0).toInt) C rfl rfl dX5_nextOf_23 (by decide) (fun c23 => ?_) (fun c23 => ?_)
          ·
            have hrt : rtM Z p0 k = false := decide_eq_false (by omega)
            have hnc : ncM Z p0 k = Z 121 (24 + k) := by simp only [ncM, hrt]; rfl
            refine j_iinc (v := nI (k + 1)) (lv' := [(4, .int (nI (k + 1))), (2, .int (nI c)), (3, .int (nxs (rtM Z p0) (shM Z) k)), (0, .ref (G.2.1 (113))), (1, .int (p0))]) C 0 dX5_nextOf_99 rfl (nI_add k 1) (by rw [hN]; decide) rfl ?_
            refine j_goto (tgt := 7) C dX5_nextOf_102 (by decide) ?_
            refine j_lv (lv' := [(4, .int (nI (k + 1))), (2, .int (oiz (some c))), (3, .int (nxs (rtM Z p0) (shM Z) (k + 1))), (0, .ref (G.2.1 (113))), (1, .int (p0))]) (by rw [nxs_f hrt]; rfl) ?_
            refine j_Z (Z' := (zaf Z (k + 1) (fun i _ => ncM Z p0 i) [2])) (zaf_n (by omega) (fun g _ hg => by rw [List.mem_singleton.mp hg]; exact hnc)) ?_
            exact ih (k + 1) (some c) (by omega) (by omega) (by rw [nxb_f hrt]; exact ho)
          ·
            refine j_aload_n C 3 dX5_nextOf_26 rfl rfl ?_
            refine j_iload C 0 dX5_nextOf_27 rfl ?_
            refine j_callI C hR (kX5_isReady hD hG (i := k) (by omega) (rc := Z 117 k) (rcI := (Z 117 k).toInt) (zaf_o (by omega)) rfl (po := Z 121 k) (poI := (Z 121 k).toInt) (zaf_o (by omega)) rfl) [] zmX5_isReady zk_X5_82 zK5 (zb_M hG) (zs_M hG) (by decide) rfl rfl (Nat.le_of_ble_eq_true rfl) dX5_nextOf_29 (fun r29 Z29 h29 => ?_)
            obtain ⟨e29, ⟨rfl, h29⟩ | ⟨rfl, h29⟩⟩ := h29
            ·
              refine j_Z e29 ?_
              refine j_if_eq (tgt := 99) (a := ((1 : Nat) : Int)) C (nI_toInt (by omega)) dX5_nextOf_32 (by decide) (fun c32 => absurd c32 (by omega)) (fun c32 => ?_)
              have hrt : rtM Z p0 k = true := decide_eq_true (by omega)
              have hnc : Z 121 (24 + k) + Z 119 k = ncM Z p0 k := by simp only [ncM, hrt, if_true]
              refine j_aload_n C 3 dX5_nextOf_35 rfl rfl ?_
              refine j_getR C zK5 (zb_M hG) (zs_M hG) (f := 10) (by decide) rfl zk_X5_36 rfl (zf_M_10 hG) dX5_nextOf_36 ?_
              refine j_bipush C (nI 24) dX5_nextOf_39 (by decide) ?_
              refine j_iload C 0 dX5_nextOf_41 rfl ?_
              refine j_iadd C (nI (24 + k)) dX5_nextOf_43 (nI_add 24 k) ?_
              refine j_dup2 C dX5_nextOf_44 rfl rfl ?_
              refine j_iald C (zb_rAt hG) (zs_rAt hG) (zl_rAt hG) rfl (by omega) (by decide) (Z (121) (24 + k)) (zaf_o (by omega)) dX5_nextOf_45 ?_
              refine j_aload_n C 3 dX5_nextOf_46 rfl rfl ?_
              refine j_getR C zK5 (zb_M hG) (zs_M hG) (f := 8) (by decide) rfl zk_X5_30 rfl (zf_M_8 hG) dX5_nextOf_47 ?_
              refine j_iload C 0 dX5_nextOf_50 rfl ?_
              refine j_iald C (zb_rSha hG) (zs_rSha hG) (zl_rSha hG) rfl (by omega) (by decide) (Z 119 k) (zaf_o (by omega)) dX5_nextOf_52 ?_
              refine j_iadd C (ncM Z p0 k) dX5_nextOf_53 hnc ?_
              refine j_iast C hD (zb_rAt hG) (zs_rAt hG) (zl_rAt hG) rfl (by omega) (by decide) dX5_nextOf_54 ?_
              refine j_iload_n C 2 dX5_nextOf_55 rfl rfl ?_
              refine j_aload_n C 3 dX5_nextOf_56 rfl rfl ?_
              refine j_getR C zK5 (zb_M hG) (zs_M hG) (f := 8) (by decide) rfl zk_X5_30 rfl (zf_M_8 hG) dX5_nextOf_57 ?_
              refine j_iload C 0 dX5_nextOf_60 rfl ?_
              refine j_iald C (zb_rSha hG) (zs_rSha hG) (zl_rSha hG) rfl (by omega) (by decide) (Z 119 k) ((zu_o (by omega)).trans ((zaf_o (by omega)))) dX5_nextOf_62 ?_
              refine j_iadd C ((nxs (rtM Z p0) (shM Z) k) + (Z 119 k)) dX5_nextOf_63 rfl ?_
              refine j_istore_n (lv' := [(3, .int ((nxs (rtM Z p0) (shM Z) k) + (Z 119 k))), (4, .int (nI k)), (2, .int (nI c)), (0, .ref (G.2.1 (113))), (1, .int (p0))]) C dX5_nextOf_64 rfl (by rw [hN]; decide) rfl ?_
              refine j_iload_n C 2 dX5_nextOf_65 rfl rfl ?_
              refine j_iconst C (-1) dX5_nextOf_66 (by decide) ?_
              refine j_icmp_eq (tgt := 92) (a := ((c : Nat) : Int)) (b := -1) C (nI_toInt (by omega)) (show ((-1 : Int32)).toInt = -1 by decide) dX5_nextOf_67 (by decide) (fun c67 => ?_) (fun c67 => ?_)
              ·
                refine j_iload C 1 dX5_nextOf_92 rfl ?_
                refine j_goto (tgt := 98) C dX5_nextOf_94 (by decide) ?_
                refine j_istore_n (lv' := [(2, .int (nI k)), (3, .int ((nxs (rtM Z p0) (shM Z) k) + (Z 119 k))), (4, .int (nI k)), (0, .ref (G.2.1 (113))), (1, .int (p0))]) C dX5_nextOf_98 rfl (by rw [hN]; decide) rfl ?_
                refine j_iinc (v := nI (k + 1)) (lv' := [(4, .int (nI (k + 1))), (2, .int (nI k)), (3, .int ((nxs (rtM Z p0) (shM Z) k) + (Z 119 k))), (0, .ref (G.2.1 (113))), (1, .int (p0))]) C 2 dX5_nextOf_99 rfl (nI_add k 1) (by rw [hN]; decide) rfl ?_
                refine j_goto (tgt := 7) C dX5_nextOf_102 (by decide) ?_
                refine j_lv (lv' := [(4, .int (nI (k + 1))), (2, .int (oiz (some k))), (3, .int (nxs (rtM Z p0) (shM Z) (k + 1))), (0, .ref (G.2.1 (113))), (1, .int (p0))]) (by rw [nxs_t hrt]; rfl) ?_
                refine j_Z (Z' := (zaf Z (k + 1) (fun i _ => ncM Z p0 i) [2])) (znm_s (by omega) rfl) ?_
                exact ih (k + 1) (some k) (by omega) (by omega) (by first | exact nxb_0 hrt ho | exact nxb_2 hrt ho (by omega))
              ·
                refine j_aload_n C 3 dX5_nextOf_70 rfl rfl ?_
                refine j_getR C zK5 (zb_M hG) (zs_M hG) (f := 10) (by decide) rfl zk_X5_36 rfl (zf_M_10 hG) dX5_nextOf_71 ?_
                refine j_bipush C (nI 24) dX5_nextOf_74 (by decide) ?_
                refine j_iload C 1 dX5_nextOf_76 rfl ?_
                refine j_iadd C (nI (24 + k)) dX5_nextOf_78 (nI_add 24 k) ?_
                refine j_iald C (zb_rAt hG) (zs_rAt hG) (zl_rAt hG) rfl (by omega) (by decide) (ncM Z p0 k) zu_s dX5_nextOf_79 ?_
                refine j_aload_n C 3 dX5_nextOf_80 rfl rfl ?_
                refine j_getR C zK5 (zb_M hG) (zs_M hG) (f := 10) (by decide) rfl zk_X5_36 rfl (zf_M_10 hG) dX5_nextOf_81 ?_
                refine j_bipush C (nI 24) dX5_nextOf_84 (by decide) ?_
                refine j_iload_n C 2 dX5_nextOf_86 rfl rfl ?_
                refine j_iadd C (nI (24 + c)) dX5_nextOf_87 (nI_add 24 c) ?_
                refine j_iald C (zb_rAt hG) (zs_rAt hG) (zl_rAt hG) rfl (by omega) (by decide) (ncM Z p0 c) ((zu_o (by omega)).trans ((zaf_i (g := 2) (by omega) (by omega) (by decide) (by omega) (by decide)))) dX5_nextOf_88 ?_
                refine j_icmp_le (tgt := 97) (a := (ncM Z p0 k).toInt) (b := (ncM Z p0 c).toInt) C rfl rfl dX5_nextOf_89 (by decide) (fun c89 => ?_) (fun c89 => ?_)
                ·
                  refine j_iload_n C 2 dX5_nextOf_97 rfl rfl ?_
                  refine j_istore_n (lv' := [(2, .int (nI c)), (3, .int ((nxs (rtM Z p0) (shM Z) k) + (Z 119 k))), (4, .int (nI k)), (0, .ref (G.2.1 (113))), (1, .int (p0))]) C dX5_nextOf_98 rfl (by rw [hN]; decide) rfl ?_
                  refine j_iinc (v := nI (k + 1)) (lv' := [(4, .int (nI (k + 1))), (2, .int (nI c)), (3, .int ((nxs (rtM Z p0) (shM Z) k) + (Z 119 k))), (0, .ref (G.2.1 (113))), (1, .int (p0))]) C 2 dX5_nextOf_99 rfl (nI_add k 1) (by rw [hN]; decide) rfl ?_
                  refine j_goto (tgt := 7) C dX5_nextOf_102 (by decide) ?_
                  refine j_lv (lv' := [(4, .int (nI (k + 1))), (2, .int (oiz (some c))), (3, .int (nxs (rtM Z p0) (shM Z) (k + 1))), (0, .ref (G.2.1 (113))), (1, .int (p0))]) (by rw [nxs_t hrt]; rfl) ?_
                  refine j_Z (Z' := (zaf Z (k + 1) (fun i _ => ncM Z p0 i) [2])) (znm_s (by omega) rfl) ?_
                  exact ih (k + 1) (some c) (by omega) (by omega) (nxb_1 hrt ho (by omega))
                ·
                  refine j_iload C 1 dX5_nextOf_92 rfl ?_
                  refine j_goto (tgt := 98) C dX5_nextOf_94 (by decide) ?_
                  refine j_istore_n (lv' := [(2, .int (nI k)), (3, .int ((nxs (rtM Z p0) (shM Z) k) + (Z 119 k))), (4, .int (nI k)), (0, .ref (G.2.1 (113))), (1, .int (p0))]) C dX5_nextOf_98 rfl (by rw [hN]; decide) rfl ?_
                  refine j_iinc (v := nI (k + 1)) (lv' := [(4, .int (nI (k + 1))), (2, .int (nI k)), (3, .int ((nxs (rtM Z p0) (shM Z) k) + (Z 119 k))), (0, .ref (G.2.1 (113))), (1, .int (p0))]) C 2 dX5_nextOf_99 rfl (nI_add k 1) (by rw [hN]; decide) rfl ?_
                  refine j_goto (tgt := 7) C dX5_nextOf_102 (by decide) ?_
                  refine j_lv (lv' := [(4, .int (nI (k + 1))), (2, .int (oiz (some k))), (3, .int (nxs (rtM Z p0) (shM Z) (k + 1))), (0, .ref (G.2.1 (113))), (1, .int (p0))]) (by rw [nxs_t hrt]; rfl) ?_
                  refine j_Z (Z' := (zaf Z (k + 1) (fun i _ => ncM Z p0 i) [2])) (znm_s (by omega) rfl) ?_
                  exact ih (k + 1) (some k) (by omega) (by omega) (by first | exact nxb_0 hrt ho | exact nxb_2 hrt ho (by omega))
            ·
              refine j_Z e29 ?_
              refine j_if_eq (tgt := 99) (a := ((0 : Nat) : Int)) C (nI_toInt (by omega)) dX5_nextOf_32 (by decide) (fun c32 => ?_) (fun c32 => absurd c32 (by omega))
              have hrt : rtM Z p0 k = false := decide_eq_false (by omega)
              have hnc : ncM Z p0 k = Z 121 (24 + k) := by simp only [ncM, hrt]; rfl
              refine j_iinc (v := nI (k + 1)) (lv' := [(4, .int (nI (k + 1))), (2, .int (nI c)), (3, .int (nxs (rtM Z p0) (shM Z) k)), (0, .ref (G.2.1 (113))), (1, .int (p0))]) C 0 dX5_nextOf_99 rfl (nI_add k 1) (by rw [hN]; decide) rfl ?_
              refine j_goto (tgt := 7) C dX5_nextOf_102 (by decide) ?_
              refine j_lv (lv' := [(4, .int (nI (k + 1))), (2, .int (oiz (some c))), (3, .int (nxs (rtM Z p0) (shM Z) (k + 1))), (0, .ref (G.2.1 (113))), (1, .int (p0))]) (by rw [nxs_f hrt]; rfl) ?_
              refine j_Z (Z' := (zaf Z (k + 1) (fun i _ => ncM Z p0 i) [2])) (zaf_n (by omega) (fun g _ hg => by rw [List.mem_singleton.mp hg]; exact hnc)) ?_
              exact ih (k + 1) (some c) (by omega) (by omega) (by rw [nxb_f hrt]; exact ho)
  refine j_iconst C (-1) dX5_nextOf_0 (by decide) ?_
  refine j_istore_n (lv' := [(2, .int (-1)), (0, .ref (G.2.1 (113))), (1, .int (p0))]) C dX5_nextOf_1 rfl (by rw [hN]; decide) rfl ?_
  refine j_iconst C (nI 0) dX5_nextOf_2 (by decide) ?_
  refine j_istore_n (lv' := [(3, .int (nI 0)), (2, .int (-1)), (0, .ref (G.2.1 (113))), (1, .int (p0))]) C dX5_nextOf_3 rfl (by rw [hN]; decide) rfl ?_
  refine j_iconst C (nI 0) dX5_nextOf_4 (by decide) ?_
  refine j_istore (lv' := [(4, .int (nI 0)), (3, .int (nI 0)), (2, .int (-1)), (0, .ref (G.2.1 (113))), (1, .int (p0))]) C dX5_nextOf_5 (by rw [hN]; decide) rfl ?_
  refine j_sub (lv' := [(4, .int (nI 0)), (2, .int (-1)), (3, .int (nI 0)), (0, .ref (G.2.1 (113))), (1, .int (p0))]) [0, 2, 1, 3, 4] rfl ?_
  refine j_lv (lv' := [(4, .int (nI 0)), (2, .int (oiz none)), (3, .int (nxs (rtM Z p0) (shM Z) 0)), (0, .ref (G.2.1 (113))), (1, .int (p0))]) rfl ?_
  refine j_Z (Z' := (zaf Z (0) (fun i _ => ncM Z p0 i) [2])) (zaf_0).symm ?_
  exact L7 (np + 1) 0 none (by omega) (by omega) rfl
