def zcpy (Z : ZT) (c0 c1 m : Nat) : ZT := fun a b => if a = c1 ∧ b < m then Z c0 b else Z a b
theorem zcpy_o {Z : ZT} {c0 c1 m a b : Nat} (h : a ≠ c1 ∨ m ≤ b) : zcpy Z c0 c1 m a b = Z a b := by
  have : ¬ (a = c1 ∧ b < m) := by omega
  simp [zcpy, this]
theorem zcpy_i {Z : ZT} {c0 c1 m b : Nat} (h : b < m) : zcpy Z c0 c1 m c1 b = Z c0 b := by simp [zcpy, h]
set_option maxRecDepth 100000 in
theorem zw_ac1 : Cond.native arraycopyName ∈ zw_good := zw_in (by decide +kernel) rfl
set_option maxRecDepth 100000 in
theorem zw_ac2 : Cond.static arraycopyName ∈ zw_good := zw_in (by decide +kernel) rfl
set_option maxRecDepth 100000 in
theorem zw_ac3 : Cond.initialized "java/lang/System" ∈ zw_good := zw_in (by decide +kernel) rfl
theorem zc_cpy6 {G : GT} {Y : YT} {Z : ZT} {c0 c1 m : Nat} (h : c1 < G.1) (hs : G.2.2.1 c1 = 6) : (zc G Y Z).set c1 (G.2.1 c1, .inl (Y.1, G.2.2.2.1 c1, .inl (va_cpy (Z c0) (Z c1) 0 0 m))) = zc G Y (zcpy Z c0 c1 m) := by
  have e1 : zcpy Z c0 c1 m c1 = va_cpy (Z c0) (Z c1) 0 0 m := by
    funext b
    by_cases hb : b < m <;> simp [zcpy, va_cpy, hb]
  refine zc_set h (by rw [ze_I hs, e1]) (fun a ha => ?_)
  have hz : zcpy Z c0 c1 m a = Z a := by funext b; simp [zcpy, ha]
  simp only [ze, zfl, hz]
theorem zc_cpy7 {G : GT} {Y : YT} {Z : ZT} {c0 c1 m : Nat} (h : c1 < G.1) (hs : G.2.2.1 c1 = 7) : (zc G Y Z).set c1 (G.2.1 c1, .inl (Y.2.1, G.2.2.2.1 c1, .inl (va_cpy (Z c0) (Z c1) 0 0 m))) = zc G Y (zcpy Z c0 c1 m) := by
  have e1 : zcpy Z c0 c1 m c1 = va_cpy (Z c0) (Z c1) 0 0 m := by
    funext b
    by_cases hb : b < m <;> simp [zcpy, va_cpy, hb]
  refine zc_set h (by rw [ze_Z hs, e1]) (fun a ha => ?_)
  have hz : zcpy Z c0 c1 m a = Z a := by funext b; simp [zcpy, ha]
  simp only [ze, zfl, hz]
theorem j_copyI {E : ET} {own : String} {cc : ByteArray} {ce sl lev : Nat} {G : GT} {pc : Nat} {lv : List (Nat × Value)} {st : List Value} {Z : ZT} (C : Cb E own cc) (hD : GD (e0 E) G) (hR : eR E = rmL (lev + 2)) {c0 c1 m n0 n1 index : Nat} (hc0 : c0 < G.1) (hs0 : G.2.2.1 c0 = 6) (hn0 : G.2.2.2.1 c0 = n0) (hc1 : c1 < G.1) (hs1 : G.2.2.1 c1 = 6) (hn1 : G.2.2.2.1 c1 = n1) (h0 : m ≤ n0) (h1 : m ≤ n1) (hb0 : n0 < 2 ^ 31) (hb1 : n1 < 2 ^ 31) (hl : Cond.methodLink own index arraycopyName ∈ zw_good) (hst : (st.map fun v => v.category).sum ≤ 8) (hd : decode cc pc = .ok (.invokestatic index, 3)) (kk : J E ce sl G (pc + 3) lv st (zcpy Z c0 c1 m)) : J E ce sl G pc lv (.int (nI m) :: .int (nI 0) :: .ref (G.2.1 c1) :: .int (nI 0) :: .ref (G.2.1 c0) :: st) Z := by
  subst hn0; subst hn1
  intro H locs ls hP hS h
  have z0 : (nI 0).toNatClampNeg = 0 := nI_clamp (by decide)
  have zm : (nI m).toNatClampNeg = m := nI_clamp (by omega)
  have hfw : nativeFrameWords "java/lang/System" "arraycopy" 5 + 11 ≤ 60 := by decide +kernel
  refine va_copyi C.hx C.hb (C.hml.trans h.1.symm) C.ho (C.hts _ hl) (C.hts _ zw_ac1) (C.hts _ zw_ac2) (C.hts _ zw_ac3) C.hK hP (zc_D hD) hS c0 c1 0 0 (by rw [zc_at hc0, ze_I hs0]) (by rw [zc_at hc1, ze_I hs1]) rfl rfl rfl (nI_pos (by decide)) (nI_pos (by decide)) (nI_pos (by omega)) (by rw [z0, zm]; omega) (by rw [z0, zm]; omega) ?_ (by rw [hR]; show 1 ≤ lev + 2; omega) (by rw [hR]; show _ + _ ≤ 40 * (lev + 2); omega) hd ?_
  · rw [z0]
    exact (fun _ _ => rfl)
  · intro H1 locs1 hP1 _ hS1
    rw [z0, zm, zc_cpy6 hc1 hs1] at hP1
    exact kk H1 locs1 ls hP1 hS1 h
theorem j_copyZ {E : ET} {own : String} {cc : ByteArray} {ce sl lev : Nat} {G : GT} {pc : Nat} {lv : List (Nat × Value)} {st : List Value} {Z : ZT} (C : Cb E own cc) (hD : GD (e0 E) G) (hR : eR E = rmL (lev + 2)) {c0 c1 m n0 n1 index : Nat} (hc0 : c0 < G.1) (hs0 : G.2.2.1 c0 = 7) (hn0 : G.2.2.2.1 c0 = n0) (hc1 : c1 < G.1) (hs1 : G.2.2.1 c1 = 7) (hn1 : G.2.2.2.1 c1 = n1) (h0 : m ≤ n0) (h1 : m ≤ n1) (hb0 : n0 < 2 ^ 31) (hb1 : n1 < 2 ^ 31) (hz : ∀ j, j < m → Z c0 j = 0 ∨ Z c0 j = 1) (hl : Cond.methodLink own index arraycopyName ∈ zw_good) (hst : (st.map fun v => v.category).sum ≤ 8) (hd : decode cc pc = .ok (.invokestatic index, 3)) (kk : J E ce sl G (pc + 3) lv st (zcpy Z c0 c1 m)) : J E ce sl G pc lv (.int (nI m) :: .int (nI 0) :: .ref (G.2.1 c1) :: .int (nI 0) :: .ref (G.2.1 c0) :: st) Z := by
  subst hn0; subst hn1
  intro H locs ls hP hS h
  have z0 : (nI 0).toNatClampNeg = 0 := nI_clamp (by decide)
  have zm : (nI m).toNatClampNeg = m := nI_clamp (by omega)
  have hfw : nativeFrameWords "java/lang/System" "arraycopy" 5 + 11 ≤ 60 := by decide +kernel
  refine va_copyi C.hx C.hb (C.hml.trans h.1.symm) C.ho (C.hts _ hl) (C.hts _ zw_ac1) (C.hts _ zw_ac2) (C.hts _ zw_ac3) C.hK hP (zc_D hD) hS c0 c1 1 1 (by rw [zc_at hc0, ze_Z hs0]) (by rw [zc_at hc1, ze_Z hs1]) rfl rfl rfl (nI_pos (by decide)) (nI_pos (by decide)) (nI_pos (by omega)) (by rw [z0, zm]; omega) (by rw [z0, zm]; omega) ?_ (by rw [hR]; show 1 ≤ lev + 2; omega) (by rw [hR]; show _ + _ ≤ 40 * (lev + 2); omega) hd ?_
  · rw [z0]
    exact (fun j hj => by rw [nI_clamp (by omega)] at hj; rw [Nat.zero_add]; exact zb_ft (hz j hj))
  · intro H1 locs1 hP1 _ hS1
    rw [z0, zm, zc_cpy7 hc1 hs1] at hP1
    exact kk H1 locs1 ls hP1 hS1 h
def fpk (f : Nat → Int32) (t : Int32) : Nat → Nat
  | 0 => 0
  | n + 1 => if fpk f t n < n then fpk f t n else if (f n).toInt < t.toInt then n + 1 else n
theorem fpk_spec (f : Nat → Int32) (t : Int32) : ∀ n, fpk f t n ≤ n ∧ (∀ j, j < fpk f t n → (f j).toInt < t.toInt) ∧ (fpk f t n < n → t.toInt ≤ (f (fpk f t n)).toInt) := by
  intro n
  induction n with
  | zero => exact ⟨Nat.le_refl _, fun j hj => absurd hj (Nat.not_lt_zero j), fun h => absurd h (Nat.lt_irrefl 0)⟩
  | succ n ih =>
    obtain ⟨h1, h2, h3⟩ := ih
    by_cases h : fpk f t n < n
    · have e : fpk f t (n + 1) = fpk f t n := by simp [fpk, h]
      rw [e]
      exact ⟨by omega, h2, fun _ => h3 h⟩
    · have hn : fpk f t n = n := by omega
      by_cases hf : (f n).toInt < t.toInt
      · have e : fpk f t (n + 1) = n + 1 := by simp [fpk, h, hf]
        rw [e]
        refine ⟨Nat.le_refl _, fun j hj => ?_, fun h => absurd h (Nat.lt_irrefl _)⟩
        by_cases hj2 : j = n
        · rw [hj2]; exact hf
        · exact h2 j (by omega)
      · have e : fpk f t (n + 1) = n := by simp [fpk, h, hf]
        rw [e]
        exact ⟨by omega, fun j hj => h2 j (by omega), fun _ => by omega⟩
theorem fpk_eq {f : Nat → Int32} {t : Int32} {n k : Nat} (h1 : k ≤ n) (h2 : ∀ j, j < k → (f j).toInt < t.toInt) (h3 : k < n → t.toInt ≤ (f k).toInt) : k = fpk f t n := by
  obtain ⟨g1, g2, g3⟩ := fpk_spec f t n
  rcases Nat.lt_trichotomy k (fpk f t n) with h | h | h
  · have := g2 k h
    have := h3 (by omega)
    omega
  · exact h
  · have := h2 _ h
    have := g3 (by omega)
    omega
theorem fpk_congr {f g : Nat → Int32} {t : Int32} {n : Nat} (h : ∀ j, j < n → f j = g j) : fpk f t n = fpk g t n := by
  obtain ⟨g1, g2, g3⟩ := fpk_spec f t n
  exact fpk_eq g1 (fun j hj => by rw [← h j (by omega)]; exact g2 j hj) (fun hk => by rw [← h _ hk]; exact g3 hk)
/-- m rows of part i from place p on have gone to part i2 -/
def zmv (Z : ZT) (i i2 p m : Nat) : ZT := fun a b => if a = 12 + 4 * i2 ∧ b < m then Z (12 + 4 * i) (p + b) else if a = 13 + 4 * i2 ∧ b < m then Z (13 + 4 * i) (p + b) else if a = 14 + 4 * i2 ∧ b < m then Z (14 + 4 * i) (p + b) else if a = 11 + 4 * i2 ∧ b = 3 then nI m else Z a b
theorem zmv_0 {Z : ZT} {i i2 p : Nat} (h : Z (11 + 4 * i2) 3 = nI 0) : zmv Z i i2 p 0 = Z := by
  funext a b
  by_cases h1 : a = 11 + 4 * i2 ∧ b = 3
  · simp [zmv, h1, h]
  · simp [zmv, h1]
theorem zmv_o {Z : ZT} {i i2 p m a b : Nat} (h : a < 11 + 4 * i2 ∨ 15 + 4 * i2 ≤ a) : zmv Z i i2 p m a b = Z a b := by
  have h1 : a ≠ 12 + 4 * i2 := by omega
  have h2 : a ≠ 13 + 4 * i2 := by omega
  have h3 : a ≠ 14 + 4 * i2 := by omega
  have h4 : a ≠ 11 + 4 * i2 := by omega
  simp [zmv, h1, h2, h3, h4]
theorem zmv_3 {Z : ZT} {i i2 p m : Nat} : zmv Z i i2 p m (11 + 4 * i2) 3 = nI m := by
  have h1 : 11 + 4 * i2 ≠ 12 + 4 * i2 := by omega
  have h2 : 11 + 4 * i2 ≠ 13 + 4 * i2 := by omega
  have h3 : 11 + 4 * i2 ≠ 14 + 4 * i2 := by omega
  simp [zmv, h1, h2, h3]
theorem zmv_s {Z : ZT} {i i2 p m : Nat} : zu (zu (zu (zu (zmv Z i i2 p m) (12 + 4 * i2) m (Z (12 + 4 * i) (p + m))) (13 + 4 * i2) m (Z (13 + 4 * i) (p + m))) (14 + 4 * i2) m (Z (14 + 4 * i) (p + m))) (11 + 4 * i2) 3 (nI (m + 1)) = zmv Z i i2 p (m + 1) := by
  funext a b
  by_cases h1 : a = 12 + 4 * i2
  · have e2 : a ≠ 13 + 4 * i2 := by omega
    have e3 : a ≠ 14 + 4 * i2 := by omega
    have e4 : a ≠ 11 + 4 * i2 := by omega
    by_cases hb : b = m
    · simp [zu, zmv, h1, hb, show 12 + 4 * i2 ≠ 13 + 4 * i2 by omega, show 12 + 4 * i2 ≠ 14 + 4 * i2 by omega, show 12 + 4 * i2 ≠ 11 + 4 * i2 by omega]
    · by_cases hb2 : b < m
      · simp [zu, zmv, h1, hb, hb2, Nat.lt_succ_of_lt hb2, show 12 + 4 * i2 ≠ 13 + 4 * i2 by omega, show 12 + 4 * i2 ≠ 14 + 4 * i2 by omega, show 12 + 4 * i2 ≠ 11 + 4 * i2 by omega]
      · simp [zu, zmv, h1, hb, hb2, show ¬ b < m + 1 by omega, show 12 + 4 * i2 ≠ 13 + 4 * i2 by omega, show 12 + 4 * i2 ≠ 14 + 4 * i2 by omega, show 12 + 4 * i2 ≠ 11 + 4 * i2 by omega]
  · by_cases h2 : a = 13 + 4 * i2
    · by_cases hb : b = m
      · simp [zu, zmv, h2, hb, show 13 + 4 * i2 ≠ 12 + 4 * i2 by omega, show 13 + 4 * i2 ≠ 14 + 4 * i2 by omega, show 13 + 4 * i2 ≠ 11 + 4 * i2 by omega]
      · by_cases hb2 : b < m
        · simp [zu, zmv, h2, hb, hb2, Nat.lt_succ_of_lt hb2, show 13 + 4 * i2 ≠ 12 + 4 * i2 by omega, show 13 + 4 * i2 ≠ 14 + 4 * i2 by omega, show 13 + 4 * i2 ≠ 11 + 4 * i2 by omega]
        · simp [zu, zmv, h2, hb, hb2, show ¬ b < m + 1 by omega, show 13 + 4 * i2 ≠ 12 + 4 * i2 by omega, show 13 + 4 * i2 ≠ 14 + 4 * i2 by omega, show 13 + 4 * i2 ≠ 11 + 4 * i2 by omega]
    · by_cases h3 : a = 14 + 4 * i2
      · by_cases hb : b = m
        · simp [zu, zmv, h3, hb, show 14 + 4 * i2 ≠ 12 + 4 * i2 by omega, show 14 + 4 * i2 ≠ 13 + 4 * i2 by omega, show 14 + 4 * i2 ≠ 11 + 4 * i2 by omega]
        · by_cases hb2 : b < m
          · simp [zu, zmv, h3, hb, hb2, Nat.lt_succ_of_lt hb2, show 14 + 4 * i2 ≠ 12 + 4 * i2 by omega, show 14 + 4 * i2 ≠ 13 + 4 * i2 by omega, show 14 + 4 * i2 ≠ 11 + 4 * i2 by omega]
          · simp [zu, zmv, h3, hb, hb2, show ¬ b < m + 1 by omega, show 14 + 4 * i2 ≠ 12 + 4 * i2 by omega, show 14 + 4 * i2 ≠ 13 + 4 * i2 by omega, show 14 + 4 * i2 ≠ 11 + 4 * i2 by omega]
      · by_cases h4 : a = 11 + 4 * i2 ∧ b = 3
        · simp [zu, zmv, h1, h2, h3, h4, show 11 + 4 * i2 ≠ 12 + 4 * i2 by omega, show 11 + 4 * i2 ≠ 13 + 4 * i2 by omega, show 11 + 4 * i2 ≠ 14 + 4 * i2 by omega]
        · simp [zu, zmv, h1, h2, h3, h4]
def zkp (Z : ZT) (m k : Nat) : ZT := fun a b => if a = 60 + 9 * m ∧ b < k then Z (11 + 4 * b) 5 else if a = 61 + 9 * m ∧ b < k then Z (11 + 4 * b) 6 else if a = 62 + 9 * m ∧ b < k then Z (11 + 4 * b) 7 else if a = 63 + 9 * m ∧ b < k then Z (11 + 4 * b) 9 else Z a b
theorem zkp_0 {Z : ZT} {m : Nat} : zkp Z m 0 = Z := by
  funext a b
  simp [zkp]
theorem zkp_o {Z : ZT} {m k a b : Nat} (h : a < 60 + 9 * m ∨ 63 + 9 * m < a) : zkp Z m k a b = Z a b := by
  have h1 : a ≠ 60 + 9 * m := by omega
  have h2 : a ≠ 61 + 9 * m := by omega
  have h3 : a ≠ 62 + 9 * m := by omega
  have h4 : a ≠ 63 + 9 * m := by omega
  simp [zkp, h1, h2, h3, h4]
theorem zkp_s {Z : ZT} {m k : Nat} : zu (zu (zu (zu (zkp Z m k) (60 + 9 * m) k (Z (11 + 4 * k) 5)) (61 + 9 * m) k (Z (11 + 4 * k) 6)) (62 + 9 * m) k (Z (11 + 4 * k) 7)) (63 + 9 * m) k (Z (11 + 4 * k) 9) = zkp Z m (k + 1) := by
  funext a b
  simp only [zu, zkp]
  repeat' split
  all_goals first | rfl | (exfalso; omega) | (simp_all; done) | (congr 1; omega) | (congr 2; omega)
theorem zff_s {Z : ZT} {k : Nat} {v : Int32} : zu (zu (zfill (zfill Z 8 k v) 9 k v) 8 k v) 9 k v = zfill (zfill Z 8 (k + 1) v) 9 (k + 1) v := by
  funext a b
  simp only [zu, zfill]
  repeat' split
  all_goals first | rfl | (exfalso; omega) | (simp_all; done) | (congr 1; omega) | (congr 2; omega)
set_option maxRecDepth 100000 in
set_option maxHeartbeats 4000000 in
theorem kX3_firstPlaceFrom {l : Launch} {D : va_G} {Y : YT} {b0 : Nat} {G : GT} (hD : GD b0 G) (hG : Gok 113 G) {Z : ZT} {i : Nat} (hi : i < 12) {rc : Nat} (hrc : Z (11 + 4 * i) 3 = nI rc) (hrc40 : rc ≤ 40) (p0 : Int32) : CI l D Y b0 G yX3_firstPlaceFrom cX3_firstPlaceFrom 3 (some .int) 0 [.ref (G.2.1 (11 + 4 * i)), .int (p0)] Z (fun r Z' => Z' = Z ∧ r = nI (fpk (Z (13 + 4 * i)) p0 rc)) := by
  refine ci_start (lv0 := [(0, .ref (G.2.1 (11 + 4 * i))), (1, .int (p0))]) hD rfl rfl (Nat.le_of_ble_eq_true rfl) rfl ?_
  intro E C R hR hD hN
  have L2 : ∀ (n : Nat) (k : Nat), rc + 1 ≤ k + n → k ≤ rc → (∀ j, j < k → (Z (13 + 4 * i) j).toInt < p0.toInt) → J E 0 0 G 2 [(2, .int (nI k)), (0, .ref (G.2.1 (11 + 4 * i))), (1, .int (p0))] [] Z := by
    intro n
    induction n with
    | zero => intro k hn hk hj; exact absurd hn (by omega)
    | succ n ih =>
      intro k hn hk hj
      refine j_iload_n C 0 dX3_firstPlaceFrom_2 rfl rfl ?_
      refine j_aload_n C 1 dX3_firstPlaceFrom_3 rfl rfl ?_
      refine j_getI C zK3 (zb_Part hG hi) (zs_Part hG hi) (f := 3) (by decide) rfl zk_X3_22 rfl (nI rc) hrc dX3_firstPlaceFrom_4 ?_
      refine j_icmp_ge (tgt := 28) (a := ((k : Nat) : Int)) (b := ((rc : Nat) : Int)) C (nI_toInt (by omega)) (nI_toInt (by omega)) dX3_firstPlaceFrom_7 (by decide) (fun c7 => ?_) (fun c7 => ?_)
      ·
        refine j_aload_n C 1 dX3_firstPlaceFrom_28 rfl rfl ?_
        refine j_getI C zK3 (zb_Part hG hi) (zs_Part hG hi) (f := 3) (by decide) rfl zk_X3_22 rfl (nI rc) hrc dX3_firstPlaceFrom_29 ?_
        refine j_iret C R dX3_firstPlaceFrom_32 ?_
        exact ⟨rfl, congrArg nI (fpk_eq (Nat.le_refl _) (fun j hj2 => hj j (by omega)) (fun h => absurd h (Nat.lt_irrefl _)))⟩
      ·
        refine j_aload_n C 1 dX3_firstPlaceFrom_10 rfl rfl ?_
        refine j_getR C zK3 (zb_Part hG hi) (zs_Part hG hi) (f := 1) (by decide) rfl zk_X3_15 rfl (zf_Part_1 hG hi) dX3_firstPlaceFrom_11 ?_
        refine j_iload_n C 0 dX3_firstPlaceFrom_14 rfl rfl ?_
        refine j_iald C (zb_Tim hG hi) (zs_Tim hG hi) (zl_Tim hG hi) rfl (by omega) (by decide) (Z (13 + 4 * i) (k)) rfl dX3_firstPlaceFrom_15 ?_
        refine j_iload_n C 2 dX3_firstPlaceFrom_16 rfl rfl ?_
        refine j_icmp_lt (tgt := 22) (a := (Z (13 + 4 * i) (k)).toInt) (b := (p0).toInt) C rfl rfl dX3_firstPlaceFrom_17 (by decide) (fun c17 => ?_) (fun c17 => ?_)
        ·
          refine j_iinc (v := nI (k + 1)) (lv' := [(2, .int (nI (k + 1))), (0, .ref (G.2.1 (11 + 4 * i))), (1, .int (p0))]) C 0 dX3_firstPlaceFrom_22 rfl (nI_add k 1) (by rw [hN]; decide) rfl ?_
          refine j_goto (tgt := 2) C dX3_firstPlaceFrom_25 (by decide) ?_
          exact ih (k + 1) (by omega) (by omega) (fun j hj2 => by rcases Nat.lt_succ_iff_lt_or_eq.mp hj2 with q | q; exact hj j q; rw [q]; exact c17)
        ·
          refine j_iload_n C 0 dX3_firstPlaceFrom_20 rfl rfl ?_
          refine j_iret C R dX3_firstPlaceFrom_21 ?_
          exact ⟨rfl, congrArg nI (fpk_eq hk hj (fun _ => c17))⟩
  refine j_iconst C (nI 0) dX3_firstPlaceFrom_0 (by decide) ?_
  refine j_istore_n (lv' := [(2, .int (nI 0)), (0, .ref (G.2.1 (11 + 4 * i))), (1, .int (p0))]) C dX3_firstPlaceFrom_1 rfl (by rw [hN]; decide) rfl ?_
  exact L2 (rc + 1) 0 (by omega) (by omega) (fun j hj => absurd hj (Nat.not_lt_zero j))
set_option maxRecDepth 100000 in
set_option maxHeartbeats 4000000 in
theorem kX3_moveRowsFrom {l : Launch} {D : va_G} {Y : YT} {b0 : Nat} {G : GT} (hD : GD b0 G) (hG : Gok 113 G) {Z : ZT} {i i2 : Nat} (hi : i < 12) (hi2 : i2 < 12) (hne : i ≠ i2) {rc p : Nat} (hrc : Z (11 + 4 * i) 3 = nI rc) (hrc40 : rc ≤ 40) (hp : p ≤ rc) (h0 : Z (11 + 4 * i2) 3 = nI 0) (hsn : ∀ j, j < 40 → Z (14 + 4 * i) j = 0 ∨ Z (14 + 4 * i) j = 1) {en : Int32} (hen : Z (11 + 4 * i) 4 = en) (hez : en = 0 ∨ en = 1) : CV l D Y b0 G yX3_moveRowsFrom cX3_moveRowsFrom 4 1 [.ref (G.2.1 (11 + 4 * i)), .int (nI p), .ref (G.2.1 (11 + 4 * i2))] Z (fun Z' => Z' = zu (zu (zu (zmv Z i i2 p (rc - p)) (11 + 4 * i2) 4 en) (11 + 4 * i) 3 (nI p)) (11 + 4 * i) 4 (nI 1)) := by
  refine cv_start (lv0 := [(0, .ref (G.2.1 (11 + 4 * i))), (1, .int (nI p)), (2, .ref (G.2.1 (11 + 4 * i2)))]) hD rfl (Nat.le_of_ble_eq_true rfl) rfl ?_
  intro E C R hR hD hN
  have L2 : ∀ (n : Nat) (m : Nat), rc + 1 ≤ p + m + n → p + m ≤ rc → J E 0 0 G 2 [(3, .int (nI (p + m))), (0, .ref (G.2.1 (11 + 4 * i))), (1, .int (nI p)), (2, .ref (G.2.1 (11 + 4 * i2)))] [] (zmv Z i i2 p (m)) := by
    intro n
    induction n with
    | zero => intro m hn hm; exact absurd hn (by omega)
    | succ n ih =>
      intro m hn hm
      refine j_iload_n C 0 dX3_moveRowsFrom_2 rfl rfl ?_
      refine j_aload_n C 1 dX3_moveRowsFrom_3 rfl rfl ?_
      refine j_getI C zK3 (zb_Part hG hi) (zs_Part hG hi) (f := 3) (by decide) rfl zk_X3_22 rfl (nI rc) ((zmv_o (by omega)).trans (hrc)) dX3_moveRowsFrom_4 ?_
      refine j_icmp_ge (tgt := 38) (a := ((p + m : Nat) : Int)) (b := ((rc : Nat) : Int)) C (nI_toInt (by omega)) (nI_toInt (by omega)) dX3_moveRowsFrom_7 (by decide) (fun c7 => ?_) (fun c7 => ?_)
      ·
        refine j_aload_n C 3 dX3_moveRowsFrom_38 rfl rfl ?_
        refine j_aload_n C 1 dX3_moveRowsFrom_39 rfl rfl ?_
        refine j_getI C zK3 (zb_Part hG hi) (zs_Part hG hi) (f := 4) (by decide) rfl zk_X3_26 rfl (en) ((zmv_o (by omega)).trans (hen)) dX3_moveRowsFrom_40 ?_
        refine j_putI C hD zK3 (zb_Part hG hi2) (zs_Part hG hi2) (f := 4) (by decide) rfl zk_X3_26 rfl rfl (zb_nr hez) (zb_ft hez) dX3_moveRowsFrom_43 ?_
        refine j_aload_n C 1 dX3_moveRowsFrom_46 rfl rfl ?_
        refine j_iload_n C 2 dX3_moveRowsFrom_47 rfl rfl ?_
        refine j_putI C hD zK3 (zb_Part hG hi) (zs_Part hG hi) (f := 3) (by decide) rfl zk_X3_22 rfl rfl rfl rfl dX3_moveRowsFrom_48 ?_
        refine j_aload_n C 1 dX3_moveRowsFrom_51 rfl rfl ?_
        refine j_iconst C (nI 1) dX3_moveRowsFrom_52 (by decide) ?_
        refine j_putI C hD zK3 (zb_Part hG hi) (zs_Part hG hi) (f := 4) (by decide) rfl zk_X3_26 rfl rfl (zb_nr (by decide)) (zb_ft (by decide)) dX3_moveRowsFrom_53 ?_
        refine j_ret C R dX3_moveRowsFrom_56 ?_
        have e9 : m = rc - p := by omega
        subst e9
        exact rfl
      ·
        refine j_aload_n C 3 dX3_moveRowsFrom_10 rfl rfl ?_
        refine j_aload_n C 1 dX3_moveRowsFrom_11 rfl rfl ?_
        refine j_getR C zK3 (zb_Part hG hi) (zs_Part hG hi) (f := 0) (by decide) rfl zk_X3_9 rfl (zf_Part_0 hG hi) dX3_moveRowsFrom_12 ?_
        refine j_iload_n C 0 dX3_moveRowsFrom_15 rfl rfl ?_
        refine j_iald C (zb_Num hG hi) (zs_Num hG hi) (zl_Num hG hi) rfl (by omega) (by decide) (Z (12 + 4 * i) (p + m)) (zmv_o (by omega)) dX3_moveRowsFrom_16 ?_
        refine j_aload_n C 1 dX3_moveRowsFrom_17 rfl rfl ?_
        refine j_getR C zK3 (zb_Part hG hi) (zs_Part hG hi) (f := 1) (by decide) rfl zk_X3_15 rfl (zf_Part_1 hG hi) dX3_moveRowsFrom_18 ?_
        refine j_iload_n C 0 dX3_moveRowsFrom_21 rfl rfl ?_
        refine j_iald C (zb_Tim hG hi) (zs_Tim hG hi) (zl_Tim hG hi) rfl (by omega) (by decide) (Z (13 + 4 * i) (p + m)) (zmv_o (by omega)) dX3_moveRowsFrom_22 ?_
        refine j_aload_n C 1 dX3_moveRowsFrom_23 rfl rfl ?_
        refine j_getR C zK3 (zb_Part hG hi) (zs_Part hG hi) (f := 2) (by decide) rfl zk_X3_18 rfl (zf_Part_2 hG hi) dX3_moveRowsFrom_24 ?_
        refine j_iload_n C 0 dX3_moveRowsFrom_27 rfl rfl ?_
        refine j_zald C (zb_Snd hG hi) (zs_Snd hG hi) (zl_Snd hG hi) rfl (by omega) (by decide) (Z (14 + 4 * i) (p + m)) (zmv_o (by omega)) dX3_moveRowsFrom_28 ?_
        refine j_callV C hR (kX3_addRow hD hG (i := i2)  hi2 (k := m) zmv_3 (by omega) (Z (12 + 4 * i) (p + m)) (Z (13 + 4 * i) (p + m)) (hsn _ (by omega))) [] zmX3_addRow zk_X3_60 zK3 (zb_Part hG hi2) (zs_Part hG hi2) (by decide) rfl rfl (Nat.le_of_ble_eq_true rfl) dX3_moveRowsFrom_29 (fun Z29 h29 => ?_)
        refine j_Z (Z' := (zu (zu (zu (zu (zmv Z i i2 p (m)) (12 + 4 * i2) (m) (Z (12 + 4 * i) (p + m))) (13 + 4 * i2) (m) (Z (13 + 4 * i) (p + m))) (14 + 4 * i2) (m) (Z (14 + 4 * i) (p + m))) (11 + 4 * i2) (3) (nI (m + 1)))) h29 ?_
        refine j_iinc (v := nI (p + m + 1)) (lv' := [(3, .int (nI (p + m + 1))), (0, .ref (G.2.1 (11 + 4 * i))), (1, .int (nI p)), (2, .ref (G.2.1 (11 + 4 * i2)))]) C 0 dX3_moveRowsFrom_32 rfl (nI_add (p + m) 1) (by rw [hN]; decide) rfl ?_
        refine j_goto (tgt := 2) C dX3_moveRowsFrom_35 (by decide) ?_
        refine j_Z (Z' := (zmv Z i i2 p (m + 1))) zmv_s ?_
        exact ih (m + 1) (by omega) (by omega)
  refine j_iload_n C 1 dX3_moveRowsFrom_0 rfl rfl ?_
  refine j_istore_n (lv' := [(3, .int (nI p)), (0, .ref (G.2.1 (11 + 4 * i))), (1, .int (nI p)), (2, .ref (G.2.1 (11 + 4 * i2)))]) C dX3_moveRowsFrom_1 rfl (by rw [hN]; decide) rfl ?_
  refine j_Z (Z' := (zmv Z i i2 p (0))) (zmv_0 h0).symm ?_
  exact L2 (rc + 1) 0 (by omega) (by omega)
set_option maxRecDepth 100000 in
set_option maxHeartbeats 4000000 in
theorem kX0_forget {l : Launch} {D : va_G} {Y : YT} {b0 : Nat} {G : GT} (hD : GD b0 G) (hG : Gok 113 G) {Z : ZT}  : CV l D Y b0 G yX0_forget cX0_forget 2 0 [.ref (G.2.1 (7))] Z (fun Z' => Z' = (zu (zu (zu (zu (zfill (zfill Z (8) (64) (nI 0)) (9) (64) (nI 0)) (7) (2) (nI 0)) (7) (3) (nI 0)) (7) (4) (nI 0)) (7) (5) (nI 0))) := by
  refine cv_start (lv0 := [(0, .ref (G.2.1 (7)))]) hD rfl (Nat.le_of_ble_eq_true rfl) rfl ?_
  intro E C R hR hD hN
  have L2 : ∀ (n : Nat) (k : Nat), 64 + 1 ≤ k + n → k ≤ 64 → J E 0 0 G 2 [(1, .int (nI k)), (0, .ref (G.2.1 (7)))] [] (zfill (zfill Z (8) (k) (nI 0)) (9) (k) (nI 0)) := by
    intro n
    induction n with
    | zero => intro k hn hk; exact absurd hn (by omega)
    | succ n ih =>
      intro k hn hk
      refine j_iload_n C 0 dX0_forget_2 rfl rfl ?_
      refine j_bipush C (nI 64) dX0_forget_3 (by decide) ?_
      refine j_icmp_ge (tgt := 28) (a := ((k : Nat) : Int)) (b := ((64 : Nat) : Int)) C (nI_toInt (by omega)) (nI_toInt (by omega)) dX0_forget_5 (by decide) (fun c5 => ?_) (fun c5 => ?_)
      ·
        refine j_aload_n C 1 dX0_forget_28 rfl rfl ?_
        refine j_iconst C (nI 0) dX0_forget_29 (by decide) ?_
        refine j_putI C hD zK0 (zb_Del hG) (zs_Del hG) (f := 2) (by decide) rfl zk_X0_18 rfl rfl rfl rfl dX0_forget_30 ?_
        refine j_aload_n C 1 dX0_forget_33 rfl rfl ?_
        refine j_iconst C (nI 0) dX0_forget_34 (by decide) ?_
        refine j_putI C hD zK0 (zb_Del hG) (zs_Del hG) (f := 3) (by decide) rfl zk_X0_22 rfl rfl rfl rfl dX0_forget_35 ?_
        refine j_aload_n C 1 dX0_forget_38 rfl rfl ?_
        refine j_iconst C (nI 0) dX0_forget_39 (by decide) ?_
        refine j_putI C hD zK0 (zb_Del hG) (zs_Del hG) (f := 4) (by decide) rfl zk_X0_25 rfl rfl rfl rfl dX0_forget_40 ?_
        refine j_aload_n C 1 dX0_forget_43 rfl rfl ?_
        refine j_iconst C (nI 0) dX0_forget_44 (by decide) ?_
        refine j_putI C hD zK0 (zb_Del hG) (zs_Del hG) (f := 5) (by decide) rfl zk_X0_28 rfl rfl rfl rfl dX0_forget_45 ?_
        refine j_ret C R dX0_forget_48 ?_
        have e9 : k = 64 := by omega
        subst e9
        exact rfl
      ·
        refine j_aload_n C 1 dX0_forget_8 rfl rfl ?_
        refine j_getR C zK0 (zb_Del hG) (zs_Del hG) (f := 0) (by decide) rfl zk_X0_9 rfl (zf_Del_0 hG) dX0_forget_9 ?_
        refine j_iload_n C 0 dX0_forget_12 rfl rfl ?_
        refine j_iconst C (nI 0) dX0_forget_13 (by decide) ?_
        refine j_zast C hD (zb_Tol hG) (zs_Tol hG) (zl_Tol hG) rfl (by omega) (by decide) (by decide) dX0_forget_14 ?_
        refine j_aload_n C 1 dX0_forget_15 rfl rfl ?_
        refine j_getR C zK0 (zb_Del hG) (zs_Del hG) (f := 1) (by decide) rfl zk_X0_15 rfl (zf_Del_1 hG) dX0_forget_16 ?_
        refine j_iload_n C 0 dX0_forget_19 rfl rfl ?_
        refine j_iconst C (nI 0) dX0_forget_20 (by decide) ?_
        refine j_zast C hD (zb_Tor hG) (zs_Tor hG) (zl_Tor hG) rfl (by omega) (by decide) (by decide) dX0_forget_21 ?_
        refine j_iinc (v := nI (k + 1)) (lv' := [(1, .int (nI (k + 1))), (0, .ref (G.2.1 (7)))]) C 0 dX0_forget_22 rfl (nI_add k 1) (by rw [hN]; decide) rfl ?_
        refine j_goto (tgt := 2) C dX0_forget_25 (by decide) ?_
        refine j_Z (Z' := (zfill (zfill Z 8 (k + 1) (nI 0)) 9 (k + 1) (nI 0))) zff_s ?_
        exact ih (k + 1) (by omega) (by omega)
  refine j_iconst C (nI 0) dX0_forget_0 (by decide) ?_
  refine j_istore_n (lv' := [(1, .int (nI 0)), (0, .ref (G.2.1 (7)))]) C dX0_forget_1 rfl (by rw [hN]; decide) rfl ?_
  refine j_Z (Z' := (zfill (zfill Z 8 0 (nI 0)) 9 0 (nI 0))) (by rw [zfill_0, zfill_0]) ?_
  exact L2 65 0 (by omega) (by omega)
set_option maxRecDepth 100000 in
set_option maxHeartbeats 4000000 in
theorem kX0_tell {l : Launch} {D : va_G} {Y : YT} {b0 : Nat} {G : GT} (hD : GD b0 G) (hG : Gok 113 G) {Z : ZT} {md a : Nat} (hmd : Z 7 2 = nI md) (hma : md + a < 2 ^ 20) {td : Int32} (htd : Z 7 5 = td) {tv8 : Int32} {tv8I : Int} (htv8 : Z 8 ((md + a) % 64) = tv8) (htv8I : tv8.toInt = tv8I) {tv9 : Int32} {tv9I : Int} (htv9 : Z 9 ((md + a) % 64) = tv9) (htv9I : tv9.toInt = tv9I) {p1 : Int32} {p1I : Int} (hp1 : p1.toInt = p1I) : CI l D Y b0 G yX0_tell cX0_tell 5 (some .boolean) 0 [.ref (G.2.1 (7)), .int (nI a), .int (p1)] Z (fun r Z' => (p1I = 0 ∧ ((tv8I ≠ 0 ∧ r = nI 0 ∧ Z' = Z) ∨ (tv8I = 0 ∧ r = nI 1 ∧ Z' = zu (zu Z 8 ((md + a) % 64) (nI 1)) 7 5 (td + nI 1)))) ∨ (p1I ≠ 0 ∧ ((tv9I ≠ 0 ∧ r = nI 0 ∧ Z' = Z) ∨ (tv9I = 0 ∧ r = nI 1 ∧ Z' = zu (zu Z 9 ((md + a) % 64) (nI 1)) 7 5 (td + nI 1))))) := by
  refine ci_start (lv0 := [(0, .ref (G.2.1 (7))), (1, .int (nI a)), (2, .int (p1))]) hD rfl rfl (Nat.le_of_ble_eq_true rfl) rfl ?_
  intro E C R hR hD hN
  refine j_iload_n C 2 dX0_tell_0 rfl rfl ?_
  refine j_if_eq (tgt := 11) (a := p1I) C hp1 dX0_tell_1 (by decide) (fun c1 => ?_) (fun c1 => ?_)
  ·
    refine j_aload_n C 0 dX0_tell_11 rfl rfl ?_
    refine j_getR C zK0 (zb_Del hG) (zs_Del hG) (f := 0) (by decide) rfl zk_X0_9 rfl (zf_Del_0 hG) dX0_tell_12 ?_
    refine j_astore_n (lv' := [(3, .ref (G.2.1 (8))), (0, .ref (G.2.1 (7))), (1, .int (nI a)), (2, .int (p1))]) C dX0_tell_15 rfl (by rw [hN]; decide) rfl ?_
    refine j_aload_n C 1 dX0_tell_16 rfl rfl ?_
    refine j_getI C zK0 (zb_Del hG) (zs_Del hG) (f := 2) (by decide) rfl zk_X0_18 rfl (nI md) hmd dX0_tell_17 ?_
    refine j_iload_n C 2 dX0_tell_20 rfl rfl ?_
    refine j_iadd C (nI (md + a)) dX0_tell_21 (nI_add md a) ?_
    refine j_bipush C (nI 63) dX0_tell_22 (by decide) ?_
    refine j_iand C (nI ((md + a) % 64)) dX0_tell_24 (pk_andN (by omega) 6 (by decide)) ?_
    refine j_istore (lv' := [(4, .int (nI ((md + a) % 64))), (3, .ref (G.2.1 (8))), (0, .ref (G.2.1 (7))), (1, .int (nI a)), (2, .int (p1))]) C dX0_tell_25 (by rw [hN]; decide) rfl ?_
    refine j_aload_n C 1 dX0_tell_27 rfl rfl ?_
    refine j_iload C 0 dX0_tell_28 rfl ?_
    refine j_zald C (zb_Tol hG) (zs_Tol hG) (zl_Tol hG) rfl (by omega) (by decide) (tv8) htv8 dX0_tell_30 ?_
    refine j_if_eq (tgt := 36) (a := tv8I) C htv8I dX0_tell_31 (by decide) (fun c31 => ?_) (fun c31 => ?_)
    ·
      refine j_aload_n C 1 dX0_tell_36 rfl rfl ?_
      refine j_iload C 0 dX0_tell_37 rfl ?_
      refine j_iconst C (nI 1) dX0_tell_39 (by decide) ?_
      refine j_zast C hD (zb_Tol hG) (zs_Tol hG) (zl_Tol hG) rfl (by omega) (by decide) (by decide) dX0_tell_40 ?_
      refine j_aload_n C 2 dX0_tell_41 rfl rfl ?_
      refine j_dup C dX0_tell_42 rfl ?_
      refine j_getI C zK0 (zb_Del hG) (zs_Del hG) (f := 5) (by decide) rfl zk_X0_28 rfl (td) ((zu_o (by omega)).trans (htd)) dX0_tell_43 ?_
      refine j_iconst C (nI 1) dX0_tell_46 (by decide) ?_
      refine j_iadd C (td + (nI 1)) dX0_tell_47 rfl ?_
      refine j_putI C hD zK0 (zb_Del hG) (zs_Del hG) (f := 5) (by decide) rfl zk_X0_28 rfl rfl rfl rfl dX0_tell_48 ?_
      refine j_iconst C (nI 1) dX0_tell_51 (by decide) ?_
      refine j_zret C R (by decide) dX0_tell_52 ?_
      first | exact Or.inl ⟨c1, Or.inl ⟨c31, rfl, rfl⟩⟩ | exact Or.inl ⟨c1, Or.inr ⟨c31, rfl, rfl⟩⟩ | exact Or.inr ⟨c1, Or.inl ⟨c31, rfl, rfl⟩⟩ | exact Or.inr ⟨c1, Or.inr ⟨c31, rfl, rfl⟩⟩
    ·
      refine j_iconst C (nI 0) dX0_tell_34 (by decide) ?_
      refine j_zret C R (by decide) dX0_tell_35 ?_
      first | exact Or.inl ⟨c1, Or.inl ⟨c31, rfl, rfl⟩⟩ | exact Or.inl ⟨c1, Or.inr ⟨c31, rfl, rfl⟩⟩ | exact Or.inr ⟨c1, Or.inl ⟨c31, rfl, rfl⟩⟩ | exact Or.inr ⟨c1, Or.inr ⟨c31, rfl, rfl⟩⟩
  ·
    refine j_aload_n C 0 dX0_tell_4 rfl rfl ?_
    refine j_getR C zK0 (zb_Del hG) (zs_Del hG) (f := 1) (by decide) rfl zk_X0_15 rfl (zf_Del_1 hG) dX0_tell_5 ?_
    refine j_goto (tgt := 15) C dX0_tell_8 (by decide) ?_
    refine j_astore_n (lv' := [(3, .ref (G.2.1 (9))), (0, .ref (G.2.1 (7))), (1, .int (nI a)), (2, .int (p1))]) C dX0_tell_15 rfl (by rw [hN]; decide) rfl ?_
    refine j_aload_n C 1 dX0_tell_16 rfl rfl ?_
    refine j_getI C zK0 (zb_Del hG) (zs_Del hG) (f := 2) (by decide) rfl zk_X0_18 rfl (nI md) hmd dX0_tell_17 ?_
    refine j_iload_n C 2 dX0_tell_20 rfl rfl ?_
    refine j_iadd C (nI (md + a)) dX0_tell_21 (nI_add md a) ?_
    refine j_bipush C (nI 63) dX0_tell_22 (by decide) ?_
    refine j_iand C (nI ((md + a) % 64)) dX0_tell_24 (pk_andN (by omega) 6 (by decide)) ?_
    refine j_istore (lv' := [(4, .int (nI ((md + a) % 64))), (3, .ref (G.2.1 (9))), (0, .ref (G.2.1 (7))), (1, .int (nI a)), (2, .int (p1))]) C dX0_tell_25 (by rw [hN]; decide) rfl ?_
    refine j_aload_n C 1 dX0_tell_27 rfl rfl ?_
    refine j_iload C 0 dX0_tell_28 rfl ?_
    refine j_zald C (zb_Tor hG) (zs_Tor hG) (zl_Tor hG) rfl (by omega) (by decide) (tv9) htv9 dX0_tell_30 ?_
    refine j_if_eq (tgt := 36) (a := tv9I) C htv9I dX0_tell_31 (by decide) (fun c31 => ?_) (fun c31 => ?_)
    ·
      refine j_aload_n C 1 dX0_tell_36 rfl rfl ?_
      refine j_iload C 0 dX0_tell_37 rfl ?_
      refine j_iconst C (nI 1) dX0_tell_39 (by decide) ?_
      refine j_zast C hD (zb_Tor hG) (zs_Tor hG) (zl_Tor hG) rfl (by omega) (by decide) (by decide) dX0_tell_40 ?_
      refine j_aload_n C 2 dX0_tell_41 rfl rfl ?_
      refine j_dup C dX0_tell_42 rfl ?_
      refine j_getI C zK0 (zb_Del hG) (zs_Del hG) (f := 5) (by decide) rfl zk_X0_28 rfl (td) ((zu_o (by omega)).trans (htd)) dX0_tell_43 ?_
      refine j_iconst C (nI 1) dX0_tell_46 (by decide) ?_
      refine j_iadd C (td + (nI 1)) dX0_tell_47 rfl ?_
      refine j_putI C hD zK0 (zb_Del hG) (zs_Del hG) (f := 5) (by decide) rfl zk_X0_28 rfl rfl rfl rfl dX0_tell_48 ?_
      refine j_iconst C (nI 1) dX0_tell_51 (by decide) ?_
      refine j_zret C R (by decide) dX0_tell_52 ?_
      first | exact Or.inl ⟨c1, Or.inl ⟨c31, rfl, rfl⟩⟩ | exact Or.inl ⟨c1, Or.inr ⟨c31, rfl, rfl⟩⟩ | exact Or.inr ⟨c1, Or.inl ⟨c31, rfl, rfl⟩⟩ | exact Or.inr ⟨c1, Or.inr ⟨c31, rfl, rfl⟩⟩
    ·
      refine j_iconst C (nI 0) dX0_tell_34 (by decide) ?_
      refine j_zret C R (by decide) dX0_tell_35 ?_
      first | exact Or.inl ⟨c1, Or.inl ⟨c31, rfl, rfl⟩⟩ | exact Or.inl ⟨c1, Or.inr ⟨c31, rfl, rfl⟩⟩ | exact Or.inr ⟨c1, Or.inl ⟨c31, rfl, rfl⟩⟩ | exact Or.inr ⟨c1, Or.inr ⟨c31, rfl, rfl⟩⟩
def tbz (v : Int32) : Int32 := if v.toInt = 0 then 0 else 1
theorem zu_id {Z : ZT} {c f : Nat} {v : Int32} (h : Z c f = v) : zu Z c f v = Z := by
  funext a b
  by_cases hb : a = c ∧ b = f
  · rw [hb.1, hb.2, zu_s, h]
  · simp [zu, hb]
theorem ztk0 {Z : ZT} {c s : Nat} {td tv : Int32} (htd : Z 7 5 = td) (htv : Z c s = tv) (h : tv.toInt = 0) : Z = zu (zu Z c s (nI 0)) 7 5 (td - tbz tv) := by
  have e : tv = nI 0 := Int32.toInt_inj.mp (by rw [h]; rfl)
  have e2 : td - tbz tv = td := by simp [tbz, h]
  have h1 : zu Z c s (nI 0) = Z := zu_id (by rw [htv, e])
  rw [e2, h1, zu_id htd]
set_option maxRecDepth 100000 in
set_option maxHeartbeats 4000000 in
theorem kX0_take8 {l : Launch} {D : va_G} {Y : YT} {b0 : Nat} {G : GT} (hD : GD b0 G) (hG : Gok 113 G) {Z : ZT} {md : Nat} (hmd : Z 7 2 = nI md) (hm9 : md < 2 ^ 20) {td : Int32} (htd : Z 7 5 = td) {tv : Int32} {tvI : Int} (htv : Z 8 (md % 64) = tv) (htvI : tv.toInt = tvI) : CI l D Y b0 G yX0_take cX0_take 3 (some .boolean) 0 [.ref (G.2.1 (7)), .ref (G.2.1 (8))] Z (fun r Z' => Z' = zu (zu Z 8 (md % 64) (nI 0)) 7 5 (td - tbz tv) ∧ (r = nI 1 ∧ tvI ≠ 0 ∨ r = nI 0 ∧ tvI = 0)) := by
  refine ci_start (lv0 := [(0, .ref (G.2.1 (7))), (1, .ref (G.2.1 (8)))]) hD rfl rfl (Nat.le_of_ble_eq_true rfl) rfl ?_
  intro E C R hR hD hN
  refine j_aload_n C 0 dX0_take_0 rfl rfl ?_
  refine j_getI C zK0 (zb_Del hG) (zs_Del hG) (f := 2) (by decide) rfl zk_X0_18 rfl (nI md) hmd dX0_take_1 ?_
  refine j_bipush C (nI 63) dX0_take_4 (by decide) ?_
  refine j_iand C (nI (md % 64)) dX0_take_6 (pk_andN (by omega) 6 (by decide)) ?_
  refine j_istore_n (lv' := [(2, .int (nI (md % 64))), (0, .ref (G.2.1 (7))), (1, .ref (G.2.1 (8)))]) C dX0_take_7 rfl (by rw [hN]; decide) rfl ?_
  refine j_aload_n C 2 dX0_take_8 rfl rfl ?_
  refine j_iload_n C 0 dX0_take_9 rfl rfl ?_
  refine j_zald C (zb_Tol hG) (zs_Tol hG) (zl_Tol hG) rfl (by omega) (by decide) (tv) htv dX0_take_10 ?_
  refine j_if_ne (tgt := 16) (a := tvI) C htvI dX0_take_11 (by decide) (fun c11 => ?_) (fun c11 => ?_)
  ·
    refine j_aload_n C 2 dX0_take_16 rfl rfl ?_
    refine j_iload_n C 0 dX0_take_17 rfl rfl ?_
    refine j_iconst C (nI 0) dX0_take_18 (by decide) ?_
    refine j_zast C hD (zb_Tol hG) (zs_Tol hG) (zl_Tol hG) rfl (by omega) (by decide) (by decide) dX0_take_19 ?_
    refine j_aload_n C 1 dX0_take_20 rfl rfl ?_
    refine j_dup C dX0_take_21 rfl ?_
    refine j_getI C zK0 (zb_Del hG) (zs_Del hG) (f := 5) (by decide) rfl zk_X0_28 rfl (td) ((zu_o (by omega)).trans (htd)) dX0_take_22 ?_
    refine j_iconst C (nI 1) dX0_take_25 (by decide) ?_
    refine j_isub C (td - (nI 1)) dX0_take_26 rfl ?_
    refine j_putI C hD zK0 (zb_Del hG) (zs_Del hG) (f := 5) (by decide) rfl zk_X0_28 rfl rfl rfl rfl dX0_take_27 ?_
    refine j_iconst C (nI 1) dX0_take_30 (by decide) ?_
    refine j_zret C R (by decide) dX0_take_31 ?_
    refine ⟨?_, Or.inl ⟨rfl, c11⟩⟩
    rw [show tbz tv = nI 1 by simp [tbz, htvI, c11]; rfl]
  ·
    refine j_iconst C (nI 0) dX0_take_14 (by decide) ?_
    refine j_zret C R (by decide) dX0_take_15 ?_
    exact ⟨ztk0 htd htv (by omega), Or.inr ⟨rfl, c11⟩⟩
set_option maxRecDepth 100000 in
set_option maxHeartbeats 4000000 in
theorem kX0_take9 {l : Launch} {D : va_G} {Y : YT} {b0 : Nat} {G : GT} (hD : GD b0 G) (hG : Gok 113 G) {Z : ZT} {md : Nat} (hmd : Z 7 2 = nI md) (hm9 : md < 2 ^ 20) {td : Int32} (htd : Z 7 5 = td) {tv : Int32} {tvI : Int} (htv : Z 9 (md % 64) = tv) (htvI : tv.toInt = tvI) : CI l D Y b0 G yX0_take cX0_take 3 (some .boolean) 0 [.ref (G.2.1 (7)), .ref (G.2.1 (9))] Z (fun r Z' => Z' = zu (zu Z 9 (md % 64) (nI 0)) 7 5 (td - tbz tv) ∧ (r = nI 1 ∧ tvI ≠ 0 ∨ r = nI 0 ∧ tvI = 0)) := by
  refine ci_start (lv0 := [(0, .ref (G.2.1 (7))), (1, .ref (G.2.1 (9)))]) hD rfl rfl (Nat.le_of_ble_eq_true rfl) rfl ?_
  intro E C R hR hD hN
  refine j_aload_n C 0 dX0_take_0 rfl rfl ?_
  refine j_getI C zK0 (zb_Del hG) (zs_Del hG) (f := 2) (by decide) rfl zk_X0_18 rfl (nI md) hmd dX0_take_1 ?_
  refine j_bipush C (nI 63) dX0_take_4 (by decide) ?_
  refine j_iand C (nI (md % 64)) dX0_take_6 (pk_andN (by omega) 6 (by decide)) ?_
  refine j_istore_n (lv' := [(2, .int (nI (md % 64))), (0, .ref (G.2.1 (7))), (1, .ref (G.2.1 (9)))]) C dX0_take_7 rfl (by rw [hN]; decide) rfl ?_
  refine j_aload_n C 2 dX0_take_8 rfl rfl ?_
  refine j_iload_n C 0 dX0_take_9 rfl rfl ?_
  refine j_zald C (zb_Tor hG) (zs_Tor hG) (zl_Tor hG) rfl (by omega) (by decide) (tv) htv dX0_take_10 ?_
  refine j_if_ne (tgt := 16) (a := tvI) C htvI dX0_take_11 (by decide) (fun c11 => ?_) (fun c11 => ?_)
  ·
    refine j_aload_n C 2 dX0_take_16 rfl rfl ?_
    refine j_iload_n C 0 dX0_take_17 rfl rfl ?_
    refine j_iconst C (nI 0) dX0_take_18 (by decide) ?_
    refine j_zast C hD (zb_Tor hG) (zs_Tor hG) (zl_Tor hG) rfl (by omega) (by decide) (by decide) dX0_take_19 ?_
    refine j_aload_n C 1 dX0_take_20 rfl rfl ?_
    refine j_dup C dX0_take_21 rfl ?_
    refine j_getI C zK0 (zb_Del hG) (zs_Del hG) (f := 5) (by decide) rfl zk_X0_28 rfl (td) ((zu_o (by omega)).trans (htd)) dX0_take_22 ?_
    refine j_iconst C (nI 1) dX0_take_25 (by decide) ?_
    refine j_isub C (td - (nI 1)) dX0_take_26 rfl ?_
    refine j_putI C hD zK0 (zb_Del hG) (zs_Del hG) (f := 5) (by decide) rfl zk_X0_28 rfl rfl rfl rfl dX0_take_27 ?_
    refine j_iconst C (nI 1) dX0_take_30 (by decide) ?_
    refine j_zret C R (by decide) dX0_take_31 ?_
    refine ⟨?_, Or.inl ⟨rfl, c11⟩⟩
    rw [show tbz tv = nI 1 by simp [tbz, htvI, c11]; rfl]
  ·
    refine j_iconst C (nI 0) dX0_take_14 (by decide) ?_
    refine j_zret C R (by decide) dX0_take_15 ?_
    exact ⟨ztk0 htd htv (by omega), Or.inr ⟨rfl, c11⟩⟩
set_option maxRecDepth 100000 in
set_option maxHeartbeats 4000000 in
theorem kX1_forget {l : Launch} {D : va_G} {Y : YT} {b0 : Nat} {G : GT} (hD : GD b0 G) (hG : Gok 113 G) {Z : ZT}  : CV l D Y b0 G yX1_forget cX1_forget 2 0 [.ref (G.2.1 (3))] Z (fun Z' => Z' = (zu (zu (zfill Z (4) (256) (nI 0)) (3) (3) (nI 0)) (3) (4) (nI 0))) := by
  refine cv_start (lv0 := [(0, .ref (G.2.1 (3)))]) hD rfl (Nat.le_of_ble_eq_true rfl) rfl ?_
  intro E C R hR hD hN
  have L2 : ∀ (n : Nat) (k : Nat), 256 + 1 ≤ k + n → k ≤ 256 → J E 0 0 G 2 [(1, .int (nI k)), (0, .ref (G.2.1 (3)))] [] (zfill Z (4) (k) (nI 0)) := by
    intro n
    induction n with
    | zero => intro k hn hk; exact absurd hn (by omega)
    | succ n ih =>
      intro k hn hk
      refine j_iload_n C 0 dX1_forget_2 rfl rfl ?_
      refine j_sipush C (nI 255) dX1_forget_3 (by decide) ?_
      refine j_icmp_gt (tgt := 22) (a := ((k : Nat) : Int)) (b := ((255 : Nat) : Int)) C (nI_toInt (by omega)) (nI_toInt (by omega)) dX1_forget_6 (by decide) (fun c6 => ?_) (fun c6 => ?_)
      ·
        refine j_aload_n C 1 dX1_forget_22 rfl rfl ?_
        refine j_iconst C (nI 0) dX1_forget_23 (by decide) ?_
        refine j_putI C hD zK1 (zb_Fin hG) (zs_Fin hG) (f := 3) (by decide) rfl zk_X1_22 rfl rfl rfl rfl dX1_forget_24 ?_
        refine j_aload_n C 1 dX1_forget_27 rfl rfl ?_
        refine j_iconst C (nI 0) dX1_forget_28 (by decide) ?_
        refine j_putI C hD zK1 (zb_Fin hG) (zs_Fin hG) (f := 4) (by decide) rfl zk_X1_26 rfl rfl rfl rfl dX1_forget_29 ?_
        refine j_ret C R dX1_forget_32 ?_
        have e9 : k = 256 := by omega
        subst e9
        exact rfl
      ·
        refine j_aload_n C 1 dX1_forget_9 rfl rfl ?_
        refine j_getR C zK1 (zb_Fin hG) (zs_Fin hG) (f := 0) (by decide) rfl zk_X1_9 rfl (zf_Fin_0 hG) dX1_forget_10 ?_
        refine j_iload_n C 0 dX1_forget_13 rfl rfl ?_
        refine j_iconst C (nI 0) dX1_forget_14 (by decide) ?_
        refine j_zast C hD (zb_Giv hG) (zs_Giv hG) (zl_Giv hG) rfl (by omega) (by decide) (by decide) dX1_forget_15 ?_
        refine j_iinc (v := nI (k + 1)) (lv' := [(1, .int (nI (k + 1))), (0, .ref (G.2.1 (3)))]) C 0 dX1_forget_16 rfl (nI_add k 1) (by rw [hN]; decide) rfl ?_
        refine j_goto (tgt := 2) C dX1_forget_19 (by decide) ?_
        refine j_Z (Z' := (zfill Z 4 (k + 1) (nI 0))) zfill_s ?_
        exact ih (k + 1) (by omega) (by omega)
  refine j_iconst C (nI 0) dX1_forget_0 (by decide) ?_
  refine j_istore_n (lv' := [(1, .int (nI 0)), (0, .ref (G.2.1 (3)))]) C dX1_forget_1 rfl (by rw [hN]; decide) rfl ?_
  refine j_Z (Z' := (zfill Z 4 0 (nI 0))) (zfill_0).symm ?_
  exact L2 257 0 (by omega) (by omega)
set_option maxRecDepth 100000 in
set_option maxHeartbeats 4000000 in
theorem kX1_copyFromM {l : Launch} {D : va_G} {Y : YT} {b0 : Nat} {G : GT} (hD : GD b0 G) (hG : Gok 113 G) {Z : ZT} {j : Nat} (hj : j < 6) {gc ac : Int32} (hgc : Z 3 3 = gc) (hac : Z 3 4 = ac) (hz : ∀ b, b < 256 → Z 4 b = 0 ∨ Z 4 b = 1) : CV l D Y b0 G yX1_copyFrom cX1_copyFrom 2 2 [.ref (G.2.1 (64 + 9 * j)), .ref (G.2.1 (3))] Z (fun Z' => Z' = (zu (zu (zcpy (zcpy (zcpy Z (4) (65 + 9 * j) (256)) (5) (66 + 9 * j) (100)) (6) (67 + 9 * j) (100)) (64 + 9 * j) (3) (gc)) (64 + 9 * j) (4) (ac))) := by
  refine cv_start (lv0 := [(0, .ref (G.2.1 (64 + 9 * j))), (1, .ref (G.2.1 (3)))]) hD rfl (Nat.le_of_ble_eq_true rfl) rfl ?_
  intro E C R hR hD hN
  refine j_aload_n C 1 dX1_copyFrom_0 rfl rfl ?_
  refine j_getR C zK1 (zb_Fin hG) (zs_Fin hG) (f := 0) (by decide) rfl zk_X1_9 rfl (zf_Fin_0 hG) dX1_copyFrom_1 ?_
  refine j_iconst C (nI 0) dX1_copyFrom_4 (by decide) ?_
  refine j_aload_n C 0 dX1_copyFrom_5 rfl rfl ?_
  refine j_getR C zK1 (zb_Mfi hG hj) (zs_Mfi hG hj) (f := 0) (by decide) rfl zk_X1_9 rfl (zf_Mfi_0 hG hj) dX1_copyFrom_6 ?_
  refine j_iconst C (nI 0) dX1_copyFrom_9 (by decide) ?_
  refine j_sipush C (nI 256) dX1_copyFrom_10 (by decide) ?_
  refine j_copyZ C hD hR (zb_Giv hG) (zs_Giv hG) (zl_Giv hG) (zb_Mgi hG hj) (zs_Mgi hG hj) (zl_Mgi hG hj) (by omega) (by omega) (by decide) (by decide) hz zk_X1_29 (Nat.le_of_ble_eq_true rfl) dX1_copyFrom_13 ?_
  refine j_aload_n C 1 dX1_copyFrom_16 rfl rfl ?_
  refine j_getR C zK1 (zb_Fin hG) (zs_Fin hG) (f := 1) (by decide) rfl zk_X1_15 rfl (zf_Fin_1 hG) dX1_copyFrom_17 ?_
  refine j_iconst C (nI 0) dX1_copyFrom_20 (by decide) ?_
  refine j_aload_n C 0 dX1_copyFrom_21 rfl rfl ?_
  refine j_getR C zK1 (zb_Mfi hG hj) (zs_Mfi hG hj) (f := 1) (by decide) rfl zk_X1_15 rfl (zf_Mfi_1 hG hj) dX1_copyFrom_22 ?_
  refine j_iconst C (nI 0) dX1_copyFrom_25 (by decide) ?_
  refine j_bipush C (nI 100) dX1_copyFrom_26 (by decide) ?_
  refine j_copyI C hD hR (zb_Asp hG) (zs_Asp hG) (zl_Asp hG) (zb_Mas hG hj) (zs_Mas hG hj) (zl_Mas hG hj) (by omega) (by omega) (by decide) (by decide) zk_X1_29 (Nat.le_of_ble_eq_true rfl) dX1_copyFrom_28 ?_
  refine j_aload_n C 1 dX1_copyFrom_31 rfl rfl ?_
  refine j_getR C zK1 (zb_Fin hG) (zs_Fin hG) (f := 2) (by decide) rfl zk_X1_19 rfl (zf_Fin_2 hG) dX1_copyFrom_32 ?_
  refine j_iconst C (nI 0) dX1_copyFrom_35 (by decide) ?_
  refine j_aload_n C 0 dX1_copyFrom_36 rfl rfl ?_
  refine j_getR C zK1 (zb_Mfi hG hj) (zs_Mfi hG hj) (f := 2) (by decide) rfl zk_X1_19 rfl (zf_Mfi_2 hG hj) dX1_copyFrom_37 ?_
  refine j_iconst C (nI 0) dX1_copyFrom_40 (by decide) ?_
  refine j_bipush C (nI 100) dX1_copyFrom_41 (by decide) ?_
  refine j_copyI C hD hR (zb_Asq hG) (zs_Asq hG) (zl_Asq hG) (zb_Mat hG hj) (zs_Mat hG hj) (zl_Mat hG hj) (by omega) (by omega) (by decide) (by decide) zk_X1_29 (Nat.le_of_ble_eq_true rfl) dX1_copyFrom_43 ?_
  refine j_aload_n C 0 dX1_copyFrom_46 rfl rfl ?_
  refine j_aload_n C 1 dX1_copyFrom_47 rfl rfl ?_
  refine j_getI C zK1 (zb_Fin hG) (zs_Fin hG) (f := 3) (by decide) rfl zk_X1_22 rfl (gc) ((zcpy_o (by omega)).trans ((zcpy_o (by omega)).trans ((zcpy_o (by omega)).trans (hgc)))) dX1_copyFrom_48 ?_
  refine j_putI C hD zK1 (zb_Mfi hG hj) (zs_Mfi hG hj) (f := 3) (by decide) rfl zk_X1_22 rfl rfl rfl rfl dX1_copyFrom_51 ?_
  refine j_aload_n C 0 dX1_copyFrom_54 rfl rfl ?_
  refine j_aload_n C 1 dX1_copyFrom_55 rfl rfl ?_
  refine j_getI C zK1 (zb_Fin hG) (zs_Fin hG) (f := 4) (by decide) rfl zk_X1_26 rfl (ac) ((zu_o (by omega)).trans ((zcpy_o (by omega)).trans ((zcpy_o (by omega)).trans ((zcpy_o (by omega)).trans (hac))))) dX1_copyFrom_56 ?_
  refine j_putI C hD zK1 (zb_Mfi hG hj) (zs_Mfi hG hj) (f := 4) (by decide) rfl zk_X1_26 rfl rfl rfl rfl dX1_copyFrom_59 ?_
  refine j_ret C R dX1_copyFrom_62 ?_
  exact rfl
set_option maxRecDepth 100000 in
set_option maxHeartbeats 4000000 in
theorem kX1_copyFromX {l : Launch} {D : va_G} {Y : YT} {b0 : Nat} {G : GT} (hD : GD b0 G) (hG : Gok 113 G) {Z : ZT} {j : Nat} (hj : j < 6) {gc ac : Int32} (hgc : Z (64 + 9 * j) 3 = gc) (hac : Z (64 + 9 * j) 4 = ac) (hz : ∀ b, b < 256 → Z (65 + 9 * j) b = 0 ∨ Z (65 + 9 * j) b = 1) : CV l D Y b0 G yX1_copyFrom cX1_copyFrom 2 2 [.ref (G.2.1 (3)), .ref (G.2.1 (64 + 9 * j))] Z (fun Z' => Z' = (zu (zu (zcpy (zcpy (zcpy Z (65 + 9 * j) (4) (256)) (66 + 9 * j) (5) (100)) (67 + 9 * j) (6) (100)) (3) (3) (gc)) (3) (4) (ac))) := by
  refine cv_start (lv0 := [(0, .ref (G.2.1 (3))), (1, .ref (G.2.1 (64 + 9 * j)))]) hD rfl (Nat.le_of_ble_eq_true rfl) rfl ?_
  intro E C R hR hD hN
  refine j_aload_n C 1 dX1_copyFrom_0 rfl rfl ?_
  refine j_getR C zK1 (zb_Mfi hG hj) (zs_Mfi hG hj) (f := 0) (by decide) rfl zk_X1_9 rfl (zf_Mfi_0 hG hj) dX1_copyFrom_1 ?_
  refine j_iconst C (nI 0) dX1_copyFrom_4 (by decide) ?_
  refine j_aload_n C 0 dX1_copyFrom_5 rfl rfl ?_
  refine j_getR C zK1 (zb_Fin hG) (zs_Fin hG) (f := 0) (by decide) rfl zk_X1_9 rfl (zf_Fin_0 hG) dX1_copyFrom_6 ?_
  refine j_iconst C (nI 0) dX1_copyFrom_9 (by decide) ?_
  refine j_sipush C (nI 256) dX1_copyFrom_10 (by decide) ?_
  refine j_copyZ C hD hR (zb_Mgi hG hj) (zs_Mgi hG hj) (zl_Mgi hG hj) (zb_Giv hG) (zs_Giv hG) (zl_Giv hG) (by omega) (by omega) (by decide) (by decide) hz zk_X1_29 (Nat.le_of_ble_eq_true rfl) dX1_copyFrom_13 ?_
  refine j_aload_n C 1 dX1_copyFrom_16 rfl rfl ?_
  refine j_getR C zK1 (zb_Mfi hG hj) (zs_Mfi hG hj) (f := 1) (by decide) rfl zk_X1_15 rfl (zf_Mfi_1 hG hj) dX1_copyFrom_17 ?_
  refine j_iconst C (nI 0) dX1_copyFrom_20 (by decide) ?_
  refine j_aload_n C 0 dX1_copyFrom_21 rfl rfl ?_
  refine j_getR C zK1 (zb_Fin hG) (zs_Fin hG) (f := 1) (by decide) rfl zk_X1_15 rfl (zf_Fin_1 hG) dX1_copyFrom_22 ?_
  refine j_iconst C (nI 0) dX1_copyFrom_25 (by decide) ?_
  refine j_bipush C (nI 100) dX1_copyFrom_26 (by decide) ?_
  refine j_copyI C hD hR (zb_Mas hG hj) (zs_Mas hG hj) (zl_Mas hG hj) (zb_Asp hG) (zs_Asp hG) (zl_Asp hG) (by omega) (by omega) (by decide) (by decide) zk_X1_29 (Nat.le_of_ble_eq_true rfl) dX1_copyFrom_28 ?_
  refine j_aload_n C 1 dX1_copyFrom_31 rfl rfl ?_
  refine j_getR C zK1 (zb_Mfi hG hj) (zs_Mfi hG hj) (f := 2) (by decide) rfl zk_X1_19 rfl (zf_Mfi_2 hG hj) dX1_copyFrom_32 ?_
  refine j_iconst C (nI 0) dX1_copyFrom_35 (by decide) ?_
  refine j_aload_n C 0 dX1_copyFrom_36 rfl rfl ?_
  refine j_getR C zK1 (zb_Fin hG) (zs_Fin hG) (f := 2) (by decide) rfl zk_X1_19 rfl (zf_Fin_2 hG) dX1_copyFrom_37 ?_
  refine j_iconst C (nI 0) dX1_copyFrom_40 (by decide) ?_
  refine j_bipush C (nI 100) dX1_copyFrom_41 (by decide) ?_
  refine j_copyI C hD hR (zb_Mat hG hj) (zs_Mat hG hj) (zl_Mat hG hj) (zb_Asq hG) (zs_Asq hG) (zl_Asq hG) (by omega) (by omega) (by decide) (by decide) zk_X1_29 (Nat.le_of_ble_eq_true rfl) dX1_copyFrom_43 ?_
  refine j_aload_n C 0 dX1_copyFrom_46 rfl rfl ?_
  refine j_aload_n C 1 dX1_copyFrom_47 rfl rfl ?_
  refine j_getI C zK1 (zb_Mfi hG hj) (zs_Mfi hG hj) (f := 3) (by decide) rfl zk_X1_22 rfl (gc) ((zcpy_o (by omega)).trans ((zcpy_o (by omega)).trans ((zcpy_o (by omega)).trans (hgc)))) dX1_copyFrom_48 ?_
  refine j_putI C hD zK1 (zb_Fin hG) (zs_Fin hG) (f := 3) (by decide) rfl zk_X1_22 rfl rfl rfl rfl dX1_copyFrom_51 ?_
  refine j_aload_n C 0 dX1_copyFrom_54 rfl rfl ?_
  refine j_aload_n C 1 dX1_copyFrom_55 rfl rfl ?_
  refine j_getI C zK1 (zb_Mfi hG hj) (zs_Mfi hG hj) (f := 4) (by decide) rfl zk_X1_26 rfl (ac) ((zu_o (by omega)).trans ((zcpy_o (by omega)).trans ((zcpy_o (by omega)).trans ((zcpy_o (by omega)).trans (hac))))) dX1_copyFrom_56 ?_
  refine j_putI C hD zK1 (zb_Fin hG) (zs_Fin hG) (f := 4) (by decide) rfl zk_X1_26 rfl rfl rfl rfl dX1_copyFrom_59 ?_
  refine j_ret C R dX1_copyFrom_62 ?_
  exact rfl
set_option maxRecDepth 100000 in
set_option maxHeartbeats 4000000 in
theorem kX4_isNumber {l : Launch} {D : va_G} {Y : YT} {b0 : Nat} {G : GT} (hD : GD b0 G) (hG : Gok 113 G) {Z : ZT} {p0 : Int32} {b : Int} (hb : p0.toInt = b) : CI l D Y b0 G yX4_isNumber cX4_isNumber 1 (some .boolean) 0 [.int (p0)] Z (fun r Z' => Z' = Z ∧ (r = nI 1 ∧ (0 ≤ b ∧ b ≤ 255) ∨ r = nI 0 ∧ (b < 0 ∨ 255 < b))) := by
  refine ci_start (lv0 := [(0, .int (p0))]) hD rfl rfl (Nat.le_of_ble_eq_true rfl) rfl ?_
  intro E C R hR hD hN
  refine j_iload_n C 0 dX4_isNumber_0 rfl rfl ?_
  refine j_if_lt (tgt := 15) (a := b) C hb dX4_isNumber_1 (by decide) (fun c1 => ?_) (fun c1 => ?_)
  ·
    refine j_iconst C (nI 0) dX4_isNumber_15 (by decide) ?_
    refine j_zret C R (by decide) dX4_isNumber_16 ?_
    exact ⟨rfl, by first | exact Or.inl ⟨rfl, by omega⟩ | exact Or.inr ⟨rfl, by omega⟩⟩
  ·
    refine j_iload_n C 0 dX4_isNumber_4 rfl rfl ?_
    refine j_sipush C (nI 255) dX4_isNumber_5 (by decide) ?_
    refine j_icmp_gt (tgt := 15) (a := b) (b := ((255 : Nat) : Int)) C hb (nI_toInt (by omega)) dX4_isNumber_8 (by decide) (fun c8 => ?_) (fun c8 => ?_)
    ·
      refine j_iconst C (nI 0) dX4_isNumber_15 (by decide) ?_
      refine j_zret C R (by decide) dX4_isNumber_16 ?_
      exact ⟨rfl, by first | exact Or.inl ⟨rfl, by omega⟩ | exact Or.inr ⟨rfl, by omega⟩⟩
    ·
      refine j_iconst C (nI 1) dX4_isNumber_11 (by decide) ?_
      refine j_goto (tgt := 16) C dX4_isNumber_12 (by decide) ?_
      refine j_zret C R (by decide) dX4_isNumber_16 ?_
      exact ⟨rfl, by first | exact Or.inl ⟨rfl, by omega⟩ | exact Or.inr ⟨rfl, by omega⟩⟩
set_option maxRecDepth 100000 in
set_option maxHeartbeats 4000000 in
theorem kX1_wasGiven {l : Launch} {D : va_G} {Y : YT} {b0 : Nat} {G : GT} (hD : GD b0 G) (hG : Gok 113 G) {Z : ZT} {a : Nat} (ha : a < 256) {gv : Int32} {gvI : Int} (hgv : Z 4 a = gv) (hgvI : gv.toInt = gvI) : CI l D Y b0 G yX1_wasGiven cX1_wasGiven 2 (some .boolean) 1 [.ref (G.2.1 (3)), .int (nI a)] Z (fun r Z' => Z' = Z ∧ (r = nI 1 ∧ (gvI ≠ 0) ∨ r = nI 0 ∧ (gvI = 0))) := by
  refine ci_start (lv0 := [(0, .ref (G.2.1 (3))), (1, .int (nI a))]) hD rfl rfl (Nat.le_of_ble_eq_true rfl) rfl ?_
  intro E C R hR hD hN
  refine j_iload_n C 1 dX1_wasGiven_0 rfl rfl ?_
  refine j_callSN C hR (kX4_isNumber hD hG (p0 := nI a) (b := ((a : Nat) : Int)) (nI_toInt (by omega))) [] zmX4_isNumber zk_X1_35 (by decide) rfl rfl (Nat.le_of_ble_eq_true rfl) dX1_wasGiven_1 (fun r1 Z1 h1 => ?_)
  obtain ⟨e1, ⟨rfl, h1⟩ | ⟨rfl, h1⟩⟩ := h1
  ·
    refine j_Z e1 ?_
    refine j_if_eq (tgt := 20) (a := ((1 : Nat) : Int)) C (nI_toInt (by omega)) dX1_wasGiven_4 (by decide) (fun c4 => absurd c4 (by omega)) (fun c4 => ?_)
    refine j_aload_n C 0 dX1_wasGiven_7 rfl rfl ?_
    refine j_getR C zK1 (zb_Fin hG) (zs_Fin hG) (f := 0) (by decide) rfl zk_X1_9 rfl (zf_Fin_0 hG) dX1_wasGiven_8 ?_
    refine j_iload_n C 1 dX1_wasGiven_11 rfl rfl ?_
    refine j_zald C (zb_Giv hG) (zs_Giv hG) (zl_Giv hG) rfl (by omega) (by decide) (gv) hgv dX1_wasGiven_12 ?_
    refine j_if_eq (tgt := 20) (a := gvI) C hgvI dX1_wasGiven_13 (by decide) (fun c13 => ?_) (fun c13 => ?_)
    ·
      refine j_iconst C (nI 0) dX1_wasGiven_20 (by decide) ?_
      refine j_zret C R (by decide) dX1_wasGiven_21 ?_
      exact ⟨rfl, by first | exact Or.inl ⟨rfl, by omega⟩ | exact Or.inr ⟨rfl, by omega⟩⟩
    ·
      refine j_iconst C (nI 1) dX1_wasGiven_16 (by decide) ?_
      refine j_goto (tgt := 21) C dX1_wasGiven_17 (by decide) ?_
      refine j_zret C R (by decide) dX1_wasGiven_21 ?_
      exact ⟨rfl, by first | exact Or.inl ⟨rfl, by omega⟩ | exact Or.inr ⟨rfl, by omega⟩⟩
  ·
    refine j_Z e1 ?_
    exact absurd h1 (by omega)
set_option maxRecDepth 100000 in
set_option maxHeartbeats 4000000 in
theorem kX1_addGiven {l : Launch} {D : va_G} {Y : YT} {b0 : Nat} {G : GT} (hD : GD b0 G) (hG : Gok 113 G) {Z : ZT} {a : Nat} (ha : a < 256) {gv : Int32} {gvI : Int} (hgv : Z 4 a = gv) (hgvI : gv.toInt = gvI) (hg0 : gvI = 0) {gc : Int32} (hgc : Z 3 3 = gc) : CV l D Y b0 G yX1_addGiven cX1_addGiven 2 1 [.ref (G.2.1 (3)), .int (nI a)] Z (fun Z' => Z' = zu (zu Z 4 a (nI 1)) 3 3 (gc + nI 1)) := by
  refine cv_start (lv0 := [(0, .ref (G.2.1 (3))), (1, .int (nI a))]) hD rfl (Nat.le_of_ble_eq_true rfl) rfl ?_
  intro E C R hR hD hN
  refine j_iload_n C 1 dX1_addGiven_0 rfl rfl ?_
  refine j_callSN C hR (kX4_isNumber hD hG (p0 := nI a) (b := ((a : Nat) : Int)) (nI_toInt (by omega))) [] zmX4_isNumber zk_X1_35 (by decide) rfl rfl (Nat.le_of_ble_eq_true rfl) dX1_addGiven_1 (fun r1 Z1 h1 => ?_)
  obtain ⟨e1, ⟨rfl, h1⟩ | ⟨rfl, h1⟩⟩ := h1
  ·
    refine j_Z e1 ?_
    refine j_if_eq (tgt := 33) (a := ((1 : Nat) : Int)) C (nI_toInt (by omega)) dX1_addGiven_4 (by decide) (fun c4 => absurd c4 (by omega)) (fun c4 => ?_)
    refine j_aload_n C 0 dX1_addGiven_7 rfl rfl ?_
    refine j_getR C zK1 (zb_Fin hG) (zs_Fin hG) (f := 0) (by decide) rfl zk_X1_9 rfl (zf_Fin_0 hG) dX1_addGiven_8 ?_
    refine j_iload_n C 1 dX1_addGiven_11 rfl rfl ?_
    refine j_zald C (zb_Giv hG) (zs_Giv hG) (zl_Giv hG) rfl (by omega) (by decide) (gv) hgv dX1_addGiven_12 ?_
    refine j_if_ne (tgt := 33) (a := gvI) C hgvI dX1_addGiven_13 (by decide) (fun c13 => absurd c13 (by omega)) (fun c13 => ?_)
    refine j_aload_n C 0 dX1_addGiven_16 rfl rfl ?_
    refine j_getR C zK1 (zb_Fin hG) (zs_Fin hG) (f := 0) (by decide) rfl zk_X1_9 rfl (zf_Fin_0 hG) dX1_addGiven_17 ?_
    refine j_iload_n C 1 dX1_addGiven_20 rfl rfl ?_
    refine j_iconst C (nI 1) dX1_addGiven_21 (by decide) ?_
    refine j_zast C hD (zb_Giv hG) (zs_Giv hG) (zl_Giv hG) rfl (by omega) (by decide) (by decide) dX1_addGiven_22 ?_
    refine j_aload_n C 0 dX1_addGiven_23 rfl rfl ?_
    refine j_dup C dX1_addGiven_24 rfl ?_
    refine j_getI C zK1 (zb_Fin hG) (zs_Fin hG) (f := 3) (by decide) rfl zk_X1_22 rfl (gc) ((zu_o (by omega)).trans (hgc)) dX1_addGiven_25 ?_
    refine j_iconst C (nI 1) dX1_addGiven_28 (by decide) ?_
    refine j_iadd C (gc + (nI 1)) dX1_addGiven_29 rfl ?_
    refine j_putI C hD zK1 (zb_Fin hG) (zs_Fin hG) (f := 3) (by decide) rfl zk_X1_22 rfl rfl rfl rfl dX1_addGiven_30 ?_
    refine j_ret C R dX1_addGiven_33 ?_
    exact rfl
  ·
    refine j_Z e1 ?_
    exact absurd h1 (by omega)
set_option maxRecDepth 100000 in
set_option maxHeartbeats 4000000 in
theorem kX1_setAside {l : Launch} {D : va_G} {Y : YT} {b0 : Nat} {G : GT} (hD : GD b0 G) (hG : Gok 113 G) {Z : ZT} {ac : Nat} (hac : Z 3 4 = nI ac) (hac100 : ac ≤ 100) (p0 p1 : Int32) : CV l D Y b0 G yX1_setAside cX1_setAside 3 0 [.ref (G.2.1 (3)), .int (p0), .int (p1)] Z (fun Z' => (ac < 100 ∧ Z' = (zu (zu (zu Z (5) (ac) (p0)) (6) (ac) (p1)) (3) (4) (nI (ac + 1)))) ∨ (100 ≤ ac ∧ Z' = Z)) := by
  refine cv_start (lv0 := [(0, .ref (G.2.1 (3))), (1, .int (p0)), (2, .int (p1))]) hD rfl (Nat.le_of_ble_eq_true rfl) rfl ?_
  intro E C R hR hD hN
  refine j_aload_n C 0 dX1_setAside_0 rfl rfl ?_
  refine j_getI C zK1 (zb_Fin hG) (zs_Fin hG) (f := 4) (by decide) rfl zk_X1_26 rfl (nI ac) hac dX1_setAside_1 ?_
  refine j_bipush C (nI 100) dX1_setAside_4 (by decide) ?_
  refine j_icmp_ge (tgt := 39) (a := ((ac : Nat) : Int)) (b := ((100 : Nat) : Int)) C (nI_toInt (by omega)) (nI_toInt (by omega)) dX1_setAside_6 (by decide) (fun c6 => ?_) (fun c6 => ?_)
  ·
    refine j_ret C R dX1_setAside_39 ?_
    first | exact Or.inl ⟨by omega, rfl⟩ | exact Or.inr ⟨by omega, rfl⟩
  ·
    refine j_aload_n C 0 dX1_setAside_9 rfl rfl ?_
    refine j_getR C zK1 (zb_Fin hG) (zs_Fin hG) (f := 1) (by decide) rfl zk_X1_15 rfl (zf_Fin_1 hG) dX1_setAside_10 ?_
    refine j_aload_n C 0 dX1_setAside_13 rfl rfl ?_
    refine j_getI C zK1 (zb_Fin hG) (zs_Fin hG) (f := 4) (by decide) rfl zk_X1_26 rfl (nI ac) hac dX1_setAside_14 ?_
    refine j_iload_n C 1 dX1_setAside_17 rfl rfl ?_
    refine j_iast C hD (zb_Asp hG) (zs_Asp hG) (zl_Asp hG) rfl (by omega) (by decide) dX1_setAside_18 ?_
    refine j_aload_n C 0 dX1_setAside_19 rfl rfl ?_
    refine j_getR C zK1 (zb_Fin hG) (zs_Fin hG) (f := 2) (by decide) rfl zk_X1_19 rfl (zf_Fin_2 hG) dX1_setAside_20 ?_
    refine j_aload_n C 0 dX1_setAside_23 rfl rfl ?_
    refine j_getI C zK1 (zb_Fin hG) (zs_Fin hG) (f := 4) (by decide) rfl zk_X1_26 rfl (nI ac) ((zu_o (by omega)).trans (hac)) dX1_setAside_24 ?_
    refine j_iload_n C 2 dX1_setAside_27 rfl rfl ?_
    refine j_iast C hD (zb_Asq hG) (zs_Asq hG) (zl_Asq hG) rfl (by omega) (by decide) dX1_setAside_28 ?_
    refine j_aload_n C 0 dX1_setAside_29 rfl rfl ?_
    refine j_dup C dX1_setAside_30 rfl ?_
    refine j_getI C zK1 (zb_Fin hG) (zs_Fin hG) (f := 4) (by decide) rfl zk_X1_26 rfl (nI ac) ((zu_o (by omega)).trans ((zu_o (by omega)).trans (hac))) dX1_setAside_31 ?_
    refine j_iconst C (nI 1) dX1_setAside_34 (by decide) ?_
    refine j_iadd C (nI (ac + 1)) dX1_setAside_35 (nI_add ac 1) ?_
    refine j_putI C hD zK1 (zb_Fin hG) (zs_Fin hG) (f := 4) (by decide) rfl zk_X1_26 rfl rfl rfl rfl dX1_setAside_36 ?_
    refine j_ret C R dX1_setAside_39 ?_
    first | exact Or.inl ⟨by omega, rfl⟩ | exact Or.inr ⟨by omega, rfl⟩
set_option maxRecDepth 100000 in
set_option maxHeartbeats 4000000 in
theorem kX2_keep {l : Launch} {D : va_G} {Y : YT} {b0 : Nat} {G : GT} (hD : GD b0 G) (hG : Gok 113 G) {Z : ZT} {m np : Nat} (hm : m < 6) (hnp : np ≤ 12) (hz : ∀ b, b < 256 → Z 4 b = 0 ∨ Z 4 b = 1) : CV l D Y b0 G yX2_keep cX2_keep 5 3 [.ref (G.2.1 (59 + 9 * m)), .ref (G.2.1 (1)), .int (nI np), .ref (G.2.1 (3))] Z (fun Z' => Z' = (zu (zu (zcpy (zcpy (zcpy (zkp (zu Z (59 + 9 * m) (5) (nI np)) m (np)) (4) (65 + 9 * m) (256)) (5) (66 + 9 * m) (100)) (6) (67 + 9 * m) (100)) (64 + 9 * m) (3) (Z 3 3)) (64 + 9 * m) (4) (Z 3 4))) := by
  refine cv_start (lv0 := [(0, .ref (G.2.1 (59 + 9 * m))), (1, .ref (G.2.1 (1))), (2, .int (nI np)), (3, .ref (G.2.1 (3)))]) hD rfl (Nat.le_of_ble_eq_true rfl) rfl ?_
  intro E C R hR hD hN
  have L13 : ∀ (n : Nat) (k : Nat), np + 1 ≤ k + n → k ≤ np → J E 0 0 G 13 [(4, .int (nI k)), (0, .ref (G.2.1 (59 + 9 * m))), (1, .ref (G.2.1 (1))), (2, .int (nI np)), (3, .ref (G.2.1 (3)))] [] (zkp (zu Z (59 + 9 * m) (5) (nI np)) m (k)) := by
    intro n
    induction n with
    | zero => intro k hn hk; exact absurd hn (by omega)
    | succ n ih =>
      intro k hn hk
      refine j_iload C 0 dX2_keep_13 rfl ?_
      refine j_aload_n C 1 dX2_keep_15 rfl rfl ?_
      refine j_getI C zK2 (zb_Mark hG hm) (zs_Mark hG hm) (f := 5) (by decide) rfl zk_X2_37 rfl (nI np) ((zkp_o (by omega)).trans (zu_s)) dX2_keep_16 ?_
      refine j_icmp_ge (tgt := 84) (a := ((k : Nat) : Int)) (b := ((np : Nat) : Int)) C (nI_toInt (by omega)) (nI_toInt (by omega)) dX2_keep_19 (by decide) (fun c19 => ?_) (fun c19 => ?_)
      ·
        have e9 : k = np := by omega
        refine j_Z (Z' := (zkp (zu Z (59 + 9 * m) (5) (nI np)) m (np))) (by rw [e9]) ?_
        refine j_aload_n C 1 dX2_keep_84 rfl rfl ?_
        refine j_getR C zK2 (zb_Mark hG hm) (zs_Mark hG hm) (f := 4) (by decide) rfl zk_X2_27 rfl (zf_Mark_4 hG hm) dX2_keep_85 ?_
        refine j_aload_n C 4 dX2_keep_88 rfl rfl ?_
        refine j_callVN C hR (kX1_copyFromM hD hG hm (gc := Z 3 3) (ac := Z 3 4) ((zkp_o (by omega)).trans ((zu_o (by omega)))) ((zkp_o (by omega)).trans ((zu_o (by omega)))) (fun b hb => by rw [zkp_o (by omega), zu_o (by omega)]; exact hz b hb)) [] zmX1_copyFrom zk_X2_55 zK1 (zb_Mfi hG hm) (zs_Mfi hG hm) (by decide) rfl rfl (Nat.le_of_ble_eq_true rfl) dX2_keep_89 (fun Z89 h89 => ?_)
        refine j_Z (Z' := (zu (zu (zcpy (zcpy (zcpy (zkp (zu Z (59 + 9 * m) (5) (nI np)) m (np)) (4) (65 + 9 * m) (256)) (5) (66 + 9 * m) (100)) (6) (67 + 9 * m) (100)) (64 + 9 * m) (3) (Z 3 3)) (64 + 9 * m) (4) (Z 3 4))) h89 ?_
        refine j_ret C R dX2_keep_92 ?_
        exact rfl
      ·
        refine j_aload_n C 1 dX2_keep_22 rfl rfl ?_
        refine j_getR C zK2 (zb_Mark hG hm) (zs_Mark hG hm) (f := 0) (by decide) rfl zk_X2_9 rfl (zf_Mark_0 hG hm) dX2_keep_23 ?_
        refine j_iload C 0 dX2_keep_26 rfl ?_
        refine j_aload_n C 2 dX2_keep_28 rfl rfl ?_
        refine j_iload C 0 dX2_keep_29 rfl ?_
        refine j_aldP C (zb_Pts hG) (zs_Pts hG) (zl_Pts hG) rfl (by omega) (by decide) (zf_Pts hG (by omega)) dX2_keep_31 ?_
        refine j_getIN C zK3 (zb_Part hG (by omega)) (zs_Part hG (by omega)) (f := 5) (by decide) rfl zk_X2_41 rfl (Z (11 + 4 * k) (5)) ((zkp_o (by omega)).trans ((zu_o (by omega)))) dX2_keep_32 ?_
        refine j_iast C hD (zb_Mpo hG hm) (zs_Mpo hG hm) (zl_Mpo hG hm) rfl (by omega) (by decide) dX2_keep_35 ?_
        refine j_aload_n C 1 dX2_keep_36 rfl rfl ?_
        refine j_getR C zK2 (zb_Mark hG hm) (zs_Mark hG hm) (f := 1) (by decide) rfl zk_X2_15 rfl (zf_Mark_1 hG hm) dX2_keep_37 ?_
        refine j_iload C 0 dX2_keep_40 rfl ?_
        refine j_aload_n C 2 dX2_keep_42 rfl rfl ?_
        refine j_iload C 0 dX2_keep_43 rfl ?_
        refine j_aldP C (zb_Pts hG) (zs_Pts hG) (zl_Pts hG) rfl (by omega) (by decide) (zf_Pts hG (by omega)) dX2_keep_45 ?_
        refine j_getIN C zK3 (zb_Part hG (by omega)) (zs_Part hG (by omega)) (f := 6) (by decide) rfl zk_X2_46 rfl (Z (11 + 4 * k) (6)) ((zu_o (by omega)).trans ((zkp_o (by omega)).trans ((zu_o (by omega))))) dX2_keep_46 ?_
        refine j_iast C hD (zb_Mwa hG hm) (zs_Mwa hG hm) (zl_Mwa hG hm) rfl (by omega) (by decide) dX2_keep_49 ?_
        refine j_aload_n C 1 dX2_keep_50 rfl rfl ?_
        refine j_getR C zK2 (zb_Mark hG hm) (zs_Mark hG hm) (f := 2) (by decide) rfl zk_X2_18 rfl (zf_Mark_2 hG hm) dX2_keep_51 ?_
        refine j_iload C 0 dX2_keep_54 rfl ?_
        refine j_aload_n C 2 dX2_keep_56 rfl rfl ?_
        refine j_iload C 0 dX2_keep_57 rfl ?_
        refine j_aldP C (zb_Pts hG) (zs_Pts hG) (zl_Pts hG) rfl (by omega) (by decide) (zf_Pts hG (by omega)) dX2_keep_59 ?_
        refine j_getIN C zK3 (zb_Part hG (by omega)) (zs_Part hG (by omega)) (f := 7) (by decide) rfl zk_X2_49 rfl (Z (11 + 4 * k) (7)) ((zu_o (by omega)).trans ((zu_o (by omega)).trans ((zkp_o (by omega)).trans ((zu_o (by omega)))))) dX2_keep_60 ?_
        refine j_iast C hD (zb_Mcr hG hm) (zs_Mcr hG hm) (zl_Mcr hG hm) rfl (by omega) (by decide) dX2_keep_63 ?_
        refine j_aload_n C 1 dX2_keep_64 rfl rfl ?_
        refine j_getR C zK2 (zb_Mark hG hm) (zs_Mark hG hm) (f := 3) (by decide) rfl zk_X2_21 rfl (zf_Mark_3 hG hm) dX2_keep_65 ?_
        refine j_iload C 0 dX2_keep_68 rfl ?_
        refine j_aload_n C 2 dX2_keep_70 rfl rfl ?_
        refine j_iload C 0 dX2_keep_71 rfl ?_
        refine j_aldP C (zb_Pts hG) (zs_Pts hG) (zl_Pts hG) rfl (by omega) (by decide) (zf_Pts hG (by omega)) dX2_keep_73 ?_
        refine j_getIN C zK3 (zb_Part hG (by omega)) (zs_Part hG (by omega)) (f := 9) (by decide) rfl zk_X2_52 rfl (Z (11 + 4 * k) (9)) ((zu_o (by omega)).trans ((zu_o (by omega)).trans ((zu_o (by omega)).trans ((zkp_o (by omega)).trans ((zu_o (by omega))))))) dX2_keep_74 ?_
        refine j_iast C hD (zb_Mre hG hm) (zs_Mre hG hm) (zl_Mre hG hm) rfl (by omega) (by decide) dX2_keep_77 ?_
        refine j_iinc (v := nI (k + 1)) (lv' := [(4, .int (nI (k + 1))), (0, .ref (G.2.1 (59 + 9 * m))), (1, .ref (G.2.1 (1))), (2, .int (nI np)), (3, .ref (G.2.1 (3)))]) C 0 dX2_keep_78 rfl (nI_add k 1) (by rw [hN]; decide) rfl ?_
        refine j_goto (tgt := 13) C dX2_keep_81 (by decide) ?_
        refine j_Z (Z' := (zkp (zu Z (59 + 9 * m) 5 (nI np)) m (k + 1))) (by rw [← zkp_s, zu_o (by omega), zu_o (by omega), zu_o (by omega), zu_o (by omega)]) ?_
        exact ih (k + 1) (by omega) (by omega)
  refine j_aload_n C 0 dX2_keep_0 rfl rfl ?_
  refine j_iload_n C 2 dX2_keep_1 rfl rfl ?_
  refine j_bipush C (nI 12) dX2_keep_2 (by decide) ?_
  refine j_min C (hR) (nI np) zk_X2_31 dX2_keep_4 (Nat.le_of_ble_eq_true rfl) rfl rfl (if_neg (nI_nlt (by omega) (by omega))) ?_
  refine j_putI C hD zK2 (zb_Mark hG hm) (zs_Mark hG hm) (f := 5) (by decide) rfl zk_X2_37 rfl rfl rfl rfl dX2_keep_7 ?_
  refine j_iconst C (nI 0) dX2_keep_10 (by decide) ?_
  refine j_istore (lv' := [(4, .int (nI 0)), (0, .ref (G.2.1 (59 + 9 * m))), (1, .ref (G.2.1 (1))), (2, .int (nI np)), (3, .ref (G.2.1 (3)))]) C dX2_keep_11 (by rw [hN]; decide) rfl ?_
  refine j_Z (Z' := (zkp (zu Z (59 + 9 * m) 5 (nI np)) m 0)) (zkp_0).symm ?_
  exact L13 (np + 1) 0 (by omega) (by omega)
set_option maxRecDepth 100000 in
set_option maxHeartbeats 4000000 in
theorem kX2_bringBack {l : Launch} {D : va_G} {Y : YT} {b0 : Nat} {G : GT} (hD : GD b0 G) (hG : Gok 113 G) {Z : ZT} {m i kp : Nat} (hm : m < 6) (hi : i < 12) (hkp : Z (59 + 9 * m) 5 = nI kp) (hkp12 : kp ≤ 12) {po wa cr re : Int32} {reI : Int} (hpo : Z (60 + 9 * m) i = po) (hwa : Z (61 + 9 * m) i = wa) (hcr : Z (62 + 9 * m) i = cr) (hre : Z (63 + 9 * m) i = re) (hreI : re.toInt = reI) {nt : Int32} {ntI : Int} (hntI : nt.toInt = ntI) : CV l D Y b0 G yX2_bringBack cX2_bringBack 4 1 [.ref (G.2.1 (59 + 9 * m)), .int (nI i), .ref (G.2.1 (11 + 4 * i)), .int (nt)] Z (fun Z' => (kp ≤ i ∧ Z' = (zu (zu (zu (zu Z (11 + 4 * i) (5) (nI 0)) (11 + 4 * i) (6) (-1)) (11 + 4 * i) (7) (nI 0)) (11 + 4 * i) (9) (-1))) ∨ (i < kp ∧ reI < ntI ∧ Z' = (zu (zu (zu (zu Z (11 + 4 * i) (5) (po)) (11 + 4 * i) (6) (wa)) (11 + 4 * i) (7) (cr)) (11 + 4 * i) (9) (re))) ∨ (i < kp ∧ ntI ≤ reI ∧ Z' = (zu (zu (zu (zu Z (11 + 4 * i) (5) (po)) (11 + 4 * i) (6) (wa)) (11 + 4 * i) (7) (cr)) (11 + 4 * i) (9) (-1)))) := by
  refine cv_start (lv0 := [(0, .ref (G.2.1 (59 + 9 * m))), (1, .int (nI i)), (2, .ref (G.2.1 (11 + 4 * i))), (3, .int (nt))]) hD rfl (Nat.le_of_ble_eq_true rfl) rfl ?_
  intro E C R hR hD hN
  refine j_iload_n C 1 dX2_bringBack_0 rfl rfl ?_
  refine j_if_lt (tgt := 12) (a := ((i : Nat) : Int)) C (nI_toInt (by omega)) dX2_bringBack_1 (by decide) (fun c1 => absurd c1 (by omega)) (fun c1 => ?_)
  refine j_iload_n C 1 dX2_bringBack_4 rfl rfl ?_
  refine j_aload_n C 0 dX2_bringBack_5 rfl rfl ?_
  refine j_getI C zK2 (zb_Mark hG hm) (zs_Mark hG hm) (f := 5) (by decide) rfl zk_X2_37 rfl (nI kp) hkp dX2_bringBack_6 ?_
  refine j_icmp_lt (tgt := 25) (a := ((i : Nat) : Int)) (b := ((kp : Nat) : Int)) C (nI_toInt (by omega)) (nI_toInt (by omega)) dX2_bringBack_9 (by decide) (fun c9 => ?_) (fun c9 => ?_)
  ·
    refine j_aload_n C 2 dX2_bringBack_25 rfl rfl ?_
    refine j_aload_n C 0 dX2_bringBack_26 rfl rfl ?_
    refine j_getR C zK2 (zb_Mark hG hm) (zs_Mark hG hm) (f := 0) (by decide) rfl zk_X2_9 rfl (zf_Mark_0 hG hm) dX2_bringBack_27 ?_
    refine j_iload_n C 1 dX2_bringBack_30 rfl rfl ?_
    refine j_iald C (zb_Mpo hG hm) (zs_Mpo hG hm) (zl_Mpo hG hm) rfl (by omega) (by decide) (po) hpo dX2_bringBack_31 ?_
    refine j_aload_n C 0 dX2_bringBack_32 rfl rfl ?_
    refine j_getR C zK2 (zb_Mark hG hm) (zs_Mark hG hm) (f := 1) (by decide) rfl zk_X2_15 rfl (zf_Mark_1 hG hm) dX2_bringBack_33 ?_
    refine j_iload_n C 1 dX2_bringBack_36 rfl rfl ?_
    refine j_iald C (zb_Mwa hG hm) (zs_Mwa hG hm) (zl_Mwa hG hm) rfl (by omega) (by decide) (wa) hwa dX2_bringBack_37 ?_
    refine j_aload_n C 0 dX2_bringBack_38 rfl rfl ?_
    refine j_getR C zK2 (zb_Mark hG hm) (zs_Mark hG hm) (f := 2) (by decide) rfl zk_X2_18 rfl (zf_Mark_2 hG hm) dX2_bringBack_39 ?_
    refine j_iload_n C 1 dX2_bringBack_42 rfl rfl ?_
    refine j_iald C (zb_Mcr hG hm) (zs_Mcr hG hm) (zl_Mcr hG hm) rfl (by omega) (by decide) (cr) hcr dX2_bringBack_43 ?_
    refine j_callVN C hR (kX3_stand hD hG (i := i)  hi (po) (wa) (cr)) [] zmX3_stand zk_X2_59 zK3 (zb_Part hG hi) (zs_Part hG hi) (by decide) rfl rfl (Nat.le_of_ble_eq_true rfl) dX2_bringBack_44 (fun Z44 h44 => ?_)
    refine j_Z (Z' := (zu (zu (zu Z (11 + 4 * i) (5) (po)) (11 + 4 * i) (6) (wa)) (11 + 4 * i) (7) (cr))) h44 ?_
    refine j_aload_n C 2 dX2_bringBack_47 rfl rfl ?_
    refine j_aload_n C 0 dX2_bringBack_48 rfl rfl ?_
    refine j_getR C zK2 (zb_Mark hG hm) (zs_Mark hG hm) (f := 3) (by decide) rfl zk_X2_21 rfl (zf_Mark_3 hG hm) dX2_bringBack_49 ?_
    refine j_iload_n C 1 dX2_bringBack_52 rfl rfl ?_
    refine j_iald C (zb_Mre hG hm) (zs_Mre hG hm) (zl_Mre hG hm) rfl (by omega) (by decide) (re) ((zu_o (by omega)).trans ((zu_o (by omega)).trans ((zu_o (by omega)).trans (hre)))) dX2_bringBack_53 ?_
    refine j_iload_n C 3 dX2_bringBack_54 rfl rfl ?_
    refine j_icmp_ge (tgt := 67) (a := reI) (b := ntI) C hreI hntI dX2_bringBack_55 (by decide) (fun c55 => ?_) (fun c55 => ?_)
    ·
      refine j_iconst C (-1) dX2_bringBack_67 (by decide) ?_
      refine j_putIN C hD zK3 (zb_Part hG hi) (zs_Part hG hi) (f := 9) (by decide) rfl zk_X2_52 rfl rfl rfl rfl dX2_bringBack_68 ?_
      refine j_ret C R dX2_bringBack_71 ?_
      first | exact Or.inl ⟨by omega, rfl⟩ | exact Or.inr (Or.inl ⟨by omega, by omega, rfl⟩) | exact Or.inr (Or.inr ⟨by omega, by omega, rfl⟩)
    ·
      refine j_aload_n C 0 dX2_bringBack_58 rfl rfl ?_
      refine j_getR C zK2 (zb_Mark hG hm) (zs_Mark hG hm) (f := 3) (by decide) rfl zk_X2_21 rfl (zf_Mark_3 hG hm) dX2_bringBack_59 ?_
      refine j_iload_n C 1 dX2_bringBack_62 rfl rfl ?_
      refine j_iald C (zb_Mre hG hm) (zs_Mre hG hm) (zl_Mre hG hm) rfl (by omega) (by decide) (re) ((zu_o (by omega)).trans ((zu_o (by omega)).trans ((zu_o (by omega)).trans (hre)))) dX2_bringBack_63 ?_
      refine j_goto (tgt := 68) C dX2_bringBack_64 (by decide) ?_
      refine j_putIN C hD zK3 (zb_Part hG hi) (zs_Part hG hi) (f := 9) (by decide) rfl zk_X2_52 rfl rfl rfl rfl dX2_bringBack_68 ?_
      refine j_ret C R dX2_bringBack_71 ?_
      first | exact Or.inl ⟨by omega, rfl⟩ | exact Or.inr (Or.inl ⟨by omega, by omega, rfl⟩) | exact Or.inr (Or.inr ⟨by omega, by omega, rfl⟩)
  ·
    refine j_aload_n C 2 dX2_bringBack_12 rfl rfl ?_
    refine j_iconst C (nI 0) dX2_bringBack_13 (by decide) ?_
    refine j_iconst C (-1) dX2_bringBack_14 (by decide) ?_
    refine j_iconst C (nI 0) dX2_bringBack_15 (by decide) ?_
    refine j_callVN C hR (kX3_stand hD hG (i := i)  hi (nI 0) (-1) (nI 0)) [] zmX3_stand zk_X2_59 zK3 (zb_Part hG hi) (zs_Part hG hi) (by decide) rfl rfl (Nat.le_of_ble_eq_true rfl) dX2_bringBack_16 (fun Z16 h16 => ?_)
    refine j_Z (Z' := (zu (zu (zu Z (11 + 4 * i) (5) (nI 0)) (11 + 4 * i) (6) (-1)) (11 + 4 * i) (7) (nI 0))) h16 ?_
    refine j_aload_n C 2 dX2_bringBack_19 rfl rfl ?_
    refine j_iconst C (-1) dX2_bringBack_20 (by decide) ?_
    refine j_putIN C hD zK3 (zb_Part hG hi) (zs_Part hG hi) (f := 9) (by decide) rfl zk_X2_52 rfl rfl rfl rfl dX2_bringBack_21 ?_
    refine j_ret C R dX2_bringBack_24 ?_
    first | exact Or.inl ⟨by omega, rfl⟩ | exact Or.inr (Or.inl ⟨by omega, by omega, rfl⟩) | exact Or.inr (Or.inr ⟨by omega, by omega, rfl⟩)
