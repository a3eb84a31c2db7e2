/-! part, end, give, row -/
section OP2
variable {d : Nat} {Z Z2 : ZT}
/-- a call that changes the parts alone -/
theorem Inv.parts (hI : Inv d Z) (O : ∀ c f, (c < 11 ∧ (c = 0 → f ≠ 5)) ∨ (59 ≤ c ∧ c < 113) ∨ (c = 113 ∧ 2 ≤ f) ∨ (122 ≤ c ∧ c < 132) → Z2 c f = Z c f) {np' : Nat} (h1 : Z2 0 5 = nI np') (h2 : Z2 113 1 = nI np') (h3 : np' ≤ 12) (hP : ∀ p, p < np' → IvP Z2 p) (hB : IvB Z2) : Inv (d + 1) Z2 := by
  obtain ⟨np, nm, nt, na, nd, hN, hd, -, -, hF, hDl, hL, hM⟩ := hI
  obtain ⟨-, ⟨m1, m2, m3⟩, ⟨t1, t2, t3⟩, ⟨s1, s2, s3⟩, ⟨d1, d2⟩⟩ := hN
  have hm6 : nm ≤ 6 := m3
  refine ⟨np', nm, nt, na, nd, ⟨⟨h1, h2, h3⟩, ⟨?_, ?_, m3⟩, ⟨?_, ?_, t3⟩, ⟨?_, ?_, s3⟩, ?_, ?_⟩, by omega, hP, hB, IvF_cg (fun c f _ _ => O c f (by omega)) (fun c f _ _ => O c f (by omega)) hF, IvD_cg (fun c f _ _ _ => O c f (by omega)) (fun c f _ _ => O c f (by omega)) (O _ _ (by omega)) (O _ _ (by omega)) hDl, IvL_cg (fun f _ => O _ _ (by omega)) (fun f _ => O _ _ (by omega)) hL, fun m hm => IvM_cg (fun c f _ _ => O c f (by omega)) (fun c f _ _ _ _ _ _ _ => O c f (by omega)) (hM m hm)⟩
  · rw [O 0 6 (by omega)]; exact m1
  · rw [O 113 14 (by omega)]; exact m2
  · rw [O 0 7 (by omega)]; exact t1
  · rw [O 113 2 (by omega)]; exact t2
  · rw [O 3 4 (by omega)]; exact s1
  · rw [O 113 13 (by omega)]; exact s2
  · rw [O 7 2 (by omega)]; exact d1
  · rw [O 113 22 (by omega)]; exact d2
theorem IvP.x4 {p : Nat} (h : IvP Z p) (e1 : Z2 (11 + 4 * p) 4 = Z (11 + 4 * p) 4) (e2 : Z2 118 p = Z 118 p) : Z2 (11 + 4 * p) 4 = Z2 118 p ∧ bz (Z2 (11 + 4 * p) 4) := by
  rw [e1, e2]; exact ⟨h.1.2.1, h.2.2.2.1⟩
theorem IvP.x5 {p : Nat} (h : IvP Z p) (e1 : Z2 (11 + 4 * p) 5 = Z (11 + 4 * p) 5) (e2 : Z2 121 p = Z 121 p) : Z2 (11 + 4 * p) 5 = Z2 121 p ∧ ∃ q : Nat, q ≤ 40 ∧ Z2 (11 + 4 * p) 5 = nI q := by
  rw [e1, e2]; exact ⟨h.1.2.2.1, h.2.2.1⟩
theorem IvP.x6 {p : Nat} (h : IvP Z p) (e1 : Z2 (11 + 4 * p) 6 = Z (11 + 4 * p) 6) (e2 : Z2 121 (12 + p) = Z 121 (12 + p)) : Z2 (11 + 4 * p) 6 = Z2 121 (12 + p) ∧ (Z2 (11 + 4 * p) 6).toInt ≤ 100000 := by
  rw [e1, e2]; exact ⟨h.1.2.2.2.1, h.2.2.2.2.1⟩
theorem IvP.x7 {p : Nat} (h : IvP Z p) (e1 : Z2 (11 + 4 * p) 7 = Z (11 + 4 * p) 7) (e2 : Z2 121 (24 + p) = Z 121 (24 + p)) : Z2 (11 + 4 * p) 7 = Z2 121 (24 + p) := by
  rw [e1, e2]; exact h.1.2.2.2.2.1
theorem IvP.x9 {p : Nat} (h : IvP Z p) (e1 : Z2 (11 + 4 * p) 9 = Z (11 + 4 * p) 9) (e2 : Z2 121 (36 + p) = Z 121 (36 + p)) : Z2 (11 + 4 * p) 9 = Z2 121 (36 + p) := by
  rw [e1, e2]; exact h.1.2.2.2.2.2.2.1
/-- a part whose rows, share and origin stay -/
theorem IvP.st {p : Nat} (h : IvP Z p) (h1 : ∀ c f, 11 + 4 * p ≤ c → c < 15 + 4 * p → (c = 11 + 4 * p → f = 3 ∨ f = 8 ∨ f = 10) → Z2 c f = Z c f) (h2 : ∀ c j, 114 ≤ c → c ≤ 116 → j < 40 → Z2 c (40 * p + j) = Z c (40 * p + j)) (h3 : ∀ c, c = 117 ∨ c = 119 ∨ c = 120 → Z2 c p = Z c p)
    (x4 : Z2 (11 + 4 * p) 4 = Z2 118 p ∧ bz (Z2 (11 + 4 * p) 4)) (x5 : Z2 (11 + 4 * p) 5 = Z2 121 p ∧ ∃ q : Nat, q ≤ 40 ∧ Z2 (11 + 4 * p) 5 = nI q) (x6 : Z2 (11 + 4 * p) 6 = Z2 121 (12 + p) ∧ (Z2 (11 + 4 * p) 6).toInt ≤ 100000) (x7 : Z2 (11 + 4 * p) 7 = Z2 121 (24 + p)) (x9 : Z2 (11 + 4 * p) 9 = Z2 121 (36 + p)) : IvP Z2 p := by
  obtain ⟨⟨a1, a2, a3, a4, a5, a6, a7, a8⟩, ⟨r, hr, b1, b2⟩, -, -, -, b6⟩ := h
  have q3 := h1 (11 + 4 * p) 3 (by omega) (by omega) (by omega)
  have q8 := h1 (11 + 4 * p) 8 (by omega) (by omega) (by omega)
  have q10 := h1 (11 + 4 * p) 10 (by omega) (by omega) (by omega)
  refine ⟨⟨?_, x4.1, x5.1, x6.1, x7, ?_, x9, ?_⟩, ⟨r, hr, by rw [q3]; exact b1, fun j hj => IvR_cg (fun c q1 q2 => h1 c j (by omega) q2 (by omega)) (fun c q1 q2 => h2 c j q1 q2 (by omega)) (b2 j hj)⟩, x5.2, x4.2, x6.2, by rw [q8]; exact b6⟩
  · rw [q3, h3 117 (by omega)]; exact a1
  · rw [q8, h3 119 (by omega)]; exact a6
  · rw [q10, h3 120 (by omega)]; exact a8
theorem Inv.rc {np : Nat} (hP : ∀ p, p < np → IvP Z p) : ∀ i, i < np → Z (11 + 4 * i) 3 = nI (rcf Z i) ∧ rcf Z i ≤ 40 := fun i hi => ⟨(hP i hi).rc.1, (hP i hi).rc.2.1⟩
theorem Inv.rcm {np : Nat} (hP : ∀ p, p < np → IvP Z p) : ∀ i, i < np → Z 117 i = nI (rcf Z i) ∧ rcf Z i ≤ 40 := fun i hi => ⟨(hP i hi).1.1.symm.trans (hP i hi).rc.1, (hP i hi).rc.2.1⟩
theorem op_part (hI : Inv d Z) (p0 : Int32) : OpOK yX4_part cX4_part 2 3 yX5_part cX5_part 2 2 [.int p0] d Z := by
  have hI2 := hI
  obtain ⟨np, nm, nt, na, nd, hN, hd, hP, hB, hF, hDl, hL, hM⟩ := hI2
  obtain ⟨⟨n1, n2, n3⟩, ⟨m1, m2, m3⟩, ⟨t1, t2, t3, t4⟩, ⟨s1, s2, s3⟩, ⟨d1, d2⟩⟩ := hN
  refine ⟨_, fun l D Y b0 G hD hG => kX4_part hD hG n1 n3 p0, fun r1 Z1 h1 => ?_⟩
  have n2' : Z1 113 1 = nI np := by
    rcases h1 with ⟨-, -, e1⟩ | ⟨-, -, e1⟩ | ⟨-, -, e1⟩
    · rw [e1]; exact n2
    · rw [e1]; exact n2
    · exact (show Z1 113 1 = Z 113 1 by rw [e1, zu_o (by omega), zu_o (by omega), zu_o (by omega), zu_o (by omega), zu_o (by omega), zu_o (by omega), zu_o (by omega), zu_o (by omega), zu_o (by omega)]).trans n2
  refine ⟨_, fun l D Y b0 G hD hG => kX5_part hD hG n2' n3 p0, fun r2 Z2 h2 => ?_⟩
  rcases h1 with ⟨c1, rfl, e1⟩ | ⟨c1, rfl, e1⟩ | ⟨c1, rfl, e1⟩ <;> rcases h2 with ⟨c2, rfl, e2⟩ | ⟨c2, rfl, e2⟩ | ⟨c2, rfl, e2⟩ <;> first
    | (exfalso; omega)
    | (subst e1; subst e2; exact ⟨rfl, hI.fu⟩)
    | skip
  have O : ∀ c f, (c = 0 → f ≠ 5) → c ≠ 11 + 4 * np → (c = 113 → 2 ≤ f) → (117 ≤ c ∧ c ≤ 120 → f ≠ np) → (c = 121 → f ≠ np ∧ f ≠ 12 + np ∧ f ≠ 24 + np ∧ f ≠ 36 + np) → Z2 c f = Z c f := fun c f q1 q2 q3 q4 q5 => by rw [e2, zu_o (by omega), zu_o (by omega), zu_o (by omega), zu_o (by omega), zu_o (by omega), zu_o (by omega), zu_o (by omega), zu_o (by omega), zu_o (by omega), zu_o (by omega), e1, zu_o (by omega), zu_o (by omega), zu_o (by omega), zu_o (by omega), zu_o (by omega), zu_o (by omega), zu_o (by omega), zu_o (by omega), zu_o (by omega)]
  have g3 : Z2 (11 + 4 * np) (3) = nI 0 := by rw [e2, zu_o (by omega), zu_o (by omega), zu_o (by omega), zu_o (by omega), zu_o (by omega), zu_o (by omega), zu_o (by omega), zu_o (by omega), zu_o (by omega), zu_o (by omega), e1, zu_o (by omega), zu_o (by omega), zu_o (by omega), zu_o (by omega), zu_o (by omega), zu_o (by omega), zu_o (by omega), zu_o (by omega), zu_s]
  have g4 : Z2 (11 + 4 * np) (4) = nI 0 := by rw [e2, zu_o (by omega), zu_o (by omega), zu_o (by omega), zu_o (by omega), zu_o (by omega), zu_o (by omega), zu_o (by omega), zu_o (by omega), zu_o (by omega), zu_o (by omega), e1, zu_o (by omega), zu_o (by omega), zu_o (by omega), zu_o (by omega), zu_o (by omega), zu_o (by omega), zu_o (by omega), zu_s]
  have g5 : Z2 (11 + 4 * np) (5) = nI 0 := by rw [e2, zu_o (by omega), zu_o (by omega), zu_o (by omega), zu_o (by omega), zu_o (by omega), zu_o (by omega), zu_o (by omega), zu_o (by omega), zu_o (by omega), zu_o (by omega), e1, zu_o (by omega), zu_o (by omega), zu_o (by omega), zu_s]
  have g6 : Z2 (11 + 4 * np) (6) = -1 := by rw [e2, zu_o (by omega), zu_o (by omega), zu_o (by omega), zu_o (by omega), zu_o (by omega), zu_o (by omega), zu_o (by omega), zu_o (by omega), zu_o (by omega), zu_o (by omega), e1, zu_o (by omega), zu_o (by omega), zu_s]
  have g7 : Z2 (11 + 4 * np) (7) = nI 0 := by rw [e2, zu_o (by omega), zu_o (by omega), zu_o (by omega), zu_o (by omega), zu_o (by omega), zu_o (by omega), zu_o (by omega), zu_o (by omega), zu_o (by omega), zu_o (by omega), e1, zu_o (by omega), zu_s]
  have g8 : Z2 (11 + 4 * np) (8) = p0 := by rw [e2, zu_o (by omega), zu_o (by omega), zu_o (by omega), zu_o (by omega), zu_o (by omega), zu_o (by omega), zu_o (by omega), zu_o (by omega), zu_o (by omega), zu_o (by omega), e1, zu_o (by omega), zu_o (by omega), zu_o (by omega), zu_o (by omega), zu_o (by omega), zu_o (by omega), zu_s]
  have g9 : Z2 (11 + 4 * np) (9) = -1 := by rw [e2, zu_o (by omega), zu_o (by omega), zu_o (by omega), zu_o (by omega), zu_o (by omega), zu_o (by omega), zu_o (by omega), zu_o (by omega), zu_o (by omega), zu_o (by omega), e1, zu_o (by omega), zu_o (by omega), zu_o (by omega), zu_o (by omega), zu_s]
  have g10 : Z2 (11 + 4 * np) (10) = -1 := by rw [e2, zu_o (by omega), zu_o (by omega), zu_o (by omega), zu_o (by omega), zu_o (by omega), zu_o (by omega), zu_o (by omega), zu_o (by omega), zu_o (by omega), zu_o (by omega), e1, zu_o (by omega), zu_o (by omega), zu_o (by omega), zu_o (by omega), zu_o (by omega), zu_s]
  have k117 : Z2 (117) (np) = nI 0 := by rw [e2, zu_o (by omega), zu_o (by omega), zu_o (by omega), zu_o (by omega), zu_o (by omega), zu_o (by omega), zu_o (by omega), zu_o (by omega), zu_s]
  have k118 : Z2 (118) (np) = nI 0 := by rw [e2, zu_o (by omega), zu_o (by omega), zu_o (by omega), zu_o (by omega), zu_o (by omega), zu_o (by omega), zu_o (by omega), zu_s]
  have k119 : Z2 (119) (np) = p0 := by rw [e2, zu_o (by omega), zu_o (by omega), zu_o (by omega), zu_o (by omega), zu_o (by omega), zu_o (by omega), zu_s]
  have k120 : Z2 (120) (np) = -1 := by rw [e2, zu_o (by omega), zu_o (by omega), zu_o (by omega), zu_o (by omega), zu_o (by omega), zu_s]
  have k0 : Z2 (121) (np) = nI 0 := by rw [e2, zu_o (by omega), zu_o (by omega), zu_o (by omega), zu_o (by omega), zu_s]
  have k12 : Z2 (121) (12 + np) = -1 := by rw [e2, zu_o (by omega), zu_o (by omega), zu_o (by omega), zu_s]
  have k24 : Z2 (121) (24 + np) = nI 0 := by rw [e2, zu_o (by omega), zu_o (by omega), zu_s]
  have k36 : Z2 (121) (36 + np) = -1 := by rw [e2, zu_o (by omega), zu_s]
  refine ⟨rfl, hI.parts (np' := np + 1) (fun c f q => O c f (by omega) (by omega) (by omega) (by omega) (by omega)) (by rw [e2, zu_o (by omega), zu_o (by omega), zu_o (by omega), zu_o (by omega), zu_o (by omega), zu_o (by omega), zu_o (by omega), zu_o (by omega), zu_o (by omega), zu_o (by omega), e1, zu_s]) (by rw [e2, zu_s]) (by omega) (fun p hp => ?_) (IvB_cg (fun i j hi hj => O _ _ (by omega) (by omega) (by omega) (by omega) (by omega)) hB)⟩
  by_cases e9 : p = np
  · subst e9
    exact ⟨⟨g3.trans k117.symm, g4.trans k118.symm, g5.trans k0.symm, g6.trans k12.symm, g7.trans k24.symm, g8.trans k119.symm, g9.trans k36.symm, g10.trans k120.symm⟩, ⟨0, by omega, g3, fun j hj => absurd hj (Nat.not_lt_zero j)⟩, ⟨0, by omega, g5⟩, Or.inl g4, by rw [g6]; decide, by rw [g8]; omega⟩
  · exact IvP_cg (fun c f q1 q2 => O c f (by omega) (by omega) (by omega) (by omega) (by omega)) (fun c j q1 q2 q3 => O _ _ (by omega) (by omega) (by omega) (by omega) (by omega)) (fun c q1 q2 => O _ _ (by omega) (by omega) (by omega) (by omega) (by omega)) (O _ _ (by omega) (by omega) (by omega) (by omega) (by omega)) (O _ _ (by omega) (by omega) (by omega) (by omega) (by omega)) (O _ _ (by omega) (by omega) (by omega) (by omega) (by omega)) (hP p (by omega))
theorem op_end (hI : Inv d Z) (p0 : Int32) : OpOK yX4_end cX4_end 3 1 yX5_end cX5_end 2 2 [.int p0] d Z := by
  have hI2 := hI
  obtain ⟨np, nm, nt, na, nd, hN, hd, hP, hB, hF, hDl, hL, hM⟩ := hI2
  obtain ⟨⟨n1, n2, n3⟩, ⟨m1, m2, m3⟩, ⟨t1, t2, t3, t4⟩, ⟨s1, s2, s3⟩, ⟨d1, d2⟩⟩ := hN
  refine ⟨_, fun l D Y b0 G hD hG => kX4_end hD hG n1 n3 (Inv.rc hP) p0, fun r1 Z1 h1 => ?_⟩
  have F : ∀ c f, (c < 11 ∨ 59 ≤ c) → Z1 c f = Z c f := fun c f q => by
    rcases h1 with ⟨-, -, e1⟩ | ⟨p, hp, -, ⟨-, -, e1⟩ | ⟨-, -, e1⟩⟩
    · rw [e1]
    · rw [e1]
    · rw [e1, zu_o (by omega)]
  refine ⟨_, fun l D Y b0 G hD hG => kX5_end hD hG (np := np) (rc := rcf Z) (by rw [F _ _ (by omega)]; exact n2) n3 (fun i hi => by rw [F _ _ (by omega)]; exact Inv.rcm hP i hi) p0, fun r2 Z2 h2 => ?_⟩
  rcases h1 with ⟨c1, rfl, e1⟩ | ⟨p, hp, ep, h1⟩
  · rcases h2 with ⟨c2, rfl, e2⟩ | ⟨p', hp', ep', h2⟩
    · subst e1; subst e2; exact ⟨rfl, hI.fu⟩
    · have := nI_rng hp' (by omega) ep'
      omega
  rcases h2 with ⟨c2, rfl, e2⟩ | ⟨p', hp', ep', h2⟩
  · have := nI_rng hp (by omega) ep
    omega
  have e3 : p = p' := nI_inj (by omega) (by omega) (ep.symm.trans ep')
  subst e3
  have hp2 := hP p hp
  have a2 := hp2.1.2.1
  rw [F 118 p (by omega)] at h2
  rcases h1 with ⟨c1, rfl, e1⟩ | ⟨c1, rfl, e1⟩ <;> rcases h2 with ⟨c2, rfl, e2⟩ | ⟨c2, rfl, e2⟩
  · subst e1; subst e2; exact ⟨rfl, hI.fu⟩
  · rw [a2] at c1; exact absurd c2 c1
  · rw [a2] at c1; exact absurd c1 c2
  · have O : ∀ c f, (c = 11 + 4 * p → f ≠ 4) → (c = 113 → f ≠ 0) → (c = 118 → f ≠ p) → Z2 c f = Z c f := fun c f q1 q2 q3 => by rw [e2, zu_o (by omega), zu_o (by omega), e1, zu_o (by omega)]
    have g4 : Z2 (11 + 4 * p) 4 = nI 1 := by rw [e2, zu_o (by omega), zu_o (by omega), e1, zu_s]
    have k4 : Z2 118 p = nI 1 := by rw [e2, zu_s]
    refine ⟨rfl, hI.parts (np' := np) (fun c f q => O c f (by omega) (by omega) (by omega)) (by rw [O _ _ (by omega) (by omega) (by omega)]; exact n1) (by rw [O _ _ (by omega) (by omega) (by omega)]; exact n2) n3 (fun i hi => ?_) (IvB_cg (fun i j hi hj => O _ _ (by omega) (by omega) (by omega)) hB)⟩
    by_cases e9 : i = p
    · subst e9
      exact hp2.st (fun c f q1 q2 q3 => O c f (by omega) (by omega) (by omega)) (fun c j q1 q2 q3 => O _ _ (by omega) (by omega) (by omega)) (fun c q => O _ _ (by omega) (by omega) (by omega)) ⟨g4.trans k4.symm, Or.inr g4⟩ (hp2.x5 (O _ _ (by omega) (by omega) (by omega)) (O _ _ (by omega) (by omega) (by omega))) (hp2.x6 (O _ _ (by omega) (by omega) (by omega)) (O _ _ (by omega) (by omega) (by omega))) (hp2.x7 (O _ _ (by omega) (by omega) (by omega)) (O _ _ (by omega) (by omega) (by omega))) (hp2.x9 (O _ _ (by omega) (by omega) (by omega)) (O _ _ (by omega) (by omega) (by omega)))
    · exact IvP_cg (fun c f q1 q2 => O c f (by omega) (by omega) (by omega)) (fun c j q1 q2 q3 => O _ _ (by omega) (by omega) (by omega)) (fun c q1 q2 => O _ _ (by omega) (by omega) (by omega)) (O _ _ (by omega) (by omega) (by omega)) (O _ _ (by omega) (by omega) (by omega)) (O _ _ (by omega) (by omega) (by omega)) (hP i hi)
theorem op_give (hI : Inv d Z) (p0 p1 : Int32) : OpOK yX4_give cX4_give 5 3 yX5_give cX5_give 4 2 [.int p0, .int p1] d Z := by
  have hI2 := hI
  obtain ⟨np, nm, nt, na, nd, hN, hd, hP, hB, hF, hDl, hL, hM⟩ := hI2
  obtain ⟨⟨n1, n2, n3⟩, ⟨m1, m2, m3⟩, ⟨t1, t2, t3, t4⟩, ⟨s1, s2, s3⟩, ⟨d1, d2⟩⟩ := hN
  refine ⟨_, fun l D Y b0 G hD hG => kX4_give hD hG n1 n3 (fun i hi => (hP i hi).po0) t1 (nI_toInt (by omega)) p0 p1, fun r1 Z1 h1 => ?_⟩
  have F : ∀ c f, (c < 11 ∨ 59 ≤ c) → Z1 c f = Z c f := fun c f q => by
    rcases h1 with ⟨-, -, e1⟩ | ⟨p, hp, -, -, ⟨-, -, e1⟩ | ⟨-, -, e1⟩⟩
    · rw [e1]
    · rw [e1]
    · rw [e1, zu_o (by omega)]
  refine ⟨_, fun l D Y b0 G hD hG => kX5_give hD hG (np := np) (nt := nt) (by rw [F _ _ (by omega)]; exact n2) n3 (by rw [F _ _ (by omega)]; exact t2) t4 p0 p1, fun r2 Z2 h2 => ?_⟩
  rcases h1 with ⟨c1, rfl, e1⟩ | ⟨p, hp, ep, c1, h1⟩
  · rcases h2 with ⟨c2, rfl, e2⟩ | ⟨p', hp', ep', c2, h2⟩
    · subst e1; subst e2; exact ⟨rfl, hI.fu⟩
    · have := nI_rng hp' (by omega) ep'
      omega
  rcases h2 with ⟨c2, rfl, e2⟩ | ⟨p', hp', ep', c2, h2⟩
  · have := nI_rng hp (by omega) ep
    omega
  have e3 : p = p' := nI_inj (by omega) (by omega) (ep.symm.trans ep')
  subst e3
  have hp2 := hP p hp
  have hdn : dnM Z1 p = dnC Z p := by
    rw [hp2.dn]
    show dnz _ _ _ = dnz _ _ _
    rw [F _ _ (by omega), F _ _ (by omega), F _ _ (by omega)]
  rw [hdn, F 121 (36 + p) (by omega)] at h2
  rcases h1 with ⟨c3, rfl, e1⟩ | ⟨c3, rfl, e1⟩ <;> rcases h2 with ⟨c4, rfl, e2⟩ | ⟨c4, rfl, e2⟩
  · subst e1; subst e2; exact ⟨rfl, hI.fu⟩
  · rw [c3] at c4; cases c4
  · rw [c3] at c4; cases c4
  · have O : ∀ c f, (c = 11 + 4 * p → f ≠ 9) → (c = 113 → f ≠ 0) → (c = 121 → f ≠ 36 + p) → Z2 c f = Z c f := fun c f q1 q2 q3 => by rw [e2, zu_o (by omega), zu_o (by omega), e1, zu_o (by omega)]
    have g4 : Z2 (11 + 4 * p) 9 = p1 := by rw [e2, zu_o (by omega), zu_o (by omega), e1, zu_s]
    have k4 : Z2 121 (36 + p) = p1 := by rw [e2, zu_s]
    refine ⟨hp2.1.2.2.2.2.2.2.1, hI.parts (np' := np) (fun c f q => O c f (by omega) (by omega) (by omega)) (by rw [O _ _ (by omega) (by omega) (by omega)]; exact n1) (by rw [O _ _ (by omega) (by omega) (by omega)]; exact n2) n3 (fun i hi => ?_) (IvB_cg (fun i j hi hj => O _ _ (by omega) (by omega) (by omega)) hB)⟩
    by_cases e9 : i = p
    · subst e9
      exact hp2.st (fun c f q1 q2 q3 => O c f (by omega) (by omega) (by omega)) (fun c j q1 q2 q3 => O _ _ (by omega) (by omega) (by omega)) (fun c q => O _ _ (by omega) (by omega) (by omega)) (hp2.x4 (O _ _ (by omega) (by omega) (by omega)) (O _ _ (by omega) (by omega) (by omega))) (hp2.x5 (O _ _ (by omega) (by omega) (by omega)) (O _ _ (by omega) (by omega) (by omega))) (hp2.x6 (O _ _ (by omega) (by omega) (by omega)) (O _ _ (by omega) (by omega) (by omega))) (hp2.x7 (O _ _ (by omega) (by omega) (by omega)) (O _ _ (by omega) (by omega) (by omega))) (g4.trans k4.symm)
    · exact IvP_cg (fun c f q1 q2 => O c f (by omega) (by omega) (by omega)) (fun c j q1 q2 q3 => O _ _ (by omega) (by omega) (by omega)) (fun c q1 q2 => O _ _ (by omega) (by omega) (by omega)) (O _ _ (by omega) (by omega) (by omega)) (O _ _ (by omega) (by omega) (by omega)) (O _ _ (by omega) (by omega) (by omega)) (hP i hi)
theorem op_row (hI : Inv d Z) (p0 p1 p2 : Int32) {p3 : Int32} (hz : p3 = 0 ∨ p3 = 1) : OpOK yX4_row cX4_row 6 1 yX5_row cX5_row 5 2 [.int p0, .int p1, .int p2, .int p3] d Z := by
  have hI2 := hI
  obtain ⟨np, nm, nt, na, nd, hN, hd, hP, hB, hF, hDl, hL, hM⟩ := hI2
  obtain ⟨⟨n1, n2, n3⟩, ⟨m1, m2, m3⟩, ⟨t1, t2, t3, t4⟩, ⟨s1, s2, s3⟩, ⟨d1, d2⟩⟩ := hN
  refine ⟨_, fun l D Y b0 G hD hG => kX4_row hD hG n1 n3 (Inv.rc hP) p0 p1 p2 hz, fun r1 Z1 h1 => ?_⟩
  have F : ∀ c f, (c < 11 ∨ 59 ≤ c) → Z1 c f = Z c f := fun c f q => by
    rcases h1 with ⟨-, -, e1⟩ | ⟨p, hp, -, ⟨-, -, e1⟩ | ⟨-, -, e1⟩ | ⟨-, -, e1⟩ | ⟨-, -, e1⟩⟩
    · rw [e1]
    · rw [e1]
    · rw [e1]
    · rw [e1]
    · rw [e1, zu_o (by omega), zu_o (by omega), zu_o (by omega), zu_o (by omega)]
  refine ⟨_, fun l D Y b0 G hD hG => kX5_row hD hG (np := np) (rc := rcf Z) (by rw [F _ _ (by omega)]; exact n2) n3 (fun i hi => by rw [F _ _ (by omega)]; exact Inv.rcm hP i hi) p0 p1 p2 hz, fun r2 Z2 h2 => ?_⟩
  rcases h1 with ⟨c1, rfl, e1⟩ | ⟨p, hp, ep, h1⟩
  · rcases h2 with ⟨c2, rfl, e2⟩ | ⟨p', hp', ep', h2⟩
    · subst e1; subst e2; exact ⟨rfl, hI.fu⟩
    · have := nI_rng hp' (by omega) ep'
      omega
  rcases h2 with ⟨c2, rfl, e2⟩ | ⟨p', hp', ep', h2⟩
  · have := nI_rng hp (by omega) ep
    omega
  have e3 : p = p' := nI_inj (by omega) (by omega) (ep.symm.trans ep')
  subst e3
  have hp2 := hP p hp
  have a2 := hp2.1.2.1
  have a1 := hp2.1.1
  rw [F 118 p (by omega), ← a2] at h2
  rcases h1 with ⟨c1, rfl, e1⟩ | ⟨c1, rfl, e1⟩ | ⟨c1, rfl, e1⟩ | ⟨c1, rfl, e1⟩ <;> rcases h2 with ⟨c2, rfl, e2⟩ | ⟨c2, rfl, e2⟩ | ⟨c2, rfl, e2⟩ | ⟨c2, rfl, e2⟩ <;> first
    | (exfalso; omega)
    | (subst e1; subst e2; exact ⟨rfl, hI.fu⟩)
    | skip
  obtain ⟨b1, b2, b3⟩ := hp2.rc
  have O : ∀ c f, (12 + 4 * p ≤ c ∧ c < 15 + 4 * p → f ≠ rcf Z p) → (c = 11 + 4 * p → f ≠ 3) → (c = 113 → f ≠ 0) → (114 ≤ c ∧ c ≤ 116 → f ≠ 40 * p + rcf Z p) → (c = 117 → f ≠ p) → Z2 c f = Z c f := fun c f q1 q2 q3 q4 q5 => by rw [e2, zu_o (by omega), zu_o (by omega), zu_o (by omega), zu_o (by omega), zu_o (by omega), e1, zu_o (by omega), zu_o (by omega), zu_o (by omega), zu_o (by omega)]

  have g3 : Z2 (11 + 4 * p) (3) = nI (rcf Z p + 1) := by rw [e2, zu_o (by omega), zu_o (by omega), zu_o (by omega), zu_o (by omega), zu_o (by omega), e1, zu_s]
  have r12 : Z2 (12 + 4 * p) (rcf Z p) = p1 := by rw [e2, zu_o (by omega), zu_o (by omega), zu_o (by omega), zu_o (by omega), zu_o (by omega), e1, zu_o (by omega), zu_o (by omega), zu_o (by omega), zu_s]
  have r13 : Z2 (13 + 4 * p) (rcf Z p) = p2 := by rw [e2, zu_o (by omega), zu_o (by omega), zu_o (by omega), zu_o (by omega), zu_o (by omega), e1, zu_o (by omega), zu_o (by omega), zu_s]
  have r14 : Z2 (14 + 4 * p) (rcf Z p) = p3 := by rw [e2, zu_o (by omega), zu_o (by omega), zu_o (by omega), zu_o (by omega), zu_o (by omega), e1, zu_o (by omega), zu_s]
  have k117 : Z2 (117) (p) = nI (rcf Z p + 1) := by rw [e2, zu_s]
  have k14 : Z2 (114) (40 * p + (rcf Z p)) = p1 := by rw [e2, zu_o (by omega), zu_o (by omega), zu_o (by omega), zu_s]
  have k15 : Z2 (115) (40 * p + (rcf Z p)) = p2 := by rw [e2, zu_o (by omega), zu_o (by omega), zu_s]
  have k16 : Z2 (116) (40 * p + (rcf Z p)) = p3 := by rw [e2, zu_o (by omega), zu_s]
  obtain ⟨n, hn, en⟩ := zi_nat (x := p1) (n := 256) (by omega) (by omega)
  refine ⟨rfl, hI.parts (np' := np) (fun c f q => O c f (by omega) (by omega) (by omega) (by omega) (by omega)) (by rw [O _ _ (by omega) (by omega) (by omega) (by omega) (by omega)]; exact n1) (by rw [O _ _ (by omega) (by omega) (by omega) (by omega) (by omega)]; exact n2) n3 (fun i hi => ?_) (fun i hi j hj => ?_)⟩
  · by_cases e9 : i = p
    · subst e9
      obtain ⟨⟨a1, a2, a3, a4, a5, a6, a7, a8⟩, -, x3, x4, x5, x6⟩ := hp2
      refine ⟨⟨g3.trans k117.symm, ?_, ?_, ?_, ?_, ?_, ?_, ?_⟩, ⟨rcf Z i + 1, by omega, g3, fun j hj => ?_⟩, ?_, ?_, ?_, ?_⟩
      · rw [O _ _ (by omega) (by omega) (by omega) (by omega) (by omega), O _ _ (by omega) (by omega) (by omega) (by omega) (by omega)]; exact a2
      · rw [O _ _ (by omega) (by omega) (by omega) (by omega) (by omega), O _ _ (by omega) (by omega) (by omega) (by omega) (by omega)]; exact a3
      · rw [O _ _ (by omega) (by omega) (by omega) (by omega) (by omega), O _ _ (by omega) (by omega) (by omega) (by omega) (by omega)]; exact a4
      · rw [O _ _ (by omega) (by omega) (by omega) (by omega) (by omega), O _ _ (by omega) (by omega) (by omega) (by omega) (by omega)]; exact a5
      · rw [O _ _ (by omega) (by omega) (by omega) (by omega) (by omega), O _ _ (by omega) (by omega) (by omega) (by omega) (by omega)]; exact a6
      · rw [O _ _ (by omega) (by omega) (by omega) (by omega) (by omega), O _ _ (by omega) (by omega) (by omega) (by omega) (by omega)]; exact a7
      · rw [O _ _ (by omega) (by omega) (by omega) (by omega) (by omega), O _ _ (by omega) (by omega) (by omega) (by omega) (by omega)]; exact a8
      · by_cases ej : j = rcf Z i
        · subst ej
          exact ⟨r12.trans k14.symm, r13.trans k15.symm, r14.trans k16.symm, ⟨n, hn, r12.trans en⟩, by rw [r13]; omega⟩
        · exact IvR_cg (fun c q1 q2 => O _ _ (by omega) (by omega) (by omega) (by omega) (by omega)) (fun c q1 q2 => O _ _ (by omega) (by omega) (by omega) (by omega) (by omega)) (b3 j (by omega))
      · rw [O _ _ (by omega) (by omega) (by omega) (by omega) (by omega)]; exact x3
      · rw [O _ _ (by omega) (by omega) (by omega) (by omega) (by omega)]; exact x4
      · rw [O _ _ (by omega) (by omega) (by omega) (by omega) (by omega)]; exact x5
      · rw [O _ _ (by omega) (by omega) (by omega) (by omega) (by omega)]; exact x6
    · exact IvP_cg (fun c f q1 q2 => O c f (by omega) (by omega) (by omega) (by omega) (by omega)) (fun c j q1 q2 q3 => O _ _ (by omega) (by omega) (by omega) (by omega) (by omega)) (fun c q1 q2 => O _ _ (by omega) (by omega) (by omega) (by omega) (by omega)) (O _ _ (by omega) (by omega) (by omega) (by omega) (by omega)) (O _ _ (by omega) (by omega) (by omega) (by omega) (by omega)) (O _ _ (by omega) (by omega) (by omega) (by omega) (by omega)) (hP i hi)
  · by_cases e9 : i = p ∧ j = rcf Z p
    · obtain ⟨rfl, rfl⟩ := e9
      rw [bz, r14]; exact hz
    · rw [O _ _ (by omega) (by omega) (by omega) (by omega) (by omega)]; exact hB i hi j hj
end OP2
