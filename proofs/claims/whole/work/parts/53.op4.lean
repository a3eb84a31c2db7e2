/-! split, mark, restore -/
theorem zmv_p {Z : ZT} {i i2 p m b : Nat} (h : b ≠ 3) : zmv Z i i2 p m (11 + 4 * i2) b = Z (11 + 4 * i2) b := by
  unfold zmv
  rw [if_neg (by omega), if_neg (by omega), if_neg (by omega), if_neg (by omega)]
theorem zmv_r {Z : ZT} {i i2 p m b : Nat} (h : b < m) : zmv Z i i2 p m (12 + 4 * i2) b = Z (12 + 4 * i) (p + b) ∧ zmv Z i i2 p m (13 + 4 * i2) b = Z (13 + 4 * i) (p + b) ∧ zmv Z i i2 p m (14 + 4 * i2) b = Z (14 + 4 * i) (p + b) := by
  unfold zmv
  refine ⟨by rw [if_pos ⟨rfl, h⟩], by rw [if_neg (by omega), if_pos ⟨rfl, h⟩], by rw [if_neg (by omega), if_neg (by omega), if_pos ⟨rfl, h⟩]⟩
theorem zmv_q {Z : ZT} {i i2 p m b : Nat} (h : m ≤ b) : zmv Z i i2 p m (14 + 4 * i2) b = Z (14 + 4 * i2) b := by
  unfold zmv
  rw [if_neg (by omega), if_neg (by omega), if_neg (by omega), if_neg (by omega)]
section OP4
variable {d : Nat} {Z Z2 : ZT}
theorem op_split (hI : Inv d Z) (p0 p1 : Int32) : OpOK yX4_split cX4_split 5 3 yX5_split cX5_split 5 2 [.int p0, .int p1] d Z := by
  have hI2 := hI
  obtain ⟨np, nm, nt, na, nd, hN, hd, hP, hB, hF, hDl, hL, hM⟩ := hI2
  obtain ⟨⟨n1, n2, n3⟩, ⟨m1, m2, m3⟩, ⟨t1, t2, t3, t4⟩, ⟨s1, s2, s3⟩, ⟨d1, d2⟩⟩ := hN
  refine ⟨_, fun l D Y b0 G hD hG => kX4_split hD hG n1 n3 (Inv.rc hP) (fun i hi j hj => hB i (by omega) j hj) (fun i hi => (hP i hi).2.2.2.1) p0 p1, fun r1 Z1 h1 => ?_⟩
  have F : ∀ c f, 59 ≤ c → Z1 c f = Z c f := fun c f q => by
    rcases h1 with ⟨-, -, e1⟩ | ⟨p, hp, -, ⟨-, -, e1⟩ | ⟨-, -, e1⟩ | ⟨-, -, e1⟩ | ⟨s, -, -, ⟨-, -, h12⟩, -, e1⟩⟩
    · rw [e1]
    · rw [e1]
    · rw [e1]
    · rw [e1]
    · rw [e1, zu_o (by omega), zu_o (by omega), zu_o (by omega), zmv_o (by omega), zu_o (by omega), zu_o (by omega), zu_o (by omega), zu_o (by omega), zu_o (by omega), zu_o (by omega), zu_o (by omega), zu_o (by omega), zu_o (by omega)]
  refine ⟨_, fun l D Y b0 G hD hG => kX5_split hD hG (np := np) (rc := rcf Z) (by rw [F _ _ (by omega)]; exact n2) n3 (fun i hi => by rw [F _ _ (by omega)]; exact Inv.rcm hP i hi) (fun i hi j hj => by rw [F _ _ (by omega), ← ((hP i hi).rc.2.2 j hj).2.2.1]; exact hB i (by omega) j (by have := (hP i hi).rc.2.1; omega)) (fun i hi => by rw [F _ _ (by omega), ← (hP i hi).1.2.1]; exact (hP i hi).2.2.2.1) p0 p1, fun r2 Z2 h2 => ?_⟩
  rcases h1 with ⟨c1, rfl, e1⟩ | ⟨p, hp, ep, h1⟩
  · rcases h2 with ⟨c2, rfl, e2⟩ | ⟨p', hp', ep', h2⟩
    · subst e1; subst e2; exact ⟨rfl, hI.fu⟩
    · have := nI_rng hp' (by omega) ep'
      omega
  rcases h2 with ⟨c2, rfl, e2⟩ | ⟨p', hp', ep', h2⟩
  · have := nI_rng hp (by omega) ep
    omega
  have e3 : p = p' := nI_inj (by omega) (by omega) (ep.symm.trans ep')
  subst e3
  have hp2 := hP p hp
  obtain ⟨b1, b2, b3⟩ := hp2.rc
  have a3 := hp2.1.2.2.1
  rw [F 121 p (by omega), ← a3] at h2
  rcases h1 with ⟨c1, rfl, e1⟩ | ⟨c1, rfl, e1⟩ | ⟨c1, rfl, e1⟩ | ⟨q, hq, eq, c1, rfl, e1⟩ <;> rcases h2 with ⟨c2, rfl, e2⟩ | ⟨c2, rfl, e2⟩ | ⟨c2, rfl, e2⟩ | ⟨q', hq', eq', c2, rfl, e2⟩ <;> first
    | (subst e1; subst e2; exact ⟨rfl, hI.fu⟩)
    | (exfalso; omega)
    | (exfalso; have := nI_rng hq (by omega) eq; omega)
    | (exfalso; have := nI_rng hq' (by omega) eq'; omega)
    | skip
  have e4 : q = q' := nI_inj (by omega) (by omega) (eq.symm.trans eq')
  subst e4
  have hn12 : np < 12 := c1.2.2
  obtain ⟨m, hm⟩ : ∃ m, m = rcf Z p - q := ⟨_, rfl⟩
  rw [← hm] at e1 e2
  rw [F 119 p (by omega), F 118 p (by omega)] at e2
  have hpn : p ≠ np := by omega
  have O1 : ∀ c f, (c = 0 → f ≠ 5) → (c < 11 + 4 * np ∨ 15 + 4 * np ≤ c) → (c = 11 + 4 * p → f ≠ 3 ∧ f ≠ 4) → Z1 c f = Z c f := fun c f q1 q2 q3 => by rw [e1, zu_o (by omega), zu_o (by omega), zu_o (by omega), zmv_o (by omega), zu_o (by omega), zu_o (by omega), zu_o (by omega), zu_o (by omega), zu_o (by omega), zu_o (by omega), zu_o (by omega), zu_o (by omega), zu_o (by omega)]
  have O2 : ∀ c f, (c = 113 → 2 ≤ f) → (114 ≤ c ∧ c ≤ 116 → f < 40 * np ∨ 40 * np + m ≤ f) → (c = 117 ∨ c = 118 → f ≠ np ∧ f ≠ p) → (c = 119 ∨ c = 120 → f ≠ np) → (c = 121 → f ≠ np ∧ f ≠ 12 + np ∧ f ≠ 24 + np ∧ f ≠ 36 + np) → Z2 c f = Z1 c f := fun c f q1 q2 q3 q4 q5 => by rw [e2, zu_o (by omega), zu_o (by omega), zu_o (by omega), zmm_o (by omega), zu_o (by omega), zu_o (by omega), zu_o (by omega), zu_o (by omega), zu_o (by omega), zu_o (by omega), zu_o (by omega), zu_o (by omega), zu_o (by omega), zu_o (by omega)]
  have K : ∀ c f, c < 113 → Z2 c f = Z1 c f := fun c f q => O2 c f (by omega) (by omega) (by omega) (by omega) (by omega)
  have g3 : Z2 (11 + 4 * np) 3 = nI m := by rw [K _ _ (by omega), e1, zu_o (by omega), zu_o (by omega), zu_o (by omega), zmv_3]
  have g4 : Z2 (11 + 4 * np) 4 = Z (11 + 4 * p) 4 := by rw [K _ _ (by omega), e1, zu_o (by omega), zu_o (by omega), zu_s]
  have g5 : Z2 (11 + 4 * np) 5 = nI 0 := by rw [K _ _ (by omega), e1, zu_o (by omega), zu_o (by omega), zu_o (by omega), zmv_p (by omega), zu_o (by omega), zu_o (by omega), zu_o (by omega), zu_s]
  have g6 : Z2 (11 + 4 * np) 6 = -1 := by rw [K _ _ (by omega), e1, zu_o (by omega), zu_o (by omega), zu_o (by omega), zmv_p (by omega), zu_o (by omega), zu_o (by omega), zu_s]
  have g7 : Z2 (11 + 4 * np) 7 = nI 0 := by rw [K _ _ (by omega), e1, zu_o (by omega), zu_o (by omega), zu_o (by omega), zmv_p (by omega), zu_o (by omega), zu_s]
  have g8 : Z2 (11 + 4 * np) 8 = Z (11 + 4 * p) 8 := by rw [K _ _ (by omega), e1, zu_o (by omega), zu_o (by omega), zu_o (by omega), zmv_p (by omega), zu_o (by omega), zu_o (by omega), zu_o (by omega), zu_o (by omega), zu_o (by omega), zu_o (by omega), zu_s]
  have g9 : Z2 (11 + 4 * np) 9 = -1 := by rw [K _ _ (by omega), e1, zu_o (by omega), zu_o (by omega), zu_o (by omega), zmv_p (by omega), zu_o (by omega), zu_o (by omega), zu_o (by omega), zu_o (by omega), zu_s]
  have g10 : Z2 (11 + 4 * np) 10 = nI p := by rw [K _ _ (by omega), e1, zu_o (by omega), zu_o (by omega), zu_o (by omega), zmv_p (by omega), zu_o (by omega), zu_o (by omega), zu_o (by omega), zu_o (by omega), zu_o (by omega), zu_s]
  have gr : ∀ j, j < m → Z2 (12 + 4 * np) j = Z (12 + 4 * p) (q + j) ∧ Z2 (13 + 4 * np) j = Z (13 + 4 * p) (q + j) ∧ Z2 (14 + 4 * np) j = Z (14 + 4 * p) (q + j) := fun j hj => by
    rw [K _ _ (by omega), K _ _ (by omega), K _ _ (by omega), e1, zu_o (by omega), zu_o (by omega), zu_o (by omega), zu_o (by omega), zu_o (by omega), zu_o (by omega), zu_o (by omega), zu_o (by omega), zu_o (by omega), (zmv_r hj).1, (zmv_r hj).2.1, (zmv_r hj).2.2]
    refine ⟨?_, ?_, ?_⟩ <;> rw [zu_o (by omega), zu_o (by omega), zu_o (by omega), zu_o (by omega), zu_o (by omega), zu_o (by omega), zu_o (by omega), zu_o (by omega), zu_o (by omega)]
  have gb : ∀ j, m ≤ j → Z2 (14 + 4 * np) j = Z (14 + 4 * np) j := fun j hj => by rw [K _ _ (by omega), e1, zu_o (by omega), zu_o (by omega), zu_o (by omega), zmv_q hj, zu_o (by omega), zu_o (by omega), zu_o (by omega), zu_o (by omega), zu_o (by omega), zu_o (by omega), zu_o (by omega), zu_o (by omega), zu_o (by omega)]
  have p3 : Z2 (11 + 4 * p) 3 = nI q := by rw [K _ _ (by omega), e1, zu_o (by omega), zu_s]
  have p4 : Z2 (11 + 4 * p) 4 = nI 1 := by rw [K _ _ (by omega), e1, zu_s]
  have k3 : Z2 117 np = nI m := by rw [e2, zu_o (by omega), zu_o (by omega), zu_o (by omega), zmm_3]
  have k4 : Z2 118 np = Z 118 p := by rw [e2, zu_o (by omega), zu_o (by omega), zu_s]
  have k5 : Z2 121 (np) = nI 0 := by rw [e2, zu_o (by omega), zu_o (by omega), zu_o (by omega), zmm_o (by omega), zu_o (by omega), zu_o (by omega), zu_o (by omega), zu_o (by omega), zu_s]
  have k6 : Z2 121 (12 + np) = -1 := by rw [e2, zu_o (by omega), zu_o (by omega), zu_o (by omega), zmm_o (by omega), zu_o (by omega), zu_o (by omega), zu_o (by omega), zu_s]
  have k7 : Z2 121 (24 + np) = nI 0 := by rw [e2, zu_o (by omega), zu_o (by omega), zu_o (by omega), zmm_o (by omega), zu_o (by omega), zu_o (by omega), zu_s]
  have k8 : Z2 119 (np) = Z 119 p := by rw [e2, zu_o (by omega), zu_o (by omega), zu_o (by omega), zmm_o (by omega), zu_o (by omega), zu_o (by omega), zu_o (by omega), zu_o (by omega), zu_o (by omega), zu_o (by omega), zu_s]
  have k9 : Z2 121 (36 + np) = -1 := by rw [e2, zu_o (by omega), zu_o (by omega), zu_o (by omega), zmm_o (by omega), zu_o (by omega), zu_s]
  have k10 : Z2 120 (np) = nI p := by rw [e2, zu_o (by omega), zu_o (by omega), zu_o (by omega), zmm_o (by omega), zu_o (by omega), zu_o (by omega), zu_o (by omega), zu_o (by omega), zu_o (by omega), zu_s]
  have kr : ∀ c j, 114 ≤ c → c ≤ 116 → j < m → Z2 c (40 * np + j) = Z c (40 * p + (q + j)) := fun c j q1 q2 hj => by rw [e2, zu_o (by omega), zu_o (by omega), zu_o (by omega), zmm_i (by omega) hj, zu_o (by omega), zu_o (by omega), zu_o (by omega), zu_o (by omega), zu_o (by omega), zu_o (by omega), zu_o (by omega), zu_o (by omega), zu_o (by omega), zu_o (by omega), F _ _ (by omega)]
  have q3 : Z2 117 p = nI q := by rw [e2, zu_o (by omega), zu_s]
  have q4 : Z2 118 p = nI 1 := by rw [e2, zu_s]
  have O : ∀ c f, (c = 0 → f ≠ 5) → (c < 11 + 4 * np ∨ 15 + 4 * np ≤ c) → (c = 11 + 4 * p → f ≠ 3 ∧ f ≠ 4) → (c = 113 → 2 ≤ f) → (114 ≤ c ∧ c ≤ 116 → f < 40 * np ∨ 40 * np + m ≤ f) → (c = 117 ∨ c = 118 → f ≠ np ∧ f ≠ p) → (c = 119 ∨ c = 120 → f ≠ np) → (c = 121 → f ≠ np ∧ f ≠ 12 + np ∧ f ≠ 24 + np ∧ f ≠ 36 + np) → Z2 c f = Z c f := fun c f x1 x2 x3 x4 x5 x6 x7 x8 => (O2 c f x4 x5 x6 x7 x8).trans (O1 c f x1 x2 x3)
  refine ⟨rfl, hI.parts (np' := np + 1) (fun c f q => O c f (by omega) (by omega) (by omega) (by omega) (by omega) (by omega) (by omega) (by omega)) (by rw [K _ _ (by omega), e1, zu_o (by omega), zu_o (by omega), zu_o (by omega), zmv_o (by omega), zu_s]) (by rw [e2, zu_o (by omega), zu_o (by omega), zu_o (by omega), zmm_o (by omega), zu_s]) (by omega) (fun i hi => ?_) (fun i hi j hj => ?_)⟩
  · by_cases e9 : i = np
    · subst e9
      have hp3 := hp2
      obtain ⟨⟨a1, a2, a3, a4, a5, a6, a7, a8⟩, -, x3, x4, x5, x6⟩ := hp3
      refine ⟨⟨g3.trans k3.symm, by rw [g4, k4]; exact a2, g5.trans k5.symm, g6.trans k6.symm, g7.trans k7.symm, by rw [g8, k8]; exact a6, g9.trans k9.symm, g10.trans k10.symm⟩, ⟨m, by omega, g3, fun j hj => ?_⟩, ⟨0, by omega, g5⟩, by rw [g4]; exact x4, by rw [g6]; decide, by rw [g8]; exact x6⟩
      obtain ⟨y1, y2, y3, ⟨n, hn, y4⟩, y5⟩ := b3 (q + j) (by omega)
      obtain ⟨w1, w2, w3⟩ := gr j hj
      refine ⟨?_, ?_, ?_, ⟨n, hn, w1.trans y4⟩, by rw [w2]; exact y5⟩
      · rw [w1, kr 114 j (by omega) (by omega) hj]; exact y1
      · rw [w2, kr 115 j (by omega) (by omega) hj]; exact y2
      · rw [w3, kr 116 j (by omega) (by omega) hj]; exact y3
    · by_cases e8 : i = p
      · subst e8
        obtain ⟨⟨a1, a2, a3, a4, a5, a6, a7, a8⟩, -, x3, x4, x5, x6⟩ := hp2
        refine ⟨⟨p3.trans q3.symm, p4.trans q4.symm, ?_, ?_, ?_, ?_, ?_, ?_⟩, ⟨q, by omega, p3, fun j hj => IvR_cg (fun c z1 z2 => O _ _ (by omega) (by omega) (by omega) (by omega) (by omega) (by omega) (by omega) (by omega)) (fun c z1 z2 => O _ _ (by omega) (by omega) (by omega) (by omega) (by omega) (by omega) (by omega) (by omega)) (b3 j (by omega))⟩, ?_, by rw [p4]; exact Or.inr rfl, ?_, ?_⟩
        · rw [O _ _ (by omega) (by omega) (by omega) (by omega) (by omega) (by omega) (by omega) (by omega), O _ _ (by omega) (by omega) (by omega) (by omega) (by omega) (by omega) (by omega) (by omega)]; exact a3
        · rw [O _ _ (by omega) (by omega) (by omega) (by omega) (by omega) (by omega) (by omega) (by omega), O _ _ (by omega) (by omega) (by omega) (by omega) (by omega) (by omega) (by omega) (by omega)]; exact a4
        · rw [O _ _ (by omega) (by omega) (by omega) (by omega) (by omega) (by omega) (by omega) (by omega), O _ _ (by omega) (by omega) (by omega) (by omega) (by omega) (by omega) (by omega) (by omega)]; exact a5
        · rw [O _ _ (by omega) (by omega) (by omega) (by omega) (by omega) (by omega) (by omega) (by omega), O _ _ (by omega) (by omega) (by omega) (by omega) (by omega) (by omega) (by omega) (by omega)]; exact a6
        · rw [O _ _ (by omega) (by omega) (by omega) (by omega) (by omega) (by omega) (by omega) (by omega), O _ _ (by omega) (by omega) (by omega) (by omega) (by omega) (by omega) (by omega) (by omega)]; exact a7
        · rw [O _ _ (by omega) (by omega) (by omega) (by omega) (by omega) (by omega) (by omega) (by omega), O _ _ (by omega) (by omega) (by omega) (by omega) (by omega) (by omega) (by omega) (by omega)]; exact a8
        · rw [O _ _ (by omega) (by omega) (by omega) (by omega) (by omega) (by omega) (by omega) (by omega)]; exact x3
        · rw [O _ _ (by omega) (by omega) (by omega) (by omega) (by omega) (by omega) (by omega) (by omega)]; exact x5
        · rw [O _ _ (by omega) (by omega) (by omega) (by omega) (by omega) (by omega) (by omega) (by omega)]; exact x6
      · exact IvP_cg (fun c f z1 z2 => O c f (by omega) (by omega) (by omega) (by omega) (by omega) (by omega) (by omega) (by omega)) (fun c j z1 z2 z3 => O _ _ (by omega) (by omega) (by omega) (by omega) (by omega) (by omega) (by omega) (by omega)) (fun c z1 z2 => O _ _ (by omega) (by omega) (by omega) (by omega) (by omega) (by omega) (by omega) (by omega)) (O _ _ (by omega) (by omega) (by omega) (by omega) (by omega) (by omega) (by omega) (by omega)) (O _ _ (by omega) (by omega) (by omega) (by omega) (by omega) (by omega) (by omega) (by omega)) (O _ _ (by omega) (by omega) (by omega) (by omega) (by omega) (by omega) (by omega) (by omega)) (hP i (by omega))
  · by_cases e9 : i = np
    · subst e9
      by_cases e8 : j < m
      · rw [bz, (gr j e8).2.2]; exact hB p (by omega) (q + j) (by omega)
      · rw [gb j (by omega)]; exact hB i hi j hj
    · rw [O _ _ (by omega) (by omega) (by omega) (by omega) (by omega) (by omega) (by omega) (by omega)]; exact hB i hi j hj
theorem zkp_i {Z : ZT} {m k b : Nat} (h : b < k) : zkp Z m k (60 + 9 * m) b = Z (11 + 4 * b) 5 ∧ zkp Z m k (61 + 9 * m) b = Z (11 + 4 * b) 6 ∧ zkp Z m k (62 + 9 * m) b = Z (11 + 4 * b) 7 ∧ zkp Z m k (63 + 9 * m) b = Z (11 + 4 * b) 9 := by
  unfold zkp
  refine ⟨by rw [if_pos ⟨rfl, h⟩], by rw [if_neg (by omega), if_pos ⟨rfl, h⟩], by rw [if_neg (by omega), if_neg (by omega), if_pos ⟨rfl, h⟩], by rw [if_neg (by omega), if_neg (by omega), if_neg (by omega), if_pos ⟨rfl, h⟩]⟩
theorem op_mark (hI : Inv d Z) : OpOK yX4_mark cX4_mark 1 4 yX5_mark cX5_mark 2 0 [] d Z := by
  have hI2 := hI
  obtain ⟨np, nm, nt, na, nd, hN, hd, hP, hB, hF, hDl, hL, hM⟩ := hI2
  obtain ⟨⟨n1, n2, n3⟩, ⟨m1, m2, m3⟩, ⟨t1, t2, t3, t4⟩, ⟨s1, s2, s3⟩, ⟨d1, d2⟩⟩ := hN
  refine ⟨_, fun l D Y b0 G hD hG => kX4_mark hD hG n1 n3 m1 m3 (fun b hb => (hF.1 b hb).2), fun r1 Z1 h1 => ?_⟩
  have F : ∀ c f, 113 ≤ c → Z1 c f = Z c f := fun c f q => by
    rcases h1 with ⟨-, -, e1⟩ | ⟨c1, -, e1⟩
    · rw [e1]
    · rw [e1, zu_o (by omega), zu_o (by omega), zu_o (by omega), zcpy_o (by omega), zcpy_o (by omega), zcpy_o (by omega), zkp_o (by omega), zu_o (by omega)]
  have Ff : ∀ c f, 113 ≤ c → (c = 113 → f ≠ 0) → zu Z1 113 0 (nI 0) c f = Z c f := fun c f q1 q2 => by rw [zu_o (by omega), F c f q1]
  refine ⟨_, fun l D Y b0 G hD hG => kX5_mark hD hG (Zi := Z1) (Z := zu Z1 113 0 (nI 0)) rfl (np := np) (nm := nm) (na := na) (by rw [Ff _ _ (by omega) (by omega)]; exact n2) n3 (by rw [Ff _ _ (by omega) (by omega)]; exact m2) m3 (by rw [Ff _ _ (by omega) (by omega)]; exact s2) s3 (fun b hb => by rw [Ff _ _ (by omega) (by omega), ← (hF.1 b hb).1]; exact (hF.1 b hb).2), fun r2 Z2 h2 => ?_⟩
  rcases h1 with ⟨c1, rfl, e1⟩ | ⟨c1, rfl, e1⟩ <;> rcases h2 with ⟨c2, rfl, e2⟩ | ⟨c2, rfl, e2⟩ <;> first
    | (exfalso; omega)
    | (subst e1; subst e2; exact ⟨rfl, hI.fu⟩)
    | skip
  have O1 : ∀ c f, (c = 0 → f ≠ 6) → (c < 59 + 9 * nm ∨ 68 + 9 * nm ≤ c) → Z1 c f = Z c f := fun c f q1 q2 => by rw [e1, zu_o (by omega), zu_o (by omega), zu_o (by omega), zcpy_o (by omega), zcpy_o (by omega), zcpy_o (by omega), zkp_o (by omega), zu_o (by omega)]
  have O2 : ∀ c f, (c = 113 → f ≠ 0 ∧ f ≠ 14) → (c = 124 → f < 48 * nm) → (c = 125 → f < 256 * nm) → (c = 126 → f < 200 * nm) → (c = 127 ∨ c = 128 → f ≠ nm) → Z2 c f = Z1 c f := fun c f q1 q2 q3 q4 q5 => by rw [e2, zu_o (by omega), zu_o (by omega), zu_o (by omega), zco_o (by omega), zco_o (by omega), zco_o (by omega), zu_o (by omega)]
  have K : ∀ c f, c < 113 → Z2 c f = Z1 c f := fun c f q => O2 c f (by omega) (by omega) (by omega) (by omega) (by omega)
  have O : ∀ c f, (c = 0 → f ≠ 6) → (c < 59 + 9 * nm ∨ 68 + 9 * nm ≤ c) → (c = 113 → f ≠ 0 ∧ f ≠ 14) → (c = 124 → f < 48 * nm) → (c = 125 → f < 256 * nm) → (c = 126 → f < 200 * nm) → (c = 127 ∨ c = 128 → f ≠ nm) → Z2 c f = Z c f := fun c f q0 q6 q1 q2 q3 q4 q5 => (O2 c f q1 q2 q3 q4 q5).trans (O1 c f q0 q6)
  have z65 : ∀ k, k < 256 → Z2 (65 + 9 * nm) k = Z 4 k := fun k hk => by rw [K _ _ (by omega), e1, zu_o (by omega), zu_o (by omega), zu_o (by omega), zcpy_o (by omega), zcpy_o (by omega), zcpy_i hk, zkp_o (by omega), zu_o (by omega)]
  have z66 : ∀ k, k < 100 → Z2 (66 + 9 * nm) k = Z 5 k := fun k hk => by rw [K _ _ (by omega), e1, zu_o (by omega), zu_o (by omega), zu_o (by omega), zcpy_o (by omega), zcpy_i hk, zcpy_o (by omega), zkp_o (by omega), zu_o (by omega)]
  have z67 : ∀ k, k < 100 → Z2 (67 + 9 * nm) k = Z 6 k := fun k hk => by rw [K _ _ (by omega), e1, zu_o (by omega), zu_o (by omega), zu_o (by omega), zcpy_i hk, zcpy_o (by omega), zcpy_o (by omega), zkp_o (by omega), zu_o (by omega)]
  have z125 : ∀ k, k < 256 → Z2 125 (256 * nm + k) = Z 122 k := fun k hk => by rw [e2, zu_o (by omega), zu_o (by omega), zu_o (by omega), zco_o (by omega), zco_i hk, zco_o (by omega), Ff _ _ (by omega) (by omega)]
  have z126 : ∀ k, k < 2 * na → Z2 126 (200 * nm + k) = Z 123 k := fun k hk => by rw [e2, zu_o (by omega), zu_o (by omega), zu_o (by omega), zco_i hk, zco_o (by omega), zco_o (by omega), Ff _ _ (by omega) (by omega)]
  have z124 : ∀ k, k < 48 → Z2 124 (48 * nm + k) = Z 121 k := fun k hk => by rw [e2, zu_o (by omega), zu_o (by omega), zu_o (by omega), zco_o (by omega), zco_o (by omega), zco_i hk, Ff _ _ (by omega) (by omega)]
  have zk : ∀ c, 60 + 9 * nm ≤ c → c < 64 + 9 * nm → ∀ k, k < np → Z2 c k = zkp (zu Z (59 + 9 * nm) 5 (nI np)) nm np c k := fun c q1 q2 k hk => by rw [K _ _ (by omega), e1, zu_o (by omega), zu_o (by omega), zu_o (by omega), zcpy_o (by omega), zcpy_o (by omega), zcpy_o (by omega)]
  have new : IvM Z2 nm := by
    refine ⟨np, na, ⟨n3, ?_, ?_⟩, ⟨s3, ?_, ?_⟩, ?_, fun k hk => ?_, fun j hj => ?_, fun p hp => ?_⟩
    · rw [K _ _ (by omega), e1, zu_o (by omega), zu_o (by omega), zu_o (by omega), zcpy_o (by omega), zcpy_o (by omega), zcpy_o (by omega), zkp_o (by omega), zu_s]
    · rw [e2, zu_o (by omega), zu_s]
    · rw [K _ _ (by omega), e1, zu_o (by omega), zu_s]; exact s1
    · rw [e2, zu_o (by omega), zu_o (by omega), zu_s]
    · rw [K _ _ (by omega), e1, zu_o (by omega), zu_o (by omega), zu_s, hF.2.1, gbz_cg (Z := Z) (Z' := Z2) (c := 4) (c' := 65 + 9 * nm) z65]
    · rw [z65 k hk, z125 k hk]; exact hF.1 k hk
    · rw [z66 j (by omega), z67 j (by omega), z126 (2 * j) (by omega), z126 (2 * j + 1) (by omega)]; exact hF.2.2 j hj
    · obtain ⟨w1, w2, w3, w4⟩ := zkp_i (Z := zu Z (59 + 9 * nm) 5 (nI np)) (m := nm) hp
      rw [zu_o (by omega)] at w1 w2 w3 w4
      obtain ⟨⟨a1, a2, a3, a4, a5, a6, a7, a8⟩, -, x3, x4, x5, x6⟩ := hP p hp
      have v1 := (zk (60 + 9 * nm) (by omega) (by omega) p hp).trans w1
      have v2 := (zk (61 + 9 * nm) (by omega) (by omega) p hp).trans w2
      have v3 := (zk (62 + 9 * nm) (by omega) (by omega) p hp).trans w3
      have v4 := (zk (63 + 9 * nm) (by omega) (by omega) p hp).trans w4
      refine ⟨?_, ?_, ?_, ?_, by rw [v1]; exact x3, by rw [v2]; exact x5⟩
      · rw [v1, z124 p (by omega)]; exact a3
      · rw [v2, Nat.add_assoc, z124 (12 + p) (by omega)]; exact a4
      · rw [v3, Nat.add_assoc, z124 (24 + p) (by omega)]; exact a5
      · rw [v4, Nat.add_assoc, z124 (36 + p) (by omega)]; exact a7
  refine ⟨rfl, np, nm + 1, nt, na, nd, ⟨⟨?_, ?_, n3⟩, ⟨?_, ?_, by omega⟩, ⟨?_, ?_, t3, t4⟩, ⟨?_, ?_, s3⟩, ?_, ?_⟩, by omega, fun p hp => IvP_cg (fun c f _ _ => O _ _ (by omega) (by omega) (by omega) (by omega) (by omega) (by omega) (by omega)) (fun c j _ _ _ => O _ _ (by omega) (by omega) (by omega) (by omega) (by omega) (by omega) (by omega)) (fun c _ _ => O _ _ (by omega) (by omega) (by omega) (by omega) (by omega) (by omega) (by omega)) (O _ _ (by omega) (by omega) (by omega) (by omega) (by omega) (by omega) (by omega)) (O _ _ (by omega) (by omega) (by omega) (by omega) (by omega) (by omega) (by omega)) (O _ _ (by omega) (by omega) (by omega) (by omega) (by omega) (by omega) (by omega)) (hP p hp), IvB_cg (fun i j _ _ => O _ _ (by omega) (by omega) (by omega) (by omega) (by omega) (by omega) (by omega)) hB, IvF_cg (fun c f _ _ => O _ _ (by omega) (by omega) (by omega) (by omega) (by omega) (by omega) (by omega)) (fun c f _ _ => O _ _ (by omega) (by omega) (by omega) (by omega) (by omega) (by omega) (by omega)) hF, IvD_cg (fun c f _ _ _ => O _ _ (by omega) (by omega) (by omega) (by omega) (by omega) (by omega) (by omega)) (fun c f _ _ => O _ _ (by omega) (by omega) (by omega) (by omega) (by omega) (by omega) (by omega)) (O _ _ (by omega) (by omega) (by omega) (by omega) (by omega) (by omega) (by omega)) (O _ _ (by omega) (by omega) (by omega) (by omega) (by omega) (by omega) (by omega)) hDl, IvL_cg (fun f _ => O _ _ (by omega) (by omega) (by omega) (by omega) (by omega) (by omega) (by omega)) (fun f _ => O _ _ (by omega) (by omega) (by omega) (by omega) (by omega) (by omega) (by omega)) hL, fun m hm => ?_⟩
  · rw [O _ _ (by omega) (by omega) (by omega) (by omega) (by omega) (by omega) (by omega)]; exact n1
  · rw [O _ _ (by omega) (by omega) (by omega) (by omega) (by omega) (by omega) (by omega)]; exact n2
  · rw [K _ _ (by omega), e1, zu_s]
  · rw [e2, zu_s]
  · rw [O _ _ (by omega) (by omega) (by omega) (by omega) (by omega) (by omega) (by omega)]; exact t1
  · rw [O _ _ (by omega) (by omega) (by omega) (by omega) (by omega) (by omega) (by omega)]; exact t2
  · rw [O _ _ (by omega) (by omega) (by omega) (by omega) (by omega) (by omega) (by omega)]; exact s1
  · rw [O _ _ (by omega) (by omega) (by omega) (by omega) (by omega) (by omega) (by omega)]; exact s2
  · rw [O _ _ (by omega) (by omega) (by omega) (by omega) (by omega) (by omega) (by omega)]; exact d1
  · rw [O _ _ (by omega) (by omega) (by omega) (by omega) (by omega) (by omega) (by omega)]; exact d2
  · by_cases e9 : m = nm
    · subst e9; exact new
    · exact IvM_cg (fun c f _ _ => O _ _ (by omega) (by omega) (by omega) (by omega) (by omega) (by omega) (by omega)) (fun c f z1 z2 z3 z4 z5 z6 z7 => O _ _ (by omega) (by omega) (by omega) (by omega) (by omega) (by omega) (by omega)) (hM m (by omega))
theorem op_restore (hI : Inv d Z) (p0 : Int32) : OpOK yX4_restore cX4_restore 6 3 yX5_restore cX5_restore 6 1 [.int p0] d Z := by
  have hI2 := hI
  obtain ⟨np, nm, nt, na, nd, hN, hd, hP, hB, hF, hDl, hL, hM⟩ := hI2
  obtain ⟨⟨n1, n2, n3⟩, ⟨m1, m2, m3⟩, ⟨t1, t2, t3, t4⟩, ⟨s1, s2, s3⟩, ⟨d1, d2⟩⟩ := hN
  refine ⟨_, fun l D Y b0 G hD hG => kX4_restoreB hD hG n1 n3 m1 m3 (ntI := (nt : Int)) t1 (nI_toInt (by omega)) (fun m hm => by obtain ⟨kp, ma, ⟨x1, x2, -⟩, -⟩ := hM m hm; exact ⟨kp, x2, x1⟩) (fun m hm b hb => by obtain ⟨kp, ma, -, -, -, x4, -⟩ := hM m hm; exact (x4 b hb).2) p0, fun r1 Z1 h1 => ?_⟩
  have F : ∀ c f, 59 ≤ c → Z1 c f = Z c f := fun c f q => by
    rcases h1 with ⟨-, -, e1⟩ | ⟨m, hm, -, kp, -, -, -, e1⟩
    · rw [e1]
    · rw [e1, zu_o (by omega), zu_o (by omega), zcpy_o (by omega), zcpy_o (by omega), zcpy_o (by omega), zpf_o (by omega)]
  have Ff : ∀ c f, 59 ≤ c → (c = 113 → f ≠ 0) → zu Z1 113 0 (nI 0) c f = Z c f := fun c f q1 q2 => by rw [zu_o (by omega), F c f q1]
  refine ⟨_, fun l D Y b0 G hD hG => kX5_restoreB hD hG (Zi := Z1) (Z := zu Z1 113 0 (nI 0)) rfl (np := np) (nm := nm) (nt := nt) (by rw [Ff _ _ (by omega) (by omega)]; exact n2) n3 (by rw [Ff _ _ (by omega) (by omega)]; exact m2) m3 (by rw [Ff _ _ (by omega) (by omega)]; exact t2) t4 (fun m hm => by
    obtain ⟨kp, ma, ⟨x1, x2, x3⟩, ⟨y1, y2, y3⟩, -⟩ := hM m hm
    rw [Ff _ _ (by omega) (by omega), Ff _ _ (by omega) (by omega)]
    exact ⟨⟨kp, x3, x1⟩, ma, y3, y1⟩) (fun m hm b hb => by
    obtain ⟨kp, ma, -, -, -, x4, -⟩ := hM m hm
    rw [Ff _ _ (by omega) (by omega), ← (x4 b hb).1]
    exact (x4 b hb).2) p0, fun r2 Z2 h2 => ?_⟩
  rcases h1 with ⟨c1, rfl, e1⟩ | ⟨m, hm, ep, kp, hkp, ekp, rfl, e1⟩
  · rcases h2 with ⟨c2, rfl, e2⟩ | ⟨m', hm', ep', kp, ma, -, -, -, -, rfl, e2⟩
    · subst e1; subst e2; exact ⟨rfl, hI.fu⟩
    · have := nI_rng hm' (by omega) ep'
      omega
  rcases h2 with ⟨c2, rfl, e2⟩ | ⟨m', hm', ep', kp', ma, hkp', hma, ekp', ema, rfl, e2⟩
  · have := nI_rng hm (by omega) ep
    omega
  have e3 : m = m' := nI_inj (by omega) (by omega) (ep.symm.trans ep')
  subst e3
  rw [Ff _ _ (by omega) (by omega)] at ekp' ema
  obtain ⟨kq, mq, ⟨x1, x2, x3⟩, ⟨y1, y2, y3⟩, x4, x5, x6, x7⟩ := hM m hm
  have e4 : kp = kq := nI_inj (by omega) (by omega) (ekp.symm.trans x2)
  have e5 : kp' = kq := nI_inj (by omega) (by omega) (ekp'.symm.trans x3)
  have e6 : ma = mq := nI_inj (by omega) (by omega) (ema.symm.trans y3)
  subst e4; subst e5; subst e6
  have hm6 : m < 6 := by omega
  have er : ∀ p, p < np → rsM (zu Z1 113 0 (nI 0)) m kp' (nt : Int) p 0 = rsC Z m kp' (nt : Int) p 5 ∧ rsM (zu Z1 113 0 (nI 0)) m kp' (nt : Int) p 1 = rsC Z m kp' (nt : Int) p 6 ∧ rsM (zu Z1 113 0 (nI 0)) m kp' (nt : Int) p 2 = rsC Z m kp' (nt : Int) p 7 ∧ rsM (zu Z1 113 0 (nI 0)) m kp' (nt : Int) p 3 = rsC Z m kp' (nt : Int) p 9 := fun p hp => by
    unfold rsM rsC
    rw [Ff _ _ (by omega) (by omega), Ff _ _ (by omega) (by omega), Ff _ _ (by omega) (by omega), Ff _ _ (by omega) (by omega)]
    by_cases q : p < kp'
    · obtain ⟨w1, w2, w3, w4, -⟩ := x7 p q
      rw [← w1, ← w2, ← w3, ← w4]
      exact ⟨rfl, rfl, rfl, rfl⟩
    · refine ⟨?_, ?_, ?_, ?_⟩
      · show (if p < kp' then _ else nI 0) = (if p < kp' then _ else nI 0)
        rw [if_neg q, if_neg q]
      · show (if p < kp' then _ else (-1 : Int32)) = (if p < kp' then _ else -1)
        rw [if_neg q, if_neg q]
      · show (if p < kp' then _ else nI 0) = (if p < kp' then _ else nI 0)
        rw [if_neg q, if_neg q]
      · show (if p < kp' ∧ _ then _ else (-1 : Int32)) = (if p < kp' ∧ _ then _ else -1)
        rw [if_neg (fun z => q z.1), if_neg (fun z => q z.1)]
  have ec : zcn (mvM (zu Z1 113 0 (nI 0)) m kp' (nt : Int)) np = zcn (mvC Z m kp' (nt : Int)) np := zcn_congr (fun i hi => by
    unfold mvM mvC
    rw [(er i hi).1, Ff _ _ (by omega) (by omega), (hP i hi).1.2.2.1])
  have O1 : ∀ c f, c ≠ 4 → c ≠ 5 → c ≠ 6 → (c = 3 → f ≠ 3 ∧ f ≠ 4) → (11 ≤ c ∧ c < 59 ∧ (c - 11) % 4 = 0 → f ≠ 5 ∧ f ≠ 6 ∧ f ≠ 7 ∧ f ≠ 9) → Z1 c f = Z c f := fun c f q4 q5 q6 q1 q2 => by
    rw [e1, zu_o (by omega), zu_o (by omega), zcpy_o (by omega), zcpy_o (by omega), zcpy_o (by omega)]
    by_cases q3 : 11 ≤ c ∧ c < 59 ∧ (c - 11) % 4 = 0
    · rw [zpf_f (by simp; omega)]
    · rw [zpf_o (by omega)]
  have O2 : ∀ c f, c ≠ 121 → c ≠ 122 → c ≠ 123 → (c = 113 → f ≠ 0 ∧ f ≠ 13) → Z2 c f = Z1 c f := fun c f q0 q1 q2 q3 => by rw [e2, zci_o (by omega), zu_o (by omega), zci_o (by omega), zaf_o (by omega), zu_o (by omega)]
  have K : ∀ c f, c < 113 → Z2 c f = Z1 c f := fun c f q => O2 c f (by omega) (by omega) (by omega) (by omega)
  have O : ∀ c f, c ≠ 4 ∧ c ≠ 5 ∧ c ≠ 6 → (c = 3 → f ≠ 3 ∧ f ≠ 4) → (11 ≤ c ∧ c < 59 ∧ (c - 11) % 4 = 0 → f ≠ 5 ∧ f ≠ 6 ∧ f ≠ 7 ∧ f ≠ 9) → (c < 121 ∨ 123 < c) → (c = 113 → f ≠ 0 ∧ f ≠ 13) → Z2 c f = Z c f := fun c f q0 q1 q2 q3 q4 => (O2 c f (by omega) (by omega) (by omega) q4).trans (O1 c f q0.1 q0.2.1 q0.2.2 q1 q2)
  have z4 : ∀ k, k < 256 → Z2 4 k = Z (65 + 9 * m) k := fun k hk => by rw [K _ _ (by omega), e1, zu_o (by omega), zu_o (by omega), zcpy_o (by omega), zcpy_o (by omega), zcpy_i hk, zpf_o (by omega)]
  have z5 : ∀ k, k < 100 → Z2 5 k = Z (66 + 9 * m) k := fun k hk => by rw [K _ _ (by omega), e1, zu_o (by omega), zu_o (by omega), zcpy_o (by omega), zcpy_i hk, zcpy_o (by omega), zpf_o (by omega)]
  have z6 : ∀ k, k < 100 → Z2 6 k = Z (67 + 9 * m) k := fun k hk => by rw [K _ _ (by omega), e1, zu_o (by omega), zu_o (by omega), zcpy_i hk, zcpy_o (by omega), zcpy_o (by omega), zpf_o (by omega)]
  have z122 : ∀ k, k < 256 → Z2 122 k = Z 125 (256 * m + k) := fun k hk => by rw [e2, zci_o (by omega), zu_o (by omega), zci_i hk, zaf_o (by omega), Ff _ _ (by omega) (by omega)]
  have z123 : ∀ k, k < 2 * ma → Z2 123 k = Z 126 (200 * m + k) := fun k hk => by rw [e2, zci_i hk, zu_o (by omega), zci_o (by omega), zaf_o (by omega), Ff _ _ (by omega) (by omega)]
  refine ⟨congrArg nI ec.symm, np, nm, nt, ma, nd, ⟨⟨?_, ?_, n3⟩, ⟨?_, ?_, m3⟩, ⟨?_, ?_, t3, t4⟩, ⟨?_, ?_, hma⟩, ?_, ?_⟩, by omega, fun p hp => ?_, IvB_cg (fun i j _ _ => O _ _ (by omega) (by omega) (by omega) (by omega) (by omega)) hB, ⟨fun k hk => ?_, ?_, fun j hj => ?_⟩, IvD_cg (fun c f _ _ _ => O _ _ (by omega) (by omega) (by omega) (by omega) (by omega)) (fun c f _ _ => O _ _ (by omega) (by omega) (by omega) (by omega) (by omega)) (O _ _ (by omega) (by omega) (by omega) (by omega) (by omega)) (O _ _ (by omega) (by omega) (by omega) (by omega) (by omega)) hDl, IvL_cg (fun f _ => O _ _ (by omega) (by omega) (by omega) (by omega) (by omega)) (fun f _ => O _ _ (by omega) (by omega) (by omega) (by omega) (by omega)) hL, fun i hi => IvM_cg (fun c f _ _ => O _ _ (by omega) (by omega) (by omega) (by omega) (by omega)) (fun c f _ _ _ _ _ _ _ => O _ _ (by omega) (by omega) (by omega) (by omega) (by omega)) (hM i hi)⟩
  · rw [O _ _ (by omega) (by omega) (by omega) (by omega) (by omega)]; exact n1
  · rw [O _ _ (by omega) (by omega) (by omega) (by omega) (by omega)]; exact n2
  · rw [O _ _ (by omega) (by omega) (by omega) (by omega) (by omega)]; exact m1
  · rw [O _ _ (by omega) (by omega) (by omega) (by omega) (by omega)]; exact m2
  · rw [O _ _ (by omega) (by omega) (by omega) (by omega) (by omega)]; exact t1
  · rw [O _ _ (by omega) (by omega) (by omega) (by omega) (by omega)]; exact t2
  · rw [K _ _ (by omega), e1, zu_s]; exact y2
  · rw [e2, zci_o (by omega), zu_s]
  · rw [O _ _ (by omega) (by omega) (by omega) (by omega) (by omega)]; exact d1
  · rw [O _ _ (by omega) (by omega) (by omega) (by omega) (by omega)]; exact d2
  · have hp2 := hP p hp
    obtain ⟨r0, r1, r2, r3⟩ := er p hp
    have g : ∀ f, f = 5 ∨ f = 6 ∨ f = 7 ∨ f = 9 → Z2 (11 + 4 * p) f = rsC Z m kp' (nt : Int) p f := fun f hf => by rw [K _ _ (by omega), e1, zu_o (by omega), zu_o (by omega), zcpy_o (by omega), zcpy_o (by omega), zcpy_o (by omega), zpf_at hp (by rcases hf with rfl | rfl | rfl | rfl <;> simp)]
    have k : ∀ g, g < 4 → Z2 121 (12 * g + p) = rsM (zu Z1 113 0 (nI 0)) m kp' (nt : Int) p g := fun g hg => by
      rw [e2, zci_o (by omega), zu_o (by omega), zci_o (by omega), zaf_i (i := p) (g := g) rfl (by omega) hg hp (by
        match g with
        | 0 => simp
        | 1 => simp
        | 2 => simp
        | 3 => simp
        | g + 4 => omega)]
    have k0 : Z2 121 p = rsM (zu Z1 113 0 (nI 0)) m kp' (nt : Int) p 0 := by
      have q := k 0 (by omega)
      rw [show 12 * 0 + p = p by omega] at q
      exact q
    have k1 : Z2 121 (12 + p) = rsM (zu Z1 113 0 (nI 0)) m kp' (nt : Int) p 1 := k 1 (by omega)
    have k2 : Z2 121 (24 + p) = rsM (zu Z1 113 0 (nI 0)) m kp' (nt : Int) p 2 := k 2 (by omega)
    have k3 : Z2 121 (36 + p) = rsM (zu Z1 113 0 (nI 0)) m kp' (nt : Int) p 3 := k 3 (by omega)
    have v5 : ∃ q : Nat, q ≤ 40 ∧ rsC Z m kp' (nt : Int) p 5 = nI q := by
      show ∃ q : Nat, q ≤ 40 ∧ (if p < kp' then Z (60 + 9 * m) p else nI 0) = nI q
      by_cases q : p < kp'
      · rw [if_pos q]; exact (x7 p q).2.2.2.2.1
      · rw [if_neg q]; exact ⟨0, by omega, rfl⟩
    have v6 : (rsC Z m kp' (nt : Int) p 6).toInt ≤ 100000 := by
      show (if p < kp' then Z (61 + 9 * m) p else -1).toInt ≤ 100000
      by_cases q : p < kp'
      · rw [if_pos q]; exact (x7 p q).2.2.2.2.2
      · rw [if_neg q]; decide
    exact hp2.st (fun c f q1 q2 q3 => O _ _ (by omega) (by omega) (by omega) (by omega) (by omega)) (fun c j q1 q2 q3 => O _ _ (by omega) (by omega) (by omega) (by omega) (by omega)) (fun c q => O _ _ (by omega) (by omega) (by omega) (by omega) (by omega)) (hp2.x4 (O _ _ (by omega) (by omega) (by omega) (by omega) (by omega)) (O _ _ (by omega) (by omega) (by omega) (by omega) (by omega))) ⟨(g 5 (by omega)).trans (r0.symm.trans k0.symm), by rw [g 5 (by omega)]; exact v5⟩ ⟨(g 6 (by omega)).trans (r1.symm.trans k1.symm), by rw [g 6 (by omega)]; exact v6⟩ ((g 7 (by omega)).trans (r2.symm.trans k2.symm)) ((g 9 (by omega)).trans (r3.symm.trans k3.symm))
  · rw [z4 k hk, z122 k hk]; exact x5 k hk
  · rw [show Z2 3 3 = Z (64 + 9 * m) 3 by rw [K _ _ (by omega), e1, zu_o (by omega), zu_s], x4, gbz_cg (Z := Z) (Z' := Z2) (c := 65 + 9 * m) (c' := 4) z4]
  · rw [z5 j (by omega), z6 j (by omega), z123 (2 * j) (by omega), z123 (2 * j + 1) (by omega)]; exact x6 j hj
end OP4
