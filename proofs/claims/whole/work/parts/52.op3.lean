/-! lose, start, scale, clear -/
theorem zcn_inc {f g : Nat → Bool} {s : Nat} : ∀ {n : Nat}, s < n → f s = false → g s = true → (∀ i, i < n → i ≠ s → g i = f i) → zcn g n = zcn f n + 1 := by
  intro n
  induction n with
  | zero => intro h; exact absurd h (Nat.not_lt_zero s)
  | succ n ih =>
    intro hs h1 h2 h3
    by_cases e : s = n
    · subst e
      rw [zcn_t h2, zcn_f h1, zcn_congr (fun i hi => h3 i (by omega) (by omega))]
    · have h4 := ih (by omega) h1 h2 (fun i hi hne => h3 i (by omega) hne)
      have h5 := h3 n (by omega) (Ne.symm e)
      cases h6 : f n with
      | false => rw [zcn_f (h5.trans h6), zcn_f h6, h4]
      | true => rw [zcn_t (h5.trans h6), zcn_t h6, h4]
theorem zcn_zero {f : Nat → Bool} : ∀ {n : Nat}, (∀ i, i < n → f i = false) → zcn f n = 0 := by
  intro n
  induction n with
  | zero => intro _; rfl
  | succ n ih => intro h; rw [zcn_f (h n (by omega)), ih (fun i hi => h i (by omega))]
theorem bz_0 {x : Int32} (h : bz x) (h0 : x.toInt = 0) : x = nI 0 := by
  rcases h with rfl | rfl
  · rfl
  · exact absurd h0 (by decide)
theorem bz_1 {x : Int32} (h : bz x) (h0 : x.toInt ≠ 0) : x = nI 1 := by
  rcases h with rfl | rfl
  · exact absurd rfl h0
  · rfl
theorem gbz_t {Z : ZT} {c k : Nat} (h : Z c k = nI 1) : gbz Z c k = true := by
  show decide _ = true
  rw [h]; decide
theorem gbz_f {Z : ZT} {c k : Nat} (h : Z c k = nI 0) : gbz Z c k = false := by
  show decide _ = false
  rw [h]; decide
theorem gbz_e {Z Z' : ZT} {c k : Nat} (h : Z' c k = Z c k) : gbz Z' c k = gbz Z c k := by
  show decide _ = decide _
  rw [h]
section OP3
variable {d : Nat} {Z Z2 : ZT}
/-- a call that changes what is told of deliveries alone -/
theorem Inv.dels (hI : Inv d Z) (O : ∀ c f, (c = 7 → f ≠ 5) → c ≠ 8 → c ≠ 9 → c ≠ 129 → c ≠ 130 → (c = 113 → f ≠ 0) → Z2 c f = Z c f) (hD2 : IvD Z2) : Inv (d + 1) Z2 := by
  obtain ⟨np, nm, nt, na, nd, hN, hd, hP, hB, hF, hDl, hL, hM⟩ := hI
  have q := hN
  obtain ⟨⟨n1, n2, n3⟩, ⟨m1, m2, m3⟩, ⟨t1, t2, t3⟩, ⟨s1, s2, s3⟩, ⟨d1, d2⟩⟩ := q
  have o : ∀ c f, (c = 7 → f ≠ 5) ∧ c ≠ 8 ∧ c ≠ 9 ∧ c ≠ 129 ∧ c ≠ 130 ∧ (c = 113 → f ≠ 0) → Z2 c f = Z c f := fun c f q => O c f q.1 q.2.1 q.2.2.1 q.2.2.2.1 q.2.2.2.2.1 q.2.2.2.2.2
  refine ⟨np, nm, nt, na, nd, ?_, by omega, fun p hp => IvP_cg (fun c f _ _ => o c f (by omega)) (fun c j _ _ _ => o _ _ (by omega)) (fun c _ _ => o _ _ (by omega)) (o _ _ (by omega)) (o _ _ (by omega)) (o _ _ (by omega)) (hP p hp), IvB_cg (fun i j _ _ => o _ _ (by omega)) hB, IvF_cg (fun c f _ _ => o _ _ (by omega)) (fun c f _ _ => o _ _ (by omega)) hF, hD2, IvL_cg (fun f _ => o _ _ (by omega)) (fun f _ => o _ _ (by omega)) hL, fun m hm => IvM_cg (fun c f _ _ => o _ _ (by omega)) (fun c f _ _ _ _ _ _ _ => o _ _ (by omega)) (hM m hm)⟩
  unfold IvN
  rw [o 0 5 (by omega), o 113 1 (by omega), o 0 6 (by omega), o 113 14 (by omega), o 0 7 (by omega), o 113 2 (by omega), o 3 4 (by omega), o 113 13 (by omega), o 7 2 (by omega), o 113 22 (by omega)]
  exact hN
theorem op_lose (hI : Inv d Z) (hdd : d < 2 ^ 19) (p0 p1 : Int32) : OpOK yX4_lose cX4_lose 3 1 yX5_lose cX5_lose 5 1 [.int p0, .int p1] d Z := by
  have hI2 := hI
  obtain ⟨np, nm, nt, na, nd, hN, hd, hP, hB, hF, hDl, hL, hM⟩ := hI2
  obtain ⟨⟨n1, n2, n3⟩, ⟨m1, m2, m3⟩, ⟨t1, t2, t3, t4⟩, ⟨s1, s2, s3⟩, ⟨d1, d2⟩⟩ := hN
  refine ⟨_, fun l D Y b0 G hD hG => kX4_lose hD hG d1 (by omega) p0 p1, fun r1 Z1 h1 => ?_⟩
  have F : ∀ c f, 10 ≤ c → Z1 c f = Z c f := fun c f q => by
    rcases h1 with ⟨-, -, e1⟩ | ⟨a, -, -, -, ⟨-, -, e1⟩ | ⟨-, -, e1⟩ | ⟨-, -, e1⟩ | ⟨-, -, e1⟩⟩
    · rw [e1]
    · rw [e1]
    · rw [e1, zu_o (by omega), zu_o (by omega)]
    · rw [e1]
    · rw [e1, zu_o (by omega), zu_o (by omega)]
  refine ⟨_, fun l D Y b0 G hD hG => kX5_lose hD hG (md := nd) (by rw [F _ _ (by omega)]; exact d2) (by omega) p0 p1, fun r2 Z2 h2 => ?_⟩
  rcases h1 with ⟨c1, rfl, e1⟩ | ⟨a, ha, ep, hp1, h1⟩
  · rcases h2 with ⟨c2, rfl, e2⟩ | ⟨a', ha', ep', hp1', h2⟩
    · subst e1; subst e2; exact ⟨rfl, hI.fu⟩
    · have := nI_rng ha' (by decide) ep'
      omega
  rcases h2 with ⟨c2, rfl, e2⟩ | ⟨a', ha', ep', -, rfl, e2⟩
  · have := nI_rng ha (by decide) ep
    omega
  have e3 : a = a' := nI_inj (by omega) (by omega) (ep.symm.trans ep')
  subst e3
  obtain ⟨s, hs⟩ : ∃ s, s = (nd + a) % 64 := ⟨_, rfl⟩
  rw [← hs] at h1 e2
  rw [← hs]
  have hs64 : s < 64 := by omega
  obtain ⟨x1, x2, x3, x4⟩ := hDl
  obtain ⟨y1, y2, y3, y4⟩ := x1 s hs64
  rw [F 129 s (by omega), F 130 s (by omega), ← y1, ← y2] at e2
  rw [F 129 s (by omega), F 130 s (by omega), ← y1, ← y2]
  have K : ∀ c f, (c = 113 → f ≠ 0) → (c = 130 → f ≠ s) → (c = 129 → f ≠ s) → Z2 c f = Z1 c f := fun c f q1 q2 q3 => by rw [e2, zu_o (by omega), zu_o (by omega), zu_o (by omega)]
  have k129 : Z2 129 s = if (Z 8 s).toInt = 0 ∧ p1.toInt ≠ 0 then nI 0 else nI 1 := by rw [e2, zu_s]
  have k130 : Z2 130 s = if (Z 9 s).toInt = 0 ∧ p1.toInt = 0 then nI 0 else nI 1 := by rw [e2, zu_o (by omega), zu_s]
  have fin : ∀ (g8 : Z1 8 s = Z2 129 s ∧ bz (Z1 8 s)) (g9 : Z1 9 s = Z2 130 s ∧ bz (Z1 9 s)) (O1 : ∀ c f, (c = 7 → f ≠ 5) → (c = 8 → f ≠ s) → (c = 9 → f ≠ s) → Z1 c f = Z c f) (hc : Z1 7 5 = nI (zcn (gbz Z1 8) 64 + zcn (gbz Z1 9) 64)), Inv (d + 1) Z2 := by
    intro g8 g9 O1 hc
    refine hI.dels (fun c f q1 q2 q3 q4 q5 q6 => by rw [K _ _ (by omega) (by omega) (by omega), O1 _ _ (by omega) (by omega) (by omega)]) ⟨fun k hk => ?_, ?_, ?_, ?_⟩
    · rw [K 8 k (by omega) (by omega) (by omega), K 9 k (by omega) (by omega) (by omega)]
      by_cases e9 : k = s
      · subst e9
        exact ⟨g8.1, g9.1, g8.2, g9.2⟩
      · rw [K 129 k (by omega) (by omega) (by omega), K 130 k (by omega) (by omega) (by omega), O1 _ _ (by omega) (by omega) (by omega), O1 _ _ (by omega) (by omega) (by omega), O1 _ _ (by omega) (by omega) (by omega), O1 _ _ (by omega) (by omega) (by omega)]
        exact x1 k hk
    · rw [K _ _ (by omega) (by omega) (by omega), K _ _ (by omega) (by omega) (by omega), O1 _ _ (by omega) (by omega) (by omega), O1 _ _ (by omega) (by omega) (by omega)]
      exact x2
    · rw [K _ _ (by omega) (by omega) (by omega), K _ _ (by omega) (by omega) (by omega), O1 _ _ (by omega) (by omega) (by omega), O1 _ _ (by omega) (by omega) (by omega)]
      exact x3
    · rw [K _ _ (by omega) (by omega) (by omega), hc, gbz_cg (Z := Z1) (Z' := Z2) (c := 8) (c' := 8) (fun k _ => K _ _ (by omega) (by omega) (by omega)), gbz_cg (Z := Z1) (Z' := Z2) (c := 9) (c' := 9) (fun k _ => K _ _ (by omega) (by omega) (by omega))]
  rcases h1 with ⟨c1, rfl, e1⟩ | ⟨c1, rfl, e1⟩ | ⟨c1, rfl, e1⟩ | ⟨c1, rfl, e1⟩
  · subst e1
    rw [if_pos c1.1, if_neg c1.2]
    refine ⟨rfl, fin ⟨?_, y3⟩ ⟨?_, y4⟩ (fun c f _ _ _ => rfl) x4⟩
    · rw [k129, if_neg (by omega)]; exact bz_1 y3 c1.2
    · rw [k130]
      by_cases q : (Z1 9 s).toInt = 0
      · rw [if_pos ⟨q, c1.1⟩]; exact bz_0 y4 q
      · rw [if_neg (by omega)]; exact bz_1 y4 q
  · have g8 : Z1 8 s = nI 1 := by rw [e1, zu_o (by omega), zu_s]
    have O1 : ∀ c f, (c = 7 → f ≠ 5) → (c = 8 → f ≠ s) → Z1 c f = Z c f := fun c f q1 q2 => by rw [e1, zu_o (by omega), zu_o (by omega)]
    rw [if_pos c1.1, if_pos c1.2]
    refine ⟨rfl, fin ⟨?_, ?_⟩ ⟨?_, ?_⟩ (fun c f q1 q2 _ => O1 c f q1 q2) ?_⟩
    · rw [k129, if_neg (by omega)]; exact g8
    · rw [bz, g8]; exact Or.inr rfl
    · rw [k130, O1 _ _ (by omega) (by omega)]
      by_cases q : (Z 9 s).toInt = 0
      · rw [if_pos ⟨q, c1.1⟩]; exact bz_0 y4 q
      · rw [if_neg (by omega)]; exact bz_1 y4 q
    · rw [O1 _ _ (by omega) (by omega)]; exact y4
    · rw [zcn_inc (f := gbz Z 8) (g := gbz Z1 8) hs64 (gbz_f (bz_0 y3 c1.2)) (gbz_t g8) (fun i hi hne => gbz_e (O1 _ _ (by omega) (by omega))), gbz_cg (Z := Z) (Z' := Z1) (c := 9) (c' := 9) (fun k _ => O1 _ _ (by omega) (by omega)), show Z1 7 5 = Z 7 5 + nI 1 by rw [e1, zu_s], x4, nI_add]
      exact congrArg nI (by omega)
  · subst e1
    rw [if_neg c1.1, if_neg c1.2]
    refine ⟨rfl, fin ⟨?_, y3⟩ ⟨?_, y4⟩ (fun c f _ _ _ => rfl) x4⟩
    · rw [k129]
      by_cases q : (Z1 8 s).toInt = 0
      · rw [if_pos ⟨q, c1.1⟩]; exact bz_0 y3 q
      · rw [if_neg (by omega)]; exact bz_1 y3 q
    · rw [k130, if_neg (by omega)]; exact bz_1 y4 c1.2
  · have g9 : Z1 9 s = nI 1 := by rw [e1, zu_o (by omega), zu_s]
    have O1 : ∀ c f, (c = 7 → f ≠ 5) → (c = 9 → f ≠ s) → Z1 c f = Z c f := fun c f q1 q2 => by rw [e1, zu_o (by omega), zu_o (by omega)]
    rw [if_neg c1.1, if_pos c1.2]
    refine ⟨rfl, fin ⟨?_, ?_⟩ ⟨?_, ?_⟩ (fun c f q1 _ q2 => O1 c f q1 q2) ?_⟩
    · rw [k129, O1 _ _ (by omega) (by omega)]
      by_cases q : (Z 8 s).toInt = 0
      · rw [if_pos ⟨q, c1.1⟩]; exact bz_0 y3 q
      · rw [if_neg (by omega)]; exact bz_1 y3 q
    · rw [O1 _ _ (by omega) (by omega)]; exact y3
    · rw [k130, if_neg (by omega)]; exact g9
    · rw [bz, g9]; exact Or.inr rfl
    · rw [zcn_inc (f := gbz Z 9) (g := gbz Z1 9) hs64 (gbz_f (bz_0 y4 c1.2)) (gbz_t g9) (fun i hi hne => gbz_e (O1 _ _ (by omega) (by omega))), gbz_cg (Z := Z) (Z' := Z1) (c := 8) (c' := 8) (fun k _ => O1 _ _ (by omega) (by omega)), show Z1 7 5 = Z 7 5 + nI 1 by rw [e1, zu_s], x4, nI_add]
      exact congrArg nI (by omega)
theorem op_scale (hI : Inv d Z) (p0 : Int32) : OpOK yX4_scale cX4_scale 5 3 yX5_scale cX5_scale 4 2 [.int p0] d Z := by
  have hI2 := hI
  obtain ⟨np, nm, nt, na, nd, hN, hd, hP, hB, hF, hDl, hL, hM⟩ := hI2
  obtain ⟨⟨n1, n2, n3⟩, ⟨m1, m2, m3⟩, ⟨t1, t2, t3, t4⟩, ⟨s1, s2, s3⟩, ⟨d1, d2⟩⟩ := hN
  refine ⟨_, fun l D Y b0 G hD hG => kX4_scale hD hG n1 n3 (fun i hi => (hP i hi).po0) p0, fun r1 Z1 h1 => ?_⟩
  have F : ∀ c f, 59 ≤ c → Z1 c f = Z c f := fun c f q => by
    rcases h1 with ⟨-, -, e1⟩ | ⟨q', -, -, -, -, e1⟩
    · rw [e1]
    · rw [e1, zpf_o (by omega), zu_o (by omega)]
  have Ff : ∀ c f, 59 ≤ c → (c = 113 → f ≠ 0) → zu Z1 113 0 (nI 0) c f = Z c f := fun c f q1 q2 => by rw [zu_o (by omega), F c f q1]
  have hdm : ∀ i, i < np → dnM (zu Z1 113 0 (nI 0)) i = dnC Z i := fun i hi => by
    rw [(hP i hi).dn]
    show dnz _ _ _ = dnz _ _ _
    rw [Ff _ _ (by omega) (by omega), Ff _ _ (by omega) (by omega), Ff _ _ (by omega) (by omega)]
  refine ⟨_, fun l D Y b0 G hD hG => kX5_scale hD hG (Zi := Z1) (Z := zu Z1 113 0 (nI 0)) rfl (np := np) (by rw [Ff _ _ (by omega) (by omega)]; exact n2) n3 p0, fun r2 Z2 h2 => ?_⟩
  rcases h1 with ⟨c1, rfl, e1⟩ | ⟨q, hq, hq1, ep, rfl, e1⟩
  · rcases h2 with ⟨c2, rfl, e2⟩ | ⟨q', hq', hq1', ep', rfl, e2⟩
    · subst e1; subst e2; exact ⟨rfl, hI.fu⟩
    · have := nI_rng hq' (by decide) ep'
      rw [ep', nI_toInt (by omega)] at c1
      omega
  rcases h2 with ⟨c2, rfl, e2⟩ | ⟨q', hq', hq1', ep', rfl, e2⟩
  · rw [ep, nI_toInt (by omega)] at c2
    omega
  have e3 : q = q' := nI_inj (by omega) (by omega) (ep.symm.trans ep')
  subst e3
  have ec : ∀ n, n ≤ np → zcn (fun j => !dnM (zu Z1 113 0 (nI 0)) j) n = zcn (fun j => !dnC Z j) n := fun n hn => zcn_congr (fun i hi => by rw [hdm i (by omega)])
  have O1 : ∀ c f, (c = 0 → f ≠ 7) → (11 ≤ c ∧ c < 59 ∧ (c - 11) % 4 = 0 → f ≠ 9) → Z1 c f = Z c f := fun c f q1 q2 => by
    rw [e1]
    by_cases q3 : 11 ≤ c ∧ c < 59 ∧ (c - 11) % 4 = 0
    · rw [zpf_f (by simp; omega), zu_o (by omega)]
    · rw [zpf_o (by omega), zu_o (by omega)]
  have O2 : ∀ c f, (c = 113 → f ≠ 0 ∧ f ≠ 2) → (c = 121 → f < 36 ∨ 48 ≤ f) → Z2 c f = Z1 c f := fun c f q1 q2 => by
    rw [e2]
    by_cases q3 : c = 121 ∧ f < 36
    · rw [zaf_g (f / 12) rfl (by simp; omega), zu_o (by omega), zu_o (by omega)]
    · rw [zaf_o (by omega), zu_o (by omega), zu_o (by omega)]
  have O : ∀ c f, (c = 0 → f ≠ 7) → (11 ≤ c ∧ c < 59 ∧ (c - 11) % 4 = 0 → f ≠ 9) → (c = 113 → f ≠ 0 ∧ f ≠ 2) → (c = 121 → f < 36 ∨ 48 ≤ f) → Z2 c f = Z c f := fun c f q1 q2 q3 q4 => (O2 c f q3 q4).trans (O1 c f q1 q2)
  refine ⟨congrArg nI (ec np (Nat.le_refl _)).symm, np, nm, q, na, nd, ⟨⟨?_, ?_, n3⟩, ⟨?_, ?_, m3⟩, ⟨?_, ?_, by omega⟩, ⟨?_, ?_, s3⟩, ?_, ?_⟩, by omega, fun p hp => ?_, IvB_cg (fun i j _ _ => O _ _ (by omega) (by omega) (by omega) (by omega)) hB, IvF_cg (fun c f _ _ => O _ _ (by omega) (by omega) (by omega) (by omega)) (fun c f _ _ => O _ _ (by omega) (by omega) (by omega) (by omega)) hF, IvD_cg (fun c f _ _ _ => O _ _ (by omega) (by omega) (by omega) (by omega)) (fun c f _ _ => O _ _ (by omega) (by omega) (by omega) (by omega)) (O _ _ (by omega) (by omega) (by omega) (by omega)) (O _ _ (by omega) (by omega) (by omega) (by omega)) hDl, IvL_cg (fun f _ => O _ _ (by omega) (by omega) (by omega) (by omega)) (fun f _ => O _ _ (by omega) (by omega) (by omega) (by omega)) hL, fun m hm => IvM_cg (fun c f _ _ => O _ _ (by omega) (by omega) (by omega) (by omega)) (fun c f _ _ _ _ _ _ _ => O _ _ (by omega) (by omega) (by omega) (by omega)) (hM m hm)⟩
  · rw [O _ _ (by omega) (by omega) (by omega) (by omega)]; exact n1
  · rw [O _ _ (by omega) (by omega) (by omega) (by omega)]; exact n2
  · rw [O _ _ (by omega) (by omega) (by omega) (by omega)]; exact m1
  · rw [O _ _ (by omega) (by omega) (by omega) (by omega)]; exact m2
  · rw [O2 _ _ (by omega) (by omega), e1, zpf_o (by omega), zu_s]
  · rw [e2, zaf_o (by omega), zu_s]
  · rw [O _ _ (by omega) (by omega) (by omega) (by omega)]; exact s1
  · rw [O _ _ (by omega) (by omega) (by omega) (by omega)]; exact s2
  · rw [O _ _ (by omega) (by omega) (by omega) (by omega)]; exact d1
  · rw [O _ _ (by omega) (by omega) (by omega) (by omega)]; exact d2
  · have hp2 := hP p hp
    have g9 : Z2 (11 + 4 * p) 9 = scC Z q p 9 := by rw [O2 _ _ (by omega) (by omega), e1, zpf_at hp (by simp)]
    have k9 : Z2 121 (36 + p) = scM (zu Z1 113 0 (nI 0)) q p 3 := by rw [e2, zaf_i (i := p) (g := 3) (by omega) (by omega) (by omega) hp (by simp)]
    have e9 : scM (zu Z1 113 0 (nI 0)) q p 3 = scC Z q p 9 := by
      unfold scM scC
      rw [hdm p hp, ec p (by omega)]
    exact hp2.st (fun c f q1 q2 q3 => O _ _ (by omega) (by omega) (by omega) (by omega)) (fun c j q1 q2 q3 => O _ _ (by omega) (by omega) (by omega) (by omega)) (fun c q => O _ _ (by omega) (by omega) (by omega) (by omega)) (hp2.x4 (O _ _ (by omega) (by omega) (by omega) (by omega)) (O _ _ (by omega) (by omega) (by omega) (by omega))) (hp2.x5 (O _ _ (by omega) (by omega) (by omega) (by omega)) (O _ _ (by omega) (by omega) (by omega) (by omega))) (hp2.x6 (O _ _ (by omega) (by omega) (by omega) (by omega)) (O _ _ (by omega) (by omega) (by omega) (by omega))) (hp2.x7 (O _ _ (by omega) (by omega) (by omega) (by omega)) (O _ _ (by omega) (by omega) (by omega) (by omega))) (g9.trans (e9.symm.trans k9.symm))
theorem op_start (hI : Inv d Z) (p0 : Int32) : OpOK yX4_start cX4_start 4 3 yX5_start cX5_start 5 1 [.int p0] d Z := by
  have hI2 := hI
  obtain ⟨np, nm, nt, na, nd, hN, hd, hP, hB, hF, hDl, hL, hM⟩ := hI2
  obtain ⟨⟨n1, n2, n3⟩, ⟨m1, m2, m3⟩, ⟨t1, t2, t3, t4⟩, ⟨s1, s2, s3⟩, ⟨d1, d2⟩⟩ := hN
  refine ⟨_, fun l D Y b0 G hD hG => kX4_start hD hG n1 n3 (Inv.rc hP) p0, fun r1 Z1 h1 => ?_⟩
  have F : ∀ c f, 59 ≤ c → Z1 c f = Z c f := fun c f q => by
    rcases h1 with ⟨-, -, e1⟩ | ⟨-, -, e1⟩
    · rw [e1]
    · rw [e1, zpf_o (by omega), zu_o (by omega), zu_o (by omega), zfill_o (by omega)]
  have Ff : ∀ c f, 59 ≤ c → (c = 113 → f ≠ 0) → zu Z1 113 0 (nI 0) c f = Z c f := fun c f q1 q2 => by rw [zu_o (by omega), F c f q1]
  refine ⟨_, fun l D Y b0 G hD hG => kX5_start hD hG (Zi := Z1) (Z := zu Z1 113 0 (nI 0)) rfl (np := np) (rc := rcf Z) (by rw [Ff _ _ (by omega) (by omega)]; exact n2) n3 (fun i hi => by rw [Ff _ _ (by omega) (by omega)]; exact Inv.rcm hP i hi) p0, fun r2 Z2 h2 => ?_⟩
  rcases h1 with ⟨c1, rfl, e1⟩ | ⟨c1, rfl, e1⟩ <;> rcases h2 with ⟨c2, rfl, e2⟩ | ⟨c2, rfl, e2⟩ <;> first
    | (exfalso; omega)
    | (subst e1; subst e2; exact ⟨rfl, hI.fu⟩)
    | skip
  have hfp : ∀ i, i < np → fpk (fun j => zu Z1 113 0 (nI 0) 115 (40 * i + j)) p0 (rcf Z i) = fpk (Z (13 + 4 * i)) p0 (rcf Z i) := fun i hi => fpk_congr (fun j hj => by
    show zu Z1 113 0 (nI 0) 115 (40 * i + j) = _
    rw [Ff _ _ (by omega) (by omega)]
    exact ((hP i hi).rc.2.2 j hj).2.1.symm)
  have O1 : ∀ c f, c ≠ 4 → (c = 3 → f ≠ 3 ∧ f ≠ 4) → (11 ≤ c ∧ c < 59 ∧ (c - 11) % 4 = 0 → f ≠ 5 ∧ f ≠ 6 ∧ f ≠ 7) → Z1 c f = Z c f := fun c f q0 q1 q2 => by
    rw [e1]
    by_cases q3 : 11 ≤ c ∧ c < 59 ∧ (c - 11) % 4 = 0
    · rw [zpf_f (by simp; omega), zu_o (by omega), zu_o (by omega), zfill_o (by omega)]
    · rw [zpf_o (by omega), zu_o (by omega), zu_o (by omega), zfill_o (by omega)]
  have O2 : ∀ c f, c ≠ 122 → (c = 113 → f ≠ 0 ∧ f ≠ 13) → (c = 121 → 36 ≤ f) → Z2 c f = Z1 c f := fun c f q0 q1 q2 => by
    rw [e2, zu_o (by omega), zfill_o (by omega)]
    by_cases q3 : c = 121 ∧ f < 48
    · rw [zaf_g (f / 12) rfl (by simp; omega), zu_o (by omega)]
    · rw [zaf_o (by omega), zu_o (by omega)]
  have O : ∀ c f, c ≠ 4 ∧ c ≠ 122 → (c = 3 → f ≠ 3 ∧ f ≠ 4) → (11 ≤ c ∧ c < 59 ∧ (c - 11) % 4 = 0 → f ≠ 5 ∧ f ≠ 6 ∧ f ≠ 7) → (c = 113 → f ≠ 0 ∧ f ≠ 13) → (c = 121 → 36 ≤ f) → Z2 c f = Z c f := fun c f q0 q1 q2 q3 q4 => (O2 c f q0.2 q3 q4).trans (O1 c f q0.1 q1 q2)
  have z4 : ∀ k, k < 256 → Z2 4 k = nI 0 := fun k hk => by rw [O2 _ _ (by omega) (by omega) (by omega), e1, zpf_o (by omega), zu_o (by omega), zu_o (by omega), zfill_i hk]
  have z122 : ∀ k, k < 256 → Z2 122 k = nI 0 := fun k hk => by rw [e2, zu_o (by omega), zfill_i hk]
  have ec : zcn (srM (zu Z1 113 0 (nI 0)) p0 (rcf Z)) np = zcn (srC Z p0 (rcf Z)) np := zcn_congr (fun i hi => by
    unfold srM srC
    rw [hfp i hi])
  refine ⟨congrArg nI ec.symm, np, nm, nt, 0, nd, ⟨⟨?_, ?_, n3⟩, ⟨?_, ?_, m3⟩, ⟨?_, ?_, t3, t4⟩, ⟨?_, ?_, by omega⟩, ?_, ?_⟩, by omega, fun p hp => ?_, IvB_cg (fun i j _ _ => O _ _ (by omega) (by omega) (by omega) (by omega) (by omega)) hB, ⟨fun k hk => ⟨(z4 k hk).trans (z122 k hk).symm, Or.inl (z4 k hk)⟩, ?_, fun j hj => absurd hj (Nat.not_lt_zero j)⟩, IvD_cg (fun c f _ _ _ => O _ _ (by omega) (by omega) (by omega) (by omega) (by omega)) (fun c f _ _ => O _ _ (by omega) (by omega) (by omega) (by omega) (by omega)) (O _ _ (by omega) (by omega) (by omega) (by omega) (by omega)) (O _ _ (by omega) (by omega) (by omega) (by omega) (by omega)) hDl, IvL_cg (fun f _ => O _ _ (by omega) (by omega) (by omega) (by omega) (by omega)) (fun f _ => O _ _ (by omega) (by omega) (by omega) (by omega) (by omega)) hL, fun m hm => IvM_cg (fun c f _ _ => O _ _ (by omega) (by omega) (by omega) (by omega) (by omega)) (fun c f _ _ _ _ _ _ _ => O _ _ (by omega) (by omega) (by omega) (by omega) (by omega)) (hM m hm)⟩
  · rw [O _ _ (by omega) (by omega) (by omega) (by omega) (by omega)]; exact n1
  · rw [O _ _ (by omega) (by omega) (by omega) (by omega) (by omega)]; exact n2
  · rw [O _ _ (by omega) (by omega) (by omega) (by omega) (by omega)]; exact m1
  · rw [O _ _ (by omega) (by omega) (by omega) (by omega) (by omega)]; exact m2
  · rw [O _ _ (by omega) (by omega) (by omega) (by omega) (by omega)]; exact t1
  · rw [O _ _ (by omega) (by omega) (by omega) (by omega) (by omega)]; exact t2
  · rw [O2 _ _ (by omega) (by omega) (by omega), e1, zpf_o (by omega), zu_s]
  · rw [e2, zu_s]
  · rw [O _ _ (by omega) (by omega) (by omega) (by omega) (by omega)]; exact d1
  · rw [O _ _ (by omega) (by omega) (by omega) (by omega) (by omega)]; exact d2
  · have hp2 := hP p hp
    have fs := (fpk_spec (Z (13 + 4 * p)) p0 (rcf Z p)).1
    have g : ∀ f, f = 5 ∨ f = 6 ∨ f = 7 → Z2 (11 + 4 * p) f = stC Z p0 (rcf Z) p f := fun f hf => by rw [O2 _ _ (by omega) (by omega) (by omega), e1, zpf_at hp (by rcases hf with rfl | rfl | rfl <;> simp)]
    have k : ∀ g, g < 3 → Z2 121 (12 * g + p) = stM (zu Z1 113 0 (nI 0)) p0 (rcf Z) p g := fun g hg => by
      rw [e2, zu_o (by omega), zfill_o (by omega), zaf_i (i := p) (g := g) rfl (by omega) (by omega) hp (by
        match g with
        | 0 => simp
        | 1 => simp
        | 2 => simp
        | g + 3 => omega)]
    have g5 : Z2 (11 + 4 * p) 5 = nI (fpk (Z (13 + 4 * p)) p0 (rcf Z p)) := (g 5 (by omega)).trans rfl
    have k5 : Z2 121 p = nI (fpk (Z (13 + 4 * p)) p0 (rcf Z p)) := by
      have q := k 0 (by omega)
      rw [show 12 * 0 + p = p by omega] at q
      rw [q, ← hfp p hp]
      rfl
    have k6 : Z2 121 (12 + p) = -1 := k 1 (by omega)
    have k7 : Z2 121 (24 + p) = nI 0 := k 2 (by omega)
    have g6 : Z2 (11 + 4 * p) 6 = -1 := (g 6 (by omega)).trans rfl
    have g7 : Z2 (11 + 4 * p) 7 = nI 0 := (g 7 (by omega)).trans rfl
    exact hp2.st (fun c f q1 q2 q3 => O _ _ (by omega) (by omega) (by omega) (by omega) (by omega)) (fun c j q1 q2 q3 => O _ _ (by omega) (by omega) (by omega) (by omega) (by omega)) (fun c q => O _ _ (by omega) (by omega) (by omega) (by omega) (by omega)) (hp2.x4 (O _ _ (by omega) (by omega) (by omega) (by omega) (by omega)) (O _ _ (by omega) (by omega) (by omega) (by omega) (by omega))) ⟨g5.trans k5.symm, _, Nat.le_trans fs hp2.rc.2.1, g5⟩ ⟨g6.trans k6.symm, by rw [g6]; decide⟩ (g7.trans k7.symm) (hp2.x9 (O _ _ (by omega) (by omega) (by omega) (by omega) (by omega)) (O _ _ (by omega) (by omega) (by omega) (by omega) (by omega)))
  · rw [show Z2 3 3 = nI 0 by rw [O2 _ _ (by omega) (by omega) (by omega), e1, zpf_o (by omega), zu_o (by omega), zu_s], zcn_zero (fun i hi => gbz_f (z4 i hi))]
theorem op_clear (hI : Inv d Z) : OpOK yX4_clear cX4_clear 2 2 yX5_clear cX5_clear 3 1 [] d Z := by
  have hI2 := hI
  obtain ⟨np, nm, nt, na, nd, hN, hd, hP, hB, hF, hDl, hL, hM⟩ := hI2
  obtain ⟨⟨n1, n2, n3⟩, ⟨m1, m2, m3⟩, ⟨t1, t2, t3, t4⟩, ⟨s1, s2, s3⟩, ⟨d1, d2⟩⟩ := hN
  refine ⟨_, fun l D Y b0 G hD hG => kX4_clear hD hG n1 n3, fun r1 Z1 h1 => ?_⟩
  obtain ⟨rfl, e1⟩ := h1
  have F : ∀ c f, 11 ≤ c → Z1 c f = Z c f := fun c f q => by rw [e1, zfill_o (by omega), zu_o (by omega), zu_o (by omega), zu_o (by omega), zu_o (by omega), zfill_o (by omega), zfill_o (by omega), zu_o (by omega), zu_o (by omega), zfill_o (by omega), zu_o (by omega), zu_o (by omega), zu_o (by omega)]
  refine ⟨_, fun l D Y b0 G hD hG => kX5_clear hD hG (Zi := Z1) (Z := zu Z1 113 0 (nI 0)) rfl (np := np) (by rw [zu_o (by omega), F _ _ (by omega)]; exact n2) n3, fun r2 Z2 h2 => ?_⟩
  obtain ⟨rfl, e2⟩ := h2
  have z4 : ∀ k, k < 256 → Z2 4 k = nI 0 := fun k hk => by rw [e2, zfill_o (by omega), zu_o (by omega), zfill_o (by omega), zfill_o (by omega), zfill_o (by omega), zu_o (by omega), zu_o (by omega), zu_o (by omega), zu_o (by omega), zu_o (by omega), zu_o (by omega), zu_o (by omega), e1, zfill_o (by omega), zu_o (by omega), zu_o (by omega), zu_o (by omega), zu_o (by omega), zfill_o (by omega), zfill_o (by omega), zu_o (by omega), zu_o (by omega), zfill_i hk]
  have z8 : ∀ k, k < 64 → Z2 8 k = nI 0 := fun k hk => by rw [e2, zfill_o (by omega), zu_o (by omega), zfill_o (by omega), zfill_o (by omega), zfill_o (by omega), zu_o (by omega), zu_o (by omega), zu_o (by omega), zu_o (by omega), zu_o (by omega), zu_o (by omega), zu_o (by omega), e1, zfill_o (by omega), zu_o (by omega), zu_o (by omega), zu_o (by omega), zu_o (by omega), zfill_o (by omega), zfill_i hk]
  have z9 : ∀ k, k < 64 → Z2 9 k = nI 0 := fun k hk => by rw [e2, zfill_o (by omega), zu_o (by omega), zfill_o (by omega), zfill_o (by omega), zfill_o (by omega), zu_o (by omega), zu_o (by omega), zu_o (by omega), zu_o (by omega), zu_o (by omega), zu_o (by omega), zu_o (by omega), e1, zfill_o (by omega), zu_o (by omega), zu_o (by omega), zu_o (by omega), zu_o (by omega), zfill_i hk]
  have z122 : ∀ k, k < 256 → Z2 122 k = nI 0 := fun k hk => by rw [e2, zfill_o (by omega), zu_o (by omega), zfill_i hk]
  have z129 : ∀ k, k < 64 → Z2 129 k = nI 0 := fun k hk => by rw [e2, zfill_o (by omega), zu_o (by omega), zfill_o (by omega), zfill_o (by omega), zfill_i hk]
  have z130 : ∀ k, k < 64 → Z2 130 k = nI 0 := fun k hk => by rw [e2, zfill_o (by omega), zu_o (by omega), zfill_o (by omega), zfill_i hk]
  have z10 : ∀ k, k < 5 → Z2 10 k = -1 := fun k hk => by rw [e2, zfill_o (by omega), zu_o (by omega), zfill_o (by omega), zfill_o (by omega), zfill_o (by omega), zu_o (by omega), zu_o (by omega), zu_o (by omega), zu_o (by omega), zu_o (by omega), zu_o (by omega), zu_o (by omega), e1, zfill_i hk]
  have z131 : ∀ k, k < 5 → Z2 131 k = -1 := fun k hk => by rw [e2, zfill_i hk]
  refine ⟨rfl, 0, 0, 1, 0, 0, ⟨⟨by rw [e2, zfill_o (by omega), zu_o (by omega), zfill_o (by omega), zfill_o (by omega), zfill_o (by omega), zu_o (by omega), zu_o (by omega), zu_o (by omega), zu_o (by omega), zu_o (by omega), zu_o (by omega), zu_o (by omega), e1, zfill_o (by omega), zu_o (by omega), zu_o (by omega), zu_o (by omega), zu_o (by omega), zfill_o (by omega), zfill_o (by omega), zu_o (by omega), zu_o (by omega), zfill_o (by omega), zu_o (by omega), zu_o (by omega), zu_s], by rw [e2, zfill_o (by omega), zu_o (by omega), zfill_o (by omega), zfill_o (by omega), zfill_o (by omega), zu_o (by omega), zu_o (by omega), zu_o (by omega), zu_o (by omega), zu_o (by omega), zu_s], by omega⟩, ⟨by rw [e2, zfill_o (by omega), zu_o (by omega), zfill_o (by omega), zfill_o (by omega), zfill_o (by omega), zu_o (by omega), zu_o (by omega), zu_o (by omega), zu_o (by omega), zu_o (by omega), zu_o (by omega), zu_o (by omega), e1, zfill_o (by omega), zu_o (by omega), zu_o (by omega), zu_o (by omega), zu_o (by omega), zfill_o (by omega), zfill_o (by omega), zu_o (by omega), zu_o (by omega), zfill_o (by omega), zu_o (by omega), zu_s], by rw [e2, zfill_o (by omega), zu_o (by omega), zfill_o (by omega), zfill_o (by omega), zfill_o (by omega), zu_o (by omega), zu_o (by omega), zu_o (by omega), zu_s], by omega⟩, ⟨by rw [e2, zfill_o (by omega), zu_o (by omega), zfill_o (by omega), zfill_o (by omega), zfill_o (by omega), zu_o (by omega), zu_o (by omega), zu_o (by omega), zu_o (by omega), zu_o (by omega), zu_o (by omega), zu_o (by omega), e1, zfill_o (by omega), zu_o (by omega), zu_o (by omega), zu_o (by omega), zu_o (by omega), zfill_o (by omega), zfill_o (by omega), zu_o (by omega), zu_o (by omega), zfill_o (by omega), zu_s], by rw [e2, zfill_o (by omega), zu_o (by omega), zfill_o (by omega), zfill_o (by omega), zfill_o (by omega), zu_o (by omega), zu_o (by omega), zu_o (by omega), zu_o (by omega), zu_s], by omega, by omega⟩, ⟨by rw [e2, zfill_o (by omega), zu_o (by omega), zfill_o (by omega), zfill_o (by omega), zfill_o (by omega), zu_o (by omega), zu_o (by omega), zu_o (by omega), zu_o (by omega), zu_o (by omega), zu_o (by omega), zu_o (by omega), e1, zfill_o (by omega), zu_o (by omega), zu_o (by omega), zu_o (by omega), zu_o (by omega), zfill_o (by omega), zfill_o (by omega), zu_s], by rw [e2, zfill_o (by omega), zu_s], by omega⟩, by rw [e2, zfill_o (by omega), zu_o (by omega), zfill_o (by omega), zfill_o (by omega), zfill_o (by omega), zu_o (by omega), zu_o (by omega), zu_o (by omega), zu_o (by omega), zu_o (by omega), zu_o (by omega), zu_o (by omega), e1, zfill_o (by omega), zu_o (by omega), zu_o (by omega), zu_o (by omega), zu_s], by rw [e2, zfill_o (by omega), zu_o (by omega), zfill_o (by omega), zfill_o (by omega), zfill_o (by omega), zu_o (by omega), zu_o (by omega), zu_s]⟩, by omega, fun p hp => absurd hp (Nat.not_lt_zero p), IvB_cg (fun i j _ _ => by rw [e2, zfill_o (by omega), zu_o (by omega), zfill_o (by omega), zfill_o (by omega), zfill_o (by omega), zu_o (by omega), zu_o (by omega), zu_o (by omega), zu_o (by omega), zu_o (by omega), zu_o (by omega), zu_o (by omega), e1, zfill_o (by omega), zu_o (by omega), zu_o (by omega), zu_o (by omega), zu_o (by omega), zfill_o (by omega), zfill_o (by omega), zu_o (by omega), zu_o (by omega), zfill_o (by omega), zu_o (by omega), zu_o (by omega), zu_o (by omega)]) hB, ⟨fun k hk => ⟨(z4 k hk).trans (z122 k hk).symm, Or.inl (z4 k hk)⟩, ?_, fun j hj => absurd hj (Nat.not_lt_zero j)⟩, ⟨fun k hk => ⟨(z8 k hk).trans (z129 k hk).symm, (z9 k hk).trans (z130 k hk).symm, Or.inl (z8 k hk), Or.inl (z9 k hk)⟩, ?_, ?_, ?_⟩, fun k hk => (z10 k hk).trans (z131 k hk).symm, fun m hm => absurd hm (Nat.not_lt_zero m)⟩
  · rw [show Z2 3 3 = nI 0 by rw [e2, zfill_o (by omega), zu_o (by omega), zfill_o (by omega), zfill_o (by omega), zfill_o (by omega), zu_o (by omega), zu_o (by omega), zu_o (by omega), zu_o (by omega), zu_o (by omega), zu_o (by omega), zu_o (by omega), e1, zfill_o (by omega), zu_o (by omega), zu_o (by omega), zu_o (by omega), zu_o (by omega), zfill_o (by omega), zfill_o (by omega), zu_o (by omega), zu_s], zcn_zero (fun i hi => gbz_f (z4 i hi))]
  · exact (show Z2 7 3 = nI 0 by rw [e2, zfill_o (by omega), zu_o (by omega), zfill_o (by omega), zfill_o (by omega), zfill_o (by omega), zu_o (by omega), zu_o (by omega), zu_o (by omega), zu_o (by omega), zu_o (by omega), zu_o (by omega), zu_o (by omega), e1, zfill_o (by omega), zu_o (by omega), zu_o (by omega), zu_s]).trans (show Z2 113 23 = nI 0 by rw [e2, zfill_o (by omega), zu_o (by omega), zfill_o (by omega), zfill_o (by omega), zfill_o (by omega), zu_o (by omega), zu_s]).symm
  · exact (show Z2 7 4 = nI 0 by rw [e2, zfill_o (by omega), zu_o (by omega), zfill_o (by omega), zfill_o (by omega), zfill_o (by omega), zu_o (by omega), zu_o (by omega), zu_o (by omega), zu_o (by omega), zu_o (by omega), zu_o (by omega), zu_o (by omega), e1, zfill_o (by omega), zu_o (by omega), zu_s]).trans (show Z2 113 24 = nI 0 by rw [e2, zfill_o (by omega), zu_o (by omega), zfill_o (by omega), zfill_o (by omega), zfill_o (by omega), zu_s]).symm
  · rw [show Z2 7 5 = nI 0 by rw [e2, zfill_o (by omega), zu_o (by omega), zfill_o (by omega), zfill_o (by omega), zfill_o (by omega), zu_o (by omega), zu_o (by omega), zu_o (by omega), zu_o (by omega), zu_o (by omega), zu_o (by omega), zu_o (by omega), e1, zfill_o (by omega), zu_s], zcn_zero (fun i hi => gbz_f (z8 i hi)), zcn_zero (fun i hi => gbz_f (z9 i hi))]
end OP3
