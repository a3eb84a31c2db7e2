/-! number, rate as the law calls them; the start -/
def LOK (l : Launch) (y1 : MethodName) (c1 : ByteArray) (m1 : Nat) (hh : List (Nat × Nat × Nat × Nat)) (y2 : MethodName) (c2 : ByteArray) (m2 : Nat) (as : List Value) (d : Nat) (Z : ZT) : Prop :=
  ∃ P : Int32 → ZT → Prop, (∀ (D : va_G) (Y : YT) (b0 : Nat) (G : GT), GD b0 G → Gok 133 G → CL l D Y b0 G y1 c1 m1 hh 8 (.ref (G.2.1 0) :: (as ++ [.ref (G.2.1 132)])) Z P) ∧
    ∀ k Z1, P k Z1 → ∃ Q : Int32 → ZT → Prop, (∀ (D : va_G) (Y : YT) (b0 : Nat) (G : GT), GD b0 G → Gok 132 G → CI l D Y b0 G y2 c2 m2 (some .int) 2 (.ref (G.2.1 113) :: as) Z1 Q) ∧ ∀ b Z2, Q b Z2 → Z2 113 0 = k ∧ (k.toInt = 0 → Z2 132 0 = b) ∧ Inv (d + 1) Z2
section OP6
variable {d : Nat} {Z : ZT}
theorem op_number {l : Launch} (hl0 : l.stackTraces = false) (hI : Inv d Z) (p0 p1 : Int32) : LOK l yL_number cL_number 5 hhN yX5_number cX5_number 3 [.int p0, .int p1] d Z := by
  have hI2 := hI
  obtain ⟨np, nm, nt, na, nd, hN, hd, hP, hB, hF, hDl, hL, hM⟩ := hI2
  obtain ⟨⟨n1, n2, n3⟩, ⟨m1, m2, m3⟩, ⟨t1, t2, t3, t4⟩, ⟨s1, s2, s3⟩, ⟨d1, d2⟩⟩ := hN
  refine ⟨_, fun D Y b0 G hD hG => kL_number hl0 hD hG p0 p1 (fun D1 Y1 b1 h1 => kX4_number hl0 h1 (hG.mono (by decide)) n1 n3 (rc := rcf Z) (Inv.rc hP) p0 p1) (fun nm h => h.elim (fun q => Or.inl q.1) (fun q => Or.inr q.1)), fun k Z1 h1 => ?_⟩
  have F : ∀ c f, c < 132 → Z1 c f = Z c f := fun c f q => by
    rcases h1 with ⟨v, Z9, ⟨p, -, -, q9, -, -, -, rfl⟩, -, e1⟩ | ⟨-, -, e1⟩ | ⟨-, -, e1⟩
    · rw [e1, zu_o (by omega)]
    · rw [e1]
    · rw [e1]
  refine ⟨_, fun D Y b0 G hD hG => kX5_number hD hG (np := np) (rc := rcf Z) (by rw [F _ _ (by omega)]; exact n2) n3 (fun i hi => by rw [F _ _ (by omega)]; exact Inv.rcm hP i hi) p0 p1, fun b Z2 h2 => ?_⟩
  rcases h1 with ⟨v, Z9, ⟨p, hp, ep, q, hq, eq, rfl, rfl⟩, rfl, e1⟩ | ⟨hpx, rfl, e1⟩ | ⟨hpx, rfl, e1⟩
  · have h40 := (hP p hp).rc.2.1
    rcases h2 with ⟨c2, rfl, e2⟩ | ⟨p', hp', ep', q', hq', eq', ⟨c2, rfl, e2⟩ | ⟨c2, rfl, e2⟩⟩
    · have z1 := nI_rng hp (by omega) ep
      have z2 := nI_rng hq (by omega) eq
      omega
    · have e3 : p = p' := nI_inj (by omega) (by omega) (ep.symm.trans ep')
      have e4 : q = q' := nI_inj (by omega) (by omega) (eq.symm.trans eq')
      subst e3; subst e4
      omega
    · have e3 : p = p' := nI_inj (by omega) (by omega) (ep.symm.trans ep')
      have e4 : q = q' := nI_inj (by omega) (by omega) (eq.symm.trans eq')
      subst e3; subst e4
      refine ⟨by rw [e2, zu_s], fun _ => ?_, ?_⟩
      · rw [e2, zu_o (by omega), e1, zu_s, zu_o (by omega)]
        exact ((hP p hp).rc.2.2 q hq).1
      · rw [e2, e1]; exact hI.out.fu
  · have hbad : p0.toInt < 0 ∨ (np : Int) ≤ p0.toInt ∨ p1.toInt < 0 ∨ 40 ≤ p1.toInt := by
      rcases hpx with ⟨-, h⟩ | ⟨h, -⟩
      · exact h
      · exact absurd h (by decide +kernel)
    rcases h2 with ⟨c2, rfl, e2⟩ | ⟨p', hp', ep', q', hq', eq', -⟩
    · refine ⟨by rw [e2, zu_s], fun h => absurd h (by decide), ?_⟩
      rw [e2, e1]; exact hI.fu
    · have z1 := nI_rng hp' (by omega) ep'
      have z2 := nI_rng hq' (by omega) eq'
      omega
  · obtain ⟨p, hp, ep, q, hq, eq, hrq⟩ : ∃ p : Nat, p < np ∧ p0 = nI p ∧ ∃ q : Nat, q < 40 ∧ p1 = nI q ∧ rcf Z p ≤ q := by
      rcases hpx with ⟨h, -⟩ | ⟨-, h⟩
      · exact absurd h (by decide +kernel)
      · exact h
    rcases h2 with ⟨c2, rfl, e2⟩ | ⟨p', hp', ep', q', hq', eq', ⟨c2, rfl, e2⟩ | ⟨c2, rfl, e2⟩⟩
    · have z1 := nI_rng hp (by omega) ep
      have z2 := nI_rng hq (by omega) eq
      omega
    · refine ⟨by rw [e2, zu_s], fun h => absurd h (by decide), ?_⟩
      rw [e2, e1]; exact hI.fu
    · have e3 : p = p' := nI_inj (by omega) (by omega) (ep.symm.trans ep')
      have e4 : q = q' := nI_inj (by omega) (by omega) (eq.symm.trans eq')
      subst e3; subst e4
      omega
theorem op_rate {l : Launch} (hl0 : l.stackTraces = false) (hI : Inv d Z) (p0 : Int32) : LOK l yL_rate cL_rate 4 hhR yX5_rate cX5_rate 4 [.int p0] d Z := by
  have hI2 := hI
  obtain ⟨np, nm, nt, na, nd, hN, hd, hP, hB, hF, hDl, hL, hM⟩ := hI2
  obtain ⟨⟨n1, n2, n3⟩, ⟨m1, m2, m3⟩, ⟨t1, t2, t3, t4⟩, ⟨s1, s2, s3⟩, ⟨d1, d2⟩⟩ := hN
  refine ⟨_, fun D Y b0 G hD hG => kL_rate hl0 hD hG p0 (fun D1 Y1 b1 h1 => kX4_rate hl0 h1 (hG.mono (by decide)) n1 n3 (fun i hi => (hP i hi).po0) (fun i hi => (hP i hi).2.2.2.2.2) p0) (fun nm h => h.1), fun k Z1 h1 => ?_⟩
  have F : ∀ c f, c < 132 → Z1 c f = Z c f := fun c f q => by
    rcases h1 with ⟨v, Z9, h9, -, e1⟩ | ⟨-, -, e1⟩
    · have e9 : Z9 = Z := by
        rcases h9 with ⟨-, -, e⟩ | ⟨p, -, -, -, -, e⟩ <;> exact e
      rw [e1, zu_o (by omega), e9]
    · rw [e1]
  have Ff : ∀ c f, c < 132 → (c = 113 → f ≠ 0) → zu Z1 113 0 (nI 0) c f = Z c f := fun c f q1 q2 => by rw [zu_o (by omega), F c f q1]
  refine ⟨_, fun D Y b0 G hD hG => kX5_rate hD hG (Zi := Z1) (Z := zu Z1 113 0 (nI 0)) rfl (np := np) (by rw [Ff _ _ (by omega) (by omega)]; exact n2) n3 (fun i hi => by rw [Ff _ _ (by omega) (by omega), ← (hP i hi).1.2.2.2.2.2.1]; exact (hP i hi).2.2.2.2.2) p0, fun b Z2 h2 => ?_⟩
  have E9 : ∀ p, p < np → zu Z1 113 0 (nI 0) 121 (36 + p) = Z (11 + 4 * p) 9 := fun p hp => by rw [Ff _ _ (by omega) (by omega), (hP p hp).1.2.2.2.2.2.2.1]
  have E8 : ∀ p, p < np → zu Z1 113 0 (nI 0) 119 p = Z (11 + 4 * p) 8 := fun p hp => by rw [Ff _ _ (by omega) (by omega), (hP p hp).1.2.2.2.2.2.1]
  rcases h1 with ⟨v, Z9, h9, rfl, e1⟩ | ⟨hpx, rfl, e1⟩
  · rcases h9 with ⟨c1, rfl, rfl⟩ | ⟨p, hp, ep, hre, rfl, rfl⟩
    · rcases h2 with ⟨c2, rfl, e2⟩ | ⟨p', hp', ep', -⟩
      · refine ⟨by rw [e2, zu_s], fun _ => by rw [e2, zu_o (by omega), e1, zu_s], ?_⟩
        rw [e2, e1]; exact hI.out.fu
      · have z1 := nI_rng hp' (by omega) ep'
        omega
    · rcases h2 with ⟨c2, rfl, e2⟩ | ⟨p', hp', ep', h2⟩
      · have z1 := nI_rng hp (by omega) ep
        omega
      · have e3 : p = p' := nI_inj (by omega) (by omega) (ep.symm.trans ep')
        subst e3
        rw [E9 p hp, E8 p hp] at h2
        rcases h2 with ⟨c2, rfl, e2⟩ | ⟨c2, rfl, e2⟩
        · exact absurd c2 hre
        · refine ⟨by rw [e2, zu_s], fun _ => ?_, ?_⟩
          · rw [e2, zu_o (by omega), e1, zu_s]
            have e5 : rsm (rbM (zu Z1 113 0 (nI 0)) p) (shM (zu Z1 113 0 (nI 0))) (Z9 (11 + 4 * p) 8) np = rsm (rbC Z9 p) (shC Z9) (Z9 (11 + 4 * p) 8) np := rsm_congr (fun i hi => ⟨by
              unfold rbM rbC
              rw [E9 i hi, E9 p hp, Ff _ _ (by omega) (by omega), Ff _ _ (by omega) (by omega), (hP i hi).1.1, (hP i hi).1.2.2.1], E8 i hi⟩)
            rw [← e1, e5]
          · rw [e2, e1]; exact hI.out.fu
  · obtain ⟨-, p, hp, ep, hre⟩ := hpx
    rcases h2 with ⟨c2, rfl, e2⟩ | ⟨p', hp', ep', h2⟩
    · have z1 := nI_rng hp (by omega) ep
      omega
    · have e3 : p = p' := nI_inj (by omega) (by omega) (ep.symm.trans ep')
      subst e3
      rw [E9 p hp] at h2
      rcases h2 with ⟨c2, rfl, e2⟩ | ⟨c2, rfl, e2⟩
      · refine ⟨by rw [e2, zu_s], fun h => absurd h (by decide), ?_⟩
        rw [e2, e1]; exact hI.fu.fault
      · exact absurd hre c2
end OP6
/-- all is nought -/
def z00 : ZT := fun _ _ => 0
def zB0 : ZT := (zfill (zu (zu (zu (zu (zfill (zfill (zu (zu (zfill (zu (zu (zu z00 (0) (5) (nI 0)) (0) (6) (nI 0)) (0) (7) (nI 1)) (4) (256) (nI 0)) (3) (3) (nI 0)) (3) (4) (nI 0)) (8) (64) (nI 0)) (9) (64) (nI 0)) (7) (2) (nI 0)) (7) (3) (nI 0)) (7) (4) (nI 0)) (7) (5) (nI 0)) (10) (5) (-1))
def zS0 : ZT := zfill (zu zB0 113 2 (nI 1)) 131 5 (-1)
theorem zB0_o : ∀ i, 113 ≤ i → ∀ f, zB0 i f = 0 := fun i hi f => by
  unfold zB0
  rw [zfill_o (by omega), zu_o (by omega), zu_o (by omega), zu_o (by omega), zu_o (by omega), zfill_o (by omega), zfill_o (by omega), zu_o (by omega), zu_o (by omega), zfill_o (by omega), zu_o (by omega), zu_o (by omega), zu_o (by omega)]
  rfl
theorem inv_0 : Inv 0 zS0 := by
  obtain ⟨Z, e1⟩ : ∃ z, z = zS0 := ⟨_, rfl⟩
  rw [← e1]
  unfold zS0 zB0 at e1
  have z4 : ∀ k, k < 256 → Z 4 k = nI 0 := fun k hk => by rw [e1, zfill_o (by omega), zu_o (by omega), zfill_o (by omega), zu_o (by omega), zu_o (by omega), zu_o (by omega), zu_o (by omega), zfill_o (by omega), zfill_o (by omega), zu_o (by omega), zu_o (by omega), zfill_i hk]
  have z8 : ∀ k, k < 64 → Z 8 k = nI 0 := fun k hk => by rw [e1, zfill_o (by omega), zu_o (by omega), zfill_o (by omega), zu_o (by omega), zu_o (by omega), zu_o (by omega), zu_o (by omega), zfill_o (by omega), zfill_i hk]
  have z9 : ∀ k, k < 64 → Z 9 k = nI 0 := fun k hk => by rw [e1, zfill_o (by omega), zu_o (by omega), zfill_o (by omega), zu_o (by omega), zu_o (by omega), zu_o (by omega), zu_o (by omega), zfill_i hk]
  have z122 : ∀ k, k < 256 → Z 122 k = nI 0 := fun k hk => by rw [e1, zfill_o (by omega), zu_o (by omega), zfill_o (by omega), zu_o (by omega), zu_o (by omega), zu_o (by omega), zu_o (by omega), zfill_o (by omega), zfill_o (by omega), zu_o (by omega), zu_o (by omega), zfill_o (by omega), zu_o (by omega), zu_o (by omega), zu_o (by omega)]; rfl
  have z129 : ∀ k, k < 64 → Z 129 k = nI 0 := fun k hk => by rw [e1, zfill_o (by omega), zu_o (by omega), zfill_o (by omega), zu_o (by omega), zu_o (by omega), zu_o (by omega), zu_o (by omega), zfill_o (by omega), zfill_o (by omega), zu_o (by omega), zu_o (by omega), zfill_o (by omega), zu_o (by omega), zu_o (by omega), zu_o (by omega)]; rfl
  have z130 : ∀ k, k < 64 → Z 130 k = nI 0 := fun k hk => by rw [e1, zfill_o (by omega), zu_o (by omega), zfill_o (by omega), zu_o (by omega), zu_o (by omega), zu_o (by omega), zu_o (by omega), zfill_o (by omega), zfill_o (by omega), zu_o (by omega), zu_o (by omega), zfill_o (by omega), zu_o (by omega), zu_o (by omega), zu_o (by omega)]; rfl
  have z10 : ∀ k, k < 5 → Z 10 k = -1 := fun k hk => by rw [e1, zfill_o (by omega), zu_o (by omega), zfill_i hk]
  have z131 : ∀ k, k < 5 → Z 131 k = -1 := fun k hk => by rw [e1, zfill_i hk]
  refine ⟨0, 0, 1, 0, 0, ⟨⟨(by rw [e1, zfill_o (by omega), zu_o (by omega), zfill_o (by omega), zu_o (by omega), zu_o (by omega), zu_o (by omega), zu_o (by omega), zfill_o (by omega), zfill_o (by omega), zu_o (by omega), zu_o (by omega), zfill_o (by omega), zu_o (by omega), zu_o (by omega), zu_s]), (by rw [e1, zfill_o (by omega), zu_o (by omega), zfill_o (by omega), zu_o (by omega), zu_o (by omega), zu_o (by omega), zu_o (by omega), zfill_o (by omega), zfill_o (by omega), zu_o (by omega), zu_o (by omega), zfill_o (by omega), zu_o (by omega), zu_o (by omega), zu_o (by omega)]; rfl), by omega⟩, ⟨(by rw [e1, zfill_o (by omega), zu_o (by omega), zfill_o (by omega), zu_o (by omega), zu_o (by omega), zu_o (by omega), zu_o (by omega), zfill_o (by omega), zfill_o (by omega), zu_o (by omega), zu_o (by omega), zfill_o (by omega), zu_o (by omega), zu_s]), (by rw [e1, zfill_o (by omega), zu_o (by omega), zfill_o (by omega), zu_o (by omega), zu_o (by omega), zu_o (by omega), zu_o (by omega), zfill_o (by omega), zfill_o (by omega), zu_o (by omega), zu_o (by omega), zfill_o (by omega), zu_o (by omega), zu_o (by omega), zu_o (by omega)]; rfl), by omega⟩, ⟨(by rw [e1, zfill_o (by omega), zu_o (by omega), zfill_o (by omega), zu_o (by omega), zu_o (by omega), zu_o (by omega), zu_o (by omega), zfill_o (by omega), zfill_o (by omega), zu_o (by omega), zu_o (by omega), zfill_o (by omega), zu_s]), (by rw [e1, zfill_o (by omega), zu_s]), by omega, by omega⟩, ⟨(by rw [e1, zfill_o (by omega), zu_o (by omega), zfill_o (by omega), zu_o (by omega), zu_o (by omega), zu_o (by omega), zu_o (by omega), zfill_o (by omega), zfill_o (by omega), zu_s]), (by rw [e1, zfill_o (by omega), zu_o (by omega), zfill_o (by omega), zu_o (by omega), zu_o (by omega), zu_o (by omega), zu_o (by omega), zfill_o (by omega), zfill_o (by omega), zu_o (by omega), zu_o (by omega), zfill_o (by omega), zu_o (by omega), zu_o (by omega), zu_o (by omega)]; rfl), by omega⟩, (by rw [e1, zfill_o (by omega), zu_o (by omega), zfill_o (by omega), zu_o (by omega), zu_o (by omega), zu_o (by omega), zu_s]), (by rw [e1, zfill_o (by omega), zu_o (by omega), zfill_o (by omega), zu_o (by omega), zu_o (by omega), zu_o (by omega), zu_o (by omega), zfill_o (by omega), zfill_o (by omega), zu_o (by omega), zu_o (by omega), zfill_o (by omega), zu_o (by omega), zu_o (by omega), zu_o (by omega)]; rfl)⟩, by omega, fun p hp => absurd hp (Nat.not_lt_zero p), fun i hi j hj => Or.inl ((by rw [e1, zfill_o (by omega), zu_o (by omega), zfill_o (by omega), zu_o (by omega), zu_o (by omega), zu_o (by omega), zu_o (by omega), zfill_o (by omega), zfill_o (by omega), zu_o (by omega), zu_o (by omega), zfill_o (by omega), zu_o (by omega), zu_o (by omega), zu_o (by omega)]; rfl)), ⟨fun k hk => ⟨(z4 k hk).trans (z122 k hk).symm, Or.inl (z4 k hk)⟩, ?_, fun j hj => absurd hj (Nat.not_lt_zero j)⟩, ⟨fun k hk => ⟨(z8 k hk).trans (z129 k hk).symm, (z9 k hk).trans (z130 k hk).symm, Or.inl (z8 k hk), Or.inl (z9 k hk)⟩, ?_, ?_, ?_⟩, fun k hk => (z10 k hk).trans (z131 k hk).symm, fun m hm => absurd hm (Nat.not_lt_zero m)⟩
  · rw [show Z 3 3 = nI 0 from (by rw [e1, zfill_o (by omega), zu_o (by omega), zfill_o (by omega), zu_o (by omega), zu_o (by omega), zu_o (by omega), zu_o (by omega), zfill_o (by omega), zfill_o (by omega), zu_o (by omega), zu_s]), zcn_zero (fun i hi => gbz_f (z4 i hi))]
  · exact (show Z 7 3 = nI 0 from (by rw [e1, zfill_o (by omega), zu_o (by omega), zfill_o (by omega), zu_o (by omega), zu_o (by omega), zu_s])).trans (show Z 113 23 = nI 0 from (by rw [e1, zfill_o (by omega), zu_o (by omega), zfill_o (by omega), zu_o (by omega), zu_o (by omega), zu_o (by omega), zu_o (by omega), zfill_o (by omega), zfill_o (by omega), zu_o (by omega), zu_o (by omega), zfill_o (by omega), zu_o (by omega), zu_o (by omega), zu_o (by omega)]; rfl)).symm
  · exact (show Z 7 4 = nI 0 from (by rw [e1, zfill_o (by omega), zu_o (by omega), zfill_o (by omega), zu_o (by omega), zu_s])).trans (show Z 113 24 = nI 0 from (by rw [e1, zfill_o (by omega), zu_o (by omega), zfill_o (by omega), zu_o (by omega), zu_o (by omega), zu_o (by omega), zu_o (by omega), zfill_o (by omega), zfill_o (by omega), zu_o (by omega), zu_o (by omega), zfill_o (by omega), zu_o (by omega), zu_o (by omega), zu_o (by omega)]; rfl)).symm
  · rw [show Z 7 5 = nI 0 from (by rw [e1, zfill_o (by omega), zu_o (by omega), zfill_o (by omega), zu_s]), zcn_zero (fun i hi => gbz_f (z8 i hi)), zcn_zero (fun i hi => gbz_f (z9 i hi))]
