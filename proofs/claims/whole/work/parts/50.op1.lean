/-! ONE CALL OF THE LAW: the class's answer is the reference's, and the invariant is kept. -/
def OpOK (y1 : MethodName) (c1 : ByteArray) (m1 lev1 : Nat) (y2 : MethodName) (c2 : ByteArray) (m2 lev2 : Nat) (as : List Value) (d : Nat) (Z : ZT) : Prop :=
  ∃ P : Int32 → ZT → Prop, (∀ (l : Launch) (D : va_G) (Y : YT) (b0 : Nat) (G : GT), GD b0 G → Gok 113 G → CI l D Y b0 G y1 c1 m1 (some .int) lev1 (.ref (G.2.1 0) :: as) Z P) ∧
    ∀ r1 Z1, P r1 Z1 → ∃ Q : Int32 → ZT → Prop, (∀ (l : Launch) (D : va_G) (Y : YT) (b0 : Nat) (G : GT), GD b0 G → Gok 132 G → CI l D Y b0 G y2 c2 m2 (some .int) lev2 (.ref (G.2.1 113) :: as) Z1 Q) ∧ ∀ r2 Z2, Q r2 Z2 → r1 = r2 ∧ Inv (d + 1) Z2
theorem Inv.fu {d : Nat} {Z : ZT} {v : Int32} (h : Inv d Z) : Inv (d + 1) (zu Z 113 0 v) := h.fault.up (Nat.le_succ d)
section OP1
variable {d : Nat} {Z : ZT}
theorem nI_rng {p n : Nat} {x : Int32} (hp : p < n) (hn : n < 2 ^ 31) (e : x = nI p) : 0 ≤ x.toInt ∧ x.toInt < (n : Int) := by
  rw [e, nI_toInt (by omega)]
  omega
theorem IvP.dn {p : Nat} (h : IvP Z p) : dnC Z p = dnM Z p := by
  obtain ⟨⟨a1, a2, a3, -⟩, -⟩ := h
  show dnz _ _ _ = dnz _ _ _
  rw [a1, a2, a3]
theorem IvP.rd {p : Nat} (h : IvP Z p) : rdC Z p = rdM Z p := by
  obtain ⟨⟨a1, a2, a3, -⟩, -⟩ := h
  show rdz _ _ = rdz _ _
  rw [a1, a3]
theorem IvP.rt {p : Nat} {t : Int32} (h : IvP Z p) : rtC Z t p = rtM Z t p := by
  obtain ⟨⟨a1, a2, a3, a4, a5, a6, a7, a8⟩, -⟩ := h
  show rtz _ _ _ _ = rtz _ _ _ _
  rw [a1, a3, a7]
theorem IvP.nc {p : Nat} {t : Int32} (h : IvP Z p) : ncC Z t p = ncM Z t p := by
  have e := h.rt (t := t)
  obtain ⟨⟨a1, a2, a3, a4, a5, a6, a7, a8⟩, -⟩ := h
  show (if rtC Z t p = true then Z (11 + 4 * p) 7 + Z (11 + 4 * p) 8 else Z (11 + 4 * p) 7) = (if rtM Z t p = true then Z 121 (24 + p) + Z 119 p else Z 121 (24 + p))
  rw [e, a5, a6]
theorem IvP.po0 {p : Nat} (h : IvP Z p) : 0 ≤ (Z (11 + 4 * p) 5).toInt := by
  obtain ⟨-, -, ⟨q, hq, e⟩, -⟩ := h
  rw [e, nI_toInt (by omega)]
  omega
theorem op_latest (hI : Inv d Z) (p0 : Int32) : OpOK yX4_latest cX4_latest 2 0 yX5_latest cX5_latest 2 1 [.int p0] d Z := by
  refine ⟨_, fun l D Y b0 G hD hG => kX4_latest hD hG p0, fun r1 Z1 h1 => ⟨_, fun l D Y b0 G hD hG => kX5_latest hD hG p0, fun r2 Z2 h2 => ?_⟩⟩
  have hI2 := hI
  obtain ⟨np, nm, nt, na, nd, hN, hd, hP, hB, hF, hDl, hL, hM⟩ := hI2
  rcases h1 with ⟨c1, rfl, rfl⟩ | ⟨j, hj, e, rfl, rfl⟩
  · rcases h2 with ⟨c2, rfl, rfl⟩ | ⟨j2, hj2, e2, rfl, rfl⟩
    · exact ⟨rfl, hI.fu⟩
    · have := nI_rng hj2 (by decide) e2
      omega
  · rcases h2 with ⟨c2, rfl, rfl⟩ | ⟨j2, hj2, e2, rfl, rfl⟩
    · have := nI_rng hj (by decide) e
      omega
    · have e3 : j = j2 := nI_inj (by omega) (by omega) (e.symm.trans e2)
      subst e3
      exact ⟨hL j hj, hI.fu⟩
theorem op_given (hI : Inv d Z) (p0 : Int32) : OpOK yX4_given cX4_given 2 2 yX5_given cX5_given 2 1 [.int p0] d Z := by
  refine ⟨_, fun l D Y b0 G hD hG => kX4_given hD hG p0, fun r1 Z1 h1 => ⟨_, fun l D Y b0 G hD hG => kX5_given hD hG p0, fun r2 Z2 h2 => ?_⟩⟩
  have hI2 := hI
  obtain ⟨np, nm, nt, na, nd, hN, hd, hP, hB, hF, hDl, hL, hM⟩ := hI2
  rcases h1 with ⟨c1, rfl, rfl⟩ | ⟨j, hj, e, rfl, rfl⟩
  · rcases h2 with ⟨c2, rfl, rfl⟩ | ⟨j2, hj2, e2, rfl, rfl⟩
    · exact ⟨rfl, hI.fu⟩
    · have := nI_rng hj2 (by decide) e2
      omega
  · rcases h2 with ⟨c2, rfl, rfl⟩ | ⟨j2, hj2, e2, rfl, rfl⟩
    · have := nI_rng hj (by decide) e
      omega
    · have e3 : j = j2 := nI_inj (by omega) (by omega) (e.symm.trans e2)
      subst e3
      exact ⟨by rw [(hF.1 j hj).1], hI.fu⟩
theorem op_aside (hI : Inv d Z) (p0 p1 : Int32) : OpOK yX4_aside cX4_aside 3 0 yX5_aside cX5_aside 3 1 [.int p0, .int p1] d Z := by
  have hI2 := hI
  obtain ⟨np, nm, nt, na, nd, hN, hd, hP, hB, hF, hDl, hL, hM⟩ := hI2
  obtain ⟨-, -, -, ⟨n1, n2, n3⟩, -⟩ := hN
  refine ⟨_, fun l D Y b0 G hD hG => kX4_aside hD hG n1 n3 p0 p1, fun r1 Z1 h1 => ?_⟩
  have e9 : Z1 = Z := by
    rcases h1 with ⟨-, -, rfl⟩ | ⟨j, -, -, ⟨-, -, rfl⟩ | ⟨-, -, rfl⟩ | ⟨-, -, rfl⟩⟩ <;> rfl
  subst e9
  refine ⟨_, fun l D Y b0 G hD hG => kX5_aside hD hG n2 n3 p0 p1, fun r2 Z2 h2 => ?_⟩
  rcases h1 with ⟨c1, rfl, -⟩ | ⟨j, hj, e, h1⟩
  · rcases h2 with ⟨c2, rfl, rfl⟩ | ⟨j2, hj2, e2, h2⟩
    · exact ⟨rfl, hI.fu⟩
    · have := nI_rng hj2 (by omega) e2
      omega
  · rcases h2 with ⟨c2, rfl, rfl⟩ | ⟨j2, hj2, e2, h2⟩
    · have := nI_rng hj (by omega) e
      omega
    · have e3 : j = j2 := nI_inj (by omega) (by omega) (e.symm.trans e2)
      subst e3
      have h3 := hF.2.2 j hj
      rcases h2 with ⟨c2, rfl, rfl⟩ | ⟨w, hw, e4, rfl, rfl⟩
      · rcases h1 with ⟨c1, rfl, -⟩ | ⟨c1, rfl, -⟩ | ⟨c1, rfl, -⟩
        · exact ⟨rfl, hI.fu⟩
        · rw [c1] at c2
          exact absurd c2 (by decide)
        · rw [c1] at c2
          exact absurd c2 (by decide)
      · rcases h1 with ⟨c1, rfl, -⟩ | ⟨c1, rfl, -⟩ | ⟨c1, rfl, -⟩
        · have := nI_rng hw (by decide) e4
          omega
        · have e5 : 0 = w := nI_inj (by decide) (by omega) (c1.symm.trans e4)
          subst e5
          exact ⟨h3.1, hI.fu⟩
        · have e5 : 1 = w := nI_inj (by decide) (by omega) (c1.symm.trans e4)
          subst e5
          exact ⟨h3.2, hI.fu⟩
theorem op_water (hI : Inv d Z) : OpOK yX4_water cX4_water 6 3 yX5_water cX5_water 4 2 [] d Z := by
  have hI2 := hI
  obtain ⟨np, nm, nt, na, nd, hN, hd, hP, hB, hF, hDl, hL, hM⟩ := hI2
  obtain ⟨⟨n1, n2, n3⟩, -⟩ := hN
  refine ⟨_, fun l D Y b0 G hD hG => kX4_water hD hG n1 n3 (fun i hi => (hP i hi).po0) (fun i hi => (hP i hi).2.2.2.2.1), fun r1 Z1 h1 => ?_⟩
  obtain ⟨rfl, h1⟩ := h1
  refine ⟨_, fun l D Y b0 G hD hG => kX5_water hD hG (Zi := Z1) (Z := zu Z1 113 0 (nI 0)) rfl (np := np) n2 n3, fun r2 Z2 h2 => ?_⟩
  obtain ⟨rfl, h2⟩ := h2
  have e1 : wlf (dnC Z1) (waC Z1) np = wlf (dnM (zu Z1 113 0 (nI 0))) (waM (zu Z1 113 0 (nI 0))) np := wlf_congr (fun i hi => (hP i hi).dn) (fun i hi => (hP i hi).1.2.2.2.1)
  have e2 : wgf (waC Z1) np = wgf (waM (zu Z1 113 0 (nI 0))) np := wgf_congr (fun i hi => (hP i hi).1.2.2.2.1)
  rw [h1, h2, e1, e2]
  exact ⟨rfl, hI.fu⟩
theorem op_told (hI : Inv d Z) (p0 p1 : Int32) : OpOK yX4_told cX4_told 4 3 yX5_told cX5_told 3 2 [.int p0, .int p1] d Z := by
  have hI2 := hI
  obtain ⟨np, nm, nt, na, nd, hN, hd, hP, hB, hF, hDl, hL, hM⟩ := hI2
  obtain ⟨⟨n1, n2, n3⟩, -⟩ := hN
  refine ⟨_, fun l D Y b0 G hD hG => kX4_told hD hG n1 n3 (fun i hi => (hP i hi).po0) p0 p1, fun r1 Z1 h1 => ?_⟩
  have e9 : Z1 = Z := by
    rcases h1 with ⟨-, -, rfl⟩ | ⟨p, -, -, h1⟩
    · rfl
    · rcases h1 with ⟨-, -, rfl⟩ | ⟨-, -, rfl⟩ | ⟨-, -, rfl⟩ | ⟨-, -, rfl⟩ | ⟨-, -, rfl⟩ | ⟨-, -, rfl⟩ | ⟨-, -, rfl⟩ | ⟨-, -, rfl⟩ | ⟨-, -, rfl⟩ | ⟨-, -, rfl⟩ | ⟨-, -, rfl⟩ <;> rfl
  subst e9
  refine ⟨_, fun l D Y b0 G hD hG => kX5_told hD hG (Zi := Z1) (Z := zu Z1 113 0 (nI 0)) rfl (np := np) n2 n3 p0 p1, fun r2 Z2 h2 => ?_⟩
  rcases h1 with ⟨c1, rfl, -⟩ | ⟨p, hp, e, h1⟩
  · rcases h2 with ⟨c2, rfl, rfl⟩ | ⟨p', hp', e', h2⟩
    · exact ⟨rfl, hI.fu⟩
    · have := nI_rng hp' (by omega) e'
      omega
  · rcases h2 with ⟨c2, rfl, rfl⟩ | ⟨p', hp', e', h2⟩
    · have := nI_rng hp (by omega) e
      omega
    · have e3 : p = p' := nI_inj (by omega) (by omega) (e.symm.trans e')
      subst e3
      have hrd := (hP p hp).rd
      have hdn := (hP p hp).dn
      obtain ⟨⟨a1, a2, a3, a4, a5, a6, a7, a8⟩, -⟩ := hP p hp
      rcases h1 with ⟨c1, rfl, -⟩ | ⟨c1, rfl, -⟩ | ⟨c1, rfl, -⟩ | ⟨c1, rfl, -⟩ | ⟨c1, rfl, -⟩ | ⟨c1, rfl, -⟩ | ⟨c1, rfl, -⟩ | ⟨c1, rfl, -⟩ | ⟨c1, rfl, -⟩ | ⟨c1, rfl, -⟩ | ⟨c1, rfl, -⟩ <;>
        rcases h2 with ⟨c2, rfl, rfl⟩ | ⟨c2, rfl, rfl⟩ | ⟨c2, rfl, rfl⟩ | ⟨c2, rfl, rfl⟩ | ⟨c2, rfl, rfl⟩ | ⟨c2, rfl, rfl⟩ | ⟨c2, rfl, rfl⟩ | ⟨c2, rfl, rfl⟩ | ⟨c2, rfl, rfl⟩ | ⟨c2, rfl, rfl⟩ | ⟨c2, rfl, rfl⟩ <;>
        first
          | exact absurd (c1.symm.trans c2) (by decide)
          | (rw [c1] at c2; exact absurd c2 (by decide))
          | (rw [c2] at c1; exact absurd c1 (by decide))
          | (refine ⟨?_, hI.fu⟩; first | exact a1 | exact a3 | exact a4 | exact a5 | exact a6 | exact a7 | exact a8 | rfl | (rw [a2]; rfl) | (rw [hrd]; rfl) | (rw [hdn]; rfl))
theorem op_count (hI : Inv d Z) (p0 : Int32) : OpOK yX4_count cX4_count 2 4 yX5_count cX5_count 4 2 [.int p0] d Z := by
  have hI2 := hI
  obtain ⟨np, nm, nt, na, nd, hN, hd, hP, hB, hF, hDl, hL, hM⟩ := hI2
  obtain ⟨⟨n1, n2, n3⟩, ⟨m1, m2, -⟩, ⟨t1, t2, -⟩, ⟨s1, s2, -⟩, ⟨d1, d2⟩⟩ := hN
  refine ⟨_, fun l D Y b0 G hD hG => kX4_count hD hG n1 n3 (fun i hi => (hP i hi).po0) p0, fun r1 Z1 h1 => ?_⟩
  have e9 : Z1 = Z := by
    rcases h1 with ⟨-, -, rfl⟩ | ⟨-, -, rfl⟩ | ⟨-, -, rfl⟩ | ⟨-, -, rfl⟩ | ⟨-, -, rfl⟩ | ⟨-, -, rfl⟩ | ⟨-, -, rfl⟩ | ⟨-, -, rfl⟩ | ⟨-, -, rfl⟩ | ⟨-, -, rfl⟩ | ⟨-, -, rfl⟩ <;> rfl
  subst e9
  refine ⟨_, fun l D Y b0 G hD hG => kX5_count hD hG (Zi := Z1) (Z := zu Z1 113 0 (nI 0)) rfl (np := np) n2 n3 p0, fun r2 Z2 h2 => ?_⟩
  have g1 : Z1 3 3 = nI (zcn (gbz (zu Z1 113 0 (nI 0)) 122) 256) := hF.2.1.trans (congrArg nI (zcn_congr (fun k hk => by show decide _ = decide _; rw [(hF.1 k hk).1]; rfl)))
  have g2 : zcn (dnC Z1) np = zcn (dnM (zu Z1 113 0 (nI 0))) np := zcn_congr (fun i hi => (hP i hi).dn)
  have g3 : Z1 7 5 = nI (zcn (gbz (zu Z1 113 0 (nI 0)) 129) 64 + zcn (gbz (zu Z1 113 0 (nI 0)) 130) 64) := by
    rw [hDl.2.2.2, zcn_congr (f := gbz Z1 8) (g := gbz (zu Z1 113 0 (nI 0)) 129) (fun k hk => by show decide _ = decide _; rw [(hDl.1 k hk).1]; rfl), zcn_congr (f := gbz Z1 9) (g := gbz (zu Z1 113 0 (nI 0)) 130) (fun k hk => by show decide _ = decide _; rw [(hDl.1 k hk).2.1]; rfl)]
  have g4 : Z1 0 7 = Z1 113 2 := t1.trans t2.symm
  have g5 : Z1 0 6 = Z1 113 14 := m1.trans m2.symm
  have g6 : Z1 7 2 = Z1 113 22 := d1.trans d2.symm
  have g7 : Z1 3 4 = Z1 113 13 := s1.trans s2.symm
  rcases h1 with ⟨c1, rfl, -⟩ | ⟨c1, rfl, -⟩ | ⟨c1, rfl, -⟩ | ⟨c1, rfl, -⟩ | ⟨c1, rfl, -⟩ | ⟨c1, rfl, -⟩ | ⟨c1, rfl, -⟩ | ⟨c1, rfl, -⟩ | ⟨c1, rfl, -⟩ | ⟨c1, rfl, -⟩ | ⟨c1, rfl, -⟩ <;>
    rcases h2 with ⟨c2, rfl, rfl⟩ | ⟨c2, rfl, rfl⟩ | ⟨c2, rfl, rfl⟩ | ⟨c2, rfl, rfl⟩ | ⟨c2, rfl, rfl⟩ | ⟨c2, rfl, rfl⟩ | ⟨c2, rfl, rfl⟩ | ⟨c2, rfl, rfl⟩ | ⟨c2, rfl, rfl⟩ | ⟨c2, rfl, rfl⟩ | ⟨c2, rfl, rfl⟩ <;>
    first
      | exact absurd (c1.symm.trans c2) (by decide)
      | (rw [c1] at c2; exact absurd c2 (by decide))
      | (rw [c2] at c1; exact absurd c1 (by decide))
      | (refine ⟨?_, hI.fu⟩; first | rfl | exact g4 | exact g5 | exact g6 | exact g7 | exact g1 | exact g3 | exact hDl.2.1 | exact hDl.2.2.1 | exact congrArg nI g2)
end OP1
