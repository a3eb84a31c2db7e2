/-! read -/
theorem tb_dec {Z Z' : ZT} {c s m : Nat} (hs : s < 64) (hb : bz (Z c s)) (h0 : Z' c s = nI 0) (ho : ∀ k, k ≠ s → Z' c k = Z c k) : nI (zcn (gbz Z c) 64 + m) - tbz (Z c s) = nI (zcn (gbz Z' c) 64 + m) := by
  rcases hb with e | e
  · rw [e, show tbz 0 = nI 0 from rfl, pk_sub (Nat.zero_le _), zcn_congr (f := gbz Z' c) (g := gbz Z c) (fun i hi => ?_)]
    · rfl
    · by_cases q : i = s
      · subst q
        exact gbz_e (h0.trans e.symm)
      · exact gbz_e (ho i q)
  · rw [e, show tbz 1 = nI 1 from rfl, zcn_inc (f := gbz Z' c) (g := gbz Z c) hs (gbz_f h0) (gbz_t e) (fun i hi q => (gbz_e (ho i q)).symm), pk_sub (by omega)]
    exact congrArg nI (by omega)
section OP5
variable {d : Nat} {Z Z2 : ZT}
/-- a call that changes the credits alone -/
theorem Inv.cred {ZI : ZT} (hI : Inv d Z) (O : ∀ a b, (11 ≤ a ∧ a < 59 ∧ (a - 11) % 4 = 0 → b ≠ 7) → (a = 121 → b < 24 ∨ 36 ≤ b) → (a = 113 → b ≠ 0) → a < 132 → ZI a b = Z a b) (h7 : ∀ n p, Z 0 5 = nI n → n ≤ 12 → p < n → ZI (11 + 4 * p) 7 = ZI 121 (24 + p)) : Inv d ZI := by
  have hI2 := hI
  obtain ⟨np, nm, nt, na, nd, hN, hd, hP, hB, hF, hDl, hL, hM⟩ := hI2
  obtain ⟨⟨n1, n2, n3⟩, ⟨m1, m2, m3⟩, ⟨t1, t2, t3, t4⟩, ⟨s1, s2, s3⟩, ⟨d1, d2⟩⟩ := hN
  refine ⟨np, nm, nt, na, nd, ⟨⟨?_, ?_, n3⟩, ⟨?_, ?_, m3⟩, ⟨?_, ?_, t3, t4⟩, ⟨?_, ?_, s3⟩, ?_, ?_⟩, hd, fun p hp => ?_, IvB_cg (fun i j _ _ => O _ _ (by omega) (by omega) (by omega) (by omega)) hB, IvF_cg (fun c f _ _ => O _ _ (by omega) (by omega) (by omega) (by omega)) (fun c f _ _ => O _ _ (by omega) (by omega) (by omega) (by omega)) hF, IvD_cg (fun c f _ _ _ => O _ _ (by omega) (by omega) (by omega) (by omega)) (fun c f _ _ => O _ _ (by omega) (by omega) (by omega) (by omega)) (O _ _ (by omega) (by omega) (by omega) (by omega)) (O _ _ (by omega) (by omega) (by omega) (by omega)) hDl, IvL_cg (fun f _ => O _ _ (by omega) (by omega) (by omega) (by omega)) (fun f _ => O _ _ (by omega) (by omega) (by omega) (by omega)) hL, fun m hm => IvM_cg (fun c f _ _ => O _ _ (by omega) (by omega) (by omega) (by omega)) (fun c f _ _ _ _ _ _ _ => O _ _ (by omega) (by omega) (by omega) (by omega)) (hM m hm)⟩
  · rw [O _ _ (by omega) (by omega) (by omega) (by omega)]; exact n1
  · rw [O _ _ (by omega) (by omega) (by omega) (by omega)]; exact n2
  · rw [O _ _ (by omega) (by omega) (by omega) (by omega)]; exact m1
  · rw [O _ _ (by omega) (by omega) (by omega) (by omega)]; exact m2
  · rw [O _ _ (by omega) (by omega) (by omega) (by omega)]; exact t1
  · rw [O _ _ (by omega) (by omega) (by omega) (by omega)]; exact t2
  · rw [O _ _ (by omega) (by omega) (by omega) (by omega)]; exact s1
  · rw [O _ _ (by omega) (by omega) (by omega) (by omega)]; exact s2
  · rw [O _ _ (by omega) (by omega) (by omega) (by omega)]; exact d1
  · rw [O _ _ (by omega) (by omega) (by omega) (by omega)]; exact d2
  · have hp2 := hP p hp
    exact hp2.st (fun c f q1 q2 q3 => O _ _ (by omega) (by omega) (by omega) (by omega)) (fun c j q1 q2 q3 => O _ _ (by omega) (by omega) (by omega) (by omega)) (fun c q => O _ _ (by omega) (by omega) (by omega) (by omega)) (hp2.x4 (O _ _ (by omega) (by omega) (by omega) (by omega)) (O _ _ (by omega) (by omega) (by omega) (by omega))) (hp2.x5 (O _ _ (by omega) (by omega) (by omega) (by omega)) (O _ _ (by omega) (by omega) (by omega) (by omega))) (hp2.x6 (O _ _ (by omega) (by omega) (by omega) (by omega)) (O _ _ (by omega) (by omega) (by omega) (by omega))) (h7 np p n1 n3 hp) (hp2.x9 (O _ _ (by omega) (by omega) (by omega) (by omega)) (O _ _ (by omega) (by omega) (by omega) (by omega)))
theorem Inv.rdx {ZI : ZT} {c s np nm nt na nd na' : Nat} (hN : IvN ZI np nm nt na nd) (hd : nd ≤ d) (hP : ∀ p, p < np → IvP ZI p) (hB : IvB ZI) (hDl : IvD ZI) (hM : ∀ m, m < nm → IvM ZI m) (hs : s < 64) (hc : c < np)
    (O : ∀ a b, (a = 7 → b < 2 ∨ 5 < b) → (a = 8 ∨ a = 9 ∨ a = 129 ∨ a = 130 → b ≠ s) → (a ≠ 10 ∧ a ≠ 131) → (a = 113 → b ≠ 0 ∧ b ≠ 13 ∧ b ≠ 22 ∧ b ≠ 23 ∧ b ≠ 24) → (a < 3 ∨ 6 < a) → (a ≠ 122 ∧ a ≠ 123) → (a = 11 + 4 * c → b ≠ 5 ∧ b ≠ 6) → (a = 121 → b ≠ c ∧ b ≠ 12 + c) → Z2 a b = ZI a b) (z72 : Z2 7 2 = nI (nd + 1)) (m22 : Z2 113 22 = nI (nd + 1)) (z8 : Z2 8 s = nI 0) (z9 : Z2 9 s = nI 0) (z129 : Z2 129 s = nI 0) (z130 : Z2 130 s = nI 0) (z75 : Z2 7 5 = ZI 7 5 - tbz (ZI 8 s) - tbz (ZI 9 s)) (L : IvL Z2) (x73 : Z2 7 3 = Z2 113 23) (x74 : Z2 7 4 = Z2 113 24) (s1' : Z2 3 4 = nI na') (s2' : Z2 113 13 = nI na') (s3' : na' ≤ 100) (hF' : IvF Z2 na')
    (x5 : Z2 (11 + 4 * c) 5 = Z2 121 c ∧ ∃ q : Nat, q ≤ 40 ∧ Z2 (11 + 4 * c) 5 = nI q) (x6 : Z2 (11 + 4 * c) 6 = Z2 121 (12 + c) ∧ (Z2 (11 + 4 * c) 6).toInt ≤ 100000) : Inv (d + 1) Z2 := by
  obtain ⟨⟨n1, n2, n3⟩, ⟨m1, m2, m3⟩, ⟨t1, t2, t3, t4⟩, -, -⟩ := hN
  obtain ⟨y1, -, -, y4⟩ := hDl
  refine ⟨np, nm, nt, na', nd + 1, ⟨⟨?_, ?_, n3⟩, ⟨?_, ?_, m3⟩, ⟨?_, ?_, t3, t4⟩, ⟨s1', s2', s3'⟩, z72, m22⟩, by omega, fun p hp => ?_, IvB_cg (fun i j _ _ => O _ _ (by omega) (by omega) (by omega) (by omega) (by omega) (by omega) (by omega) (by omega)) hB, hF', ⟨fun k hk => ?_, x73, x74, ?_⟩, L, fun m hm => IvM_cg (fun c f _ _ => O _ _ (by omega) (by omega) (by omega) (by omega) (by omega) (by omega) (by omega) (by omega)) (fun c f _ _ _ _ _ _ _ => O _ _ (by omega) (by omega) (by omega) (by omega) (by omega) (by omega) (by omega) (by omega)) (hM m hm)⟩
  · rw [O _ _ (by omega) (by omega) (by omega) (by omega) (by omega) (by omega) (by omega) (by omega)]; exact n1
  · rw [O _ _ (by omega) (by omega) (by omega) (by omega) (by omega) (by omega) (by omega) (by omega)]; exact n2
  · rw [O _ _ (by omega) (by omega) (by omega) (by omega) (by omega) (by omega) (by omega) (by omega)]; exact m1
  · rw [O _ _ (by omega) (by omega) (by omega) (by omega) (by omega) (by omega) (by omega) (by omega)]; exact m2
  · rw [O _ _ (by omega) (by omega) (by omega) (by omega) (by omega) (by omega) (by omega) (by omega)]; exact t1
  · rw [O _ _ (by omega) (by omega) (by omega) (by omega) (by omega) (by omega) (by omega) (by omega)]; exact t2
  · have hp2 := hP p hp
    by_cases e9 : p = c
    · subst e9
      exact hp2.st (fun a f q1 q2 q3 => O _ _ (by omega) (by omega) (by omega) (by omega) (by omega) (by omega) (by omega) (by omega)) (fun a j q1 q2 q3 => O _ _ (by omega) (by omega) (by omega) (by omega) (by omega) (by omega) (by omega) (by omega)) (fun a q => O _ _ (by omega) (by omega) (by omega) (by omega) (by omega) (by omega) (by omega) (by omega)) (hp2.x4 (O _ _ (by omega) (by omega) (by omega) (by omega) (by omega) (by omega) (by omega) (by omega)) (O _ _ (by omega) (by omega) (by omega) (by omega) (by omega) (by omega) (by omega) (by omega))) x5 x6 (hp2.x7 (O _ _ (by omega) (by omega) (by omega) (by omega) (by omega) (by omega) (by omega) (by omega)) (O _ _ (by omega) (by omega) (by omega) (by omega) (by omega) (by omega) (by omega) (by omega))) (hp2.x9 (O _ _ (by omega) (by omega) (by omega) (by omega) (by omega) (by omega) (by omega) (by omega)) (O _ _ (by omega) (by omega) (by omega) (by omega) (by omega) (by omega) (by omega) (by omega)))
    · exact IvP_cg (fun a f q1 q2 => O _ _ (by omega) (by omega) (by omega) (by omega) (by omega) (by omega) (by omega) (by omega)) (fun a j q1 q2 q3 => O _ _ (by omega) (by omega) (by omega) (by omega) (by omega) (by omega) (by omega) (by omega)) (fun a q1 q2 => O _ _ (by omega) (by omega) (by omega) (by omega) (by omega) (by omega) (by omega) (by omega)) (O _ _ (by omega) (by omega) (by omega) (by omega) (by omega) (by omega) (by omega) (by omega)) (O _ _ (by omega) (by omega) (by omega) (by omega) (by omega) (by omega) (by omega) (by omega)) (O _ _ (by omega) (by omega) (by omega) (by omega) (by omega) (by omega) (by omega) (by omega)) hp2
  · by_cases e9 : k = s
    · subst e9
      exact ⟨z8.trans z129.symm, z9.trans z130.symm, Or.inl z8, Or.inl z9⟩
    · rw [O 8 k (by omega) (by omega) (by omega) (by omega) (by omega) (by omega) (by omega) (by omega), O 9 k (by omega) (by omega) (by omega) (by omega) (by omega) (by omega) (by omega) (by omega), O 129 k (by omega) (by omega) (by omega) (by omega) (by omega) (by omega) (by omega) (by omega), O 130 k (by omega) (by omega) (by omega) (by omega) (by omega) (by omega) (by omega) (by omega)]
      exact y1 k hk
  · rw [z75, y4, tb_dec (Z := ZI) (Z' := Z2) (c := 8) hs (y1 s hs).2.2.1 z8 (fun k hk => O _ _ (by omega) (by omega) (by omega) (by omega) (by omega) (by omega) (by omega) (by omega)), Nat.add_comm, tb_dec (Z := ZI) (Z' := Z2) (c := 9) hs (y1 s hs).2.2.2 z9 (fun k hk => O _ _ (by omega) (by omega) (by omega) (by omega) (by omega) (by omega) (by omega) (by omega))]
    exact congrArg nI (Nat.add_comm _ _)
set_option maxHeartbeats 4000000 in
theorem op_read (hI : Inv d Z) (hdd : d < 2 ^ 19) (p0 : Int32) : OpOK yX4_read cX4_read 3 4 yX5_read cX5_read 7 2 [.int p0] d Z := by
  have hI2 := hI
  obtain ⟨np, nm, nt, na, nd, hN, hd, hP, hB, hF, hDl, hL, hM⟩ := hI2
  obtain ⟨⟨n1, n2, n3⟩, ⟨m1, m2, m3⟩, ⟨t1, t2, t3, t4⟩, ⟨s1, s2, s3⟩, ⟨d1, d2⟩⟩ := hN
  refine ⟨_, fun l D Y b0 G hD hG => kX4_read hD hG n1 n3 (ntI := (nt : Int)) t1 (nI_toInt (by omega)) (rc := rcf Z) (Inv.rc hP) (po := pof Z) (fun i hi => (hP i hi).po.1) (fun i hi => (hP i hi).po.2) (nu := nuf Z) (fun i hi j hj => ((hP i hi).rc.2.2 j hj).nu) d1 (by omega) s1 s3 p0, fun r1 Z1 h1 => ?_⟩
  have F : ∀ a b, 59 ≤ a → Z1 a b = Z a b := fun a b q => by
    rcases h1 with ⟨-, -, e1⟩ | ⟨-, -, -, e1⟩ | ⟨-, c, hb, h1⟩
    · rw [e1]
    · rw [e1, zpf_o (by omega)]
    · have hc := (nxb_spec hb).1
      rcases h1 with ⟨-, -, e1⟩ | ⟨-, -, e1⟩ | ⟨-, -, e1⟩ | ⟨-, -, e1⟩ | ⟨-, -, e1⟩ | ⟨-, -, e1⟩
      · rw [e1, zu_o (by omega), zu_o (by omega), zu_o (by omega), zu_o (by omega), zu_o (by omega), zu_o (by omega), zu_o (by omega), zu_o (by omega), zu_o (by omega), zu_o (by omega), zu_o (by omega), zu_o (by omega), zpf_o (by omega)]
      · rw [e1, zu_o (by omega), zu_o (by omega), zu_o (by omega), zu_o (by omega), zu_o (by omega), zu_o (by omega), zu_o (by omega), zu_o (by omega), zu_o (by omega), zu_o (by omega), zu_o (by omega), zu_o (by omega), zu_o (by omega), zu_o (by omega), zu_o (by omega), zu_o (by omega), zpf_o (by omega)]
      · rw [e1, zu_o (by omega), zu_o (by omega), zu_o (by omega), zu_o (by omega), zu_o (by omega), zu_o (by omega), zu_o (by omega), zu_o (by omega), zu_o (by omega), zu_o (by omega), zu_o (by omega), zu_o (by omega), zu_o (by omega), zpf_o (by omega)]
      · rw [e1, zu_o (by omega), zu_o (by omega), zu_o (by omega), zu_o (by omega), zu_o (by omega), zu_o (by omega), zu_o (by omega), zu_o (by omega), zu_o (by omega), zu_o (by omega), zu_o (by omega), zu_o (by omega), zu_o (by omega), zu_o (by omega), zpf_o (by omega)]
      · rw [e1, zu_o (by omega), zu_o (by omega), zu_o (by omega), zu_o (by omega), zu_o (by omega), zu_o (by omega), zu_o (by omega), zu_o (by omega), zu_o (by omega), zu_o (by omega), zu_o (by omega), zu_o (by omega), zu_o (by omega), zu_o (by omega), zu_o (by omega), zpf_o (by omega)]
      · rw [e1, zu_o (by omega), zu_o (by omega), zu_o (by omega), zu_o (by omega), zu_o (by omega), zu_o (by omega), zu_o (by omega), zu_o (by omega), zu_o (by omega), zu_o (by omega), zu_o (by omega), zu_o (by omega), zu_o (by omega), zpf_o (by omega)]
  have Ff : ∀ a b, 59 ≤ a → (a = 113 → b ≠ 0) → zu Z1 113 0 (nI 0) a b = Z a b := fun a b q1 q2 => by rw [zu_o (by omega), F a b q1]
  refine ⟨_, fun l D Y b0 G hD hG => kX5_read hD hG (Zi := Z1) (Z := zu Z1 113 0 (nI 0)) rfl (np := np) (nt := nt) (rc := rcf Z) (po := pof Z) (nu := nuf Z) (md := nd) (na := na) (by rw [Ff _ _ (by omega) (by omega)]; exact n2) n3 (by rw [Ff _ _ (by omega) (by omega)]; exact t2) t4 (fun i hi => by rw [Ff _ _ (by omega) (by omega)]; exact Inv.rcm hP i hi) (fun i hi => by rw [Ff _ _ (by omega) (by omega), ← (hP i hi).1.2.2.1]; exact (hP i hi).po.1) (fun i hi => (hP i hi).po.2) (fun i hi j hj => by rw [Ff _ _ (by omega) (by omega), ← ((hP i hi).rc.2.2 j hj).1]; exact ((hP i hi).rc.2.2 j hj).nu) (by rw [Ff _ _ (by omega) (by omega)]; exact d2) (by omega) (by rw [Ff _ _ (by omega) (by omega)]; exact s2) s3 p0, fun r2 Z2 h2 => ?_⟩
  have hrt : ∀ i, i < np → rtM (zu Z1 113 0 (nI 0)) p0 i = rtC Z p0 i := fun i hi => by
    rw [(hP i hi).rt]
    show rtz _ _ _ _ = rtz _ _ _ _
    rw [Ff _ _ (by omega) (by omega), Ff _ _ (by omega) (by omega), Ff _ _ (by omega) (by omega)]
  have hnc : ∀ i, i < np → ncM (zu Z1 113 0 (nI 0)) p0 i = ncC Z p0 i := fun i hi => by
    rw [(hP i hi).nc]
    unfold ncM
    rw [hrt i hi, (hP i hi).rt, Ff _ _ (by omega) (by omega), Ff _ _ (by omega) (by omega)]
  have hsh : ∀ i, i < np → shM (zu Z1 113 0 (nI 0)) i = shC Z i := fun i hi => by
    show zu Z1 113 0 (nI 0) 119 i = Z (11 + 4 * i) 8
    rw [Ff _ _ (by omega) (by omega), (hP i hi).1.2.2.2.2.2.1]
  rw [nxb_congr hrt hnc, nxs_congr hrt hsh] at h2
  rcases h1 with ⟨c1, rfl, e1⟩ | ⟨c1, hb, rfl, e1⟩ | ⟨c1, c, hb, h1⟩ <;> rcases h2 with ⟨c2, rfl, e2⟩ | ⟨c2, hb2, rfl, e2⟩ | ⟨c2, c', ZB, hb2, eB, h2⟩ <;> first
    | (exfalso; omega)
    | (subst e1; subst e2; exact ⟨rfl, hI.fu⟩)
    | (rw [hb] at hb2; cases hb2; done)
    | skip
  · refine ⟨rfl, (hI.cred (ZI := Z2) (fun a b q1 q2 q3 q4 => ?_) (fun n p hn hn12 hp => ?_)).up (Nat.le_succ d)⟩
    · rw [e2]
      have e8 : zaf (zu Z1 113 0 (nI 0)) np (fun i _ => ncM (zu Z1 113 0 (nI 0)) p0 i) [2] a b = zu Z1 113 0 (nI 0) a b := by
        by_cases q5 : a = 121 ∧ b < 48
        · exact zaf_g (b / 12) rfl (by simp; omega)
        · exact zaf_o (by omega)
      rw [e8, zu_o (by omega), e1]
      by_cases q5 : 11 ≤ a ∧ a < 59 ∧ (a - 11) % 4 = 0
      · exact zpf_f (by simp; omega)
      · exact zpf_o (by omega)
    · have e9 : n = np := nI_inj (by omega) (by omega) (hn.symm.trans n1)
      subst e9
      have g : Z2 (11 + 4 * p) 7 = ncC Z p0 p := by rw [e2, zaf_o (by omega), zu_o (by omega), e1, zpf_at hp (by simp)]
      have k : Z2 121 (24 + p) = ncM (zu Z1 113 0 (nI 0)) p0 p := by rw [e2, zaf_i (i := p) (g := 2) (by omega) (by omega) (by omega) hp (by simp)]
      rw [g, k]
      exact (hnc p hp).symm
  have e3 : c = c' := by
    rw [hb] at hb2
    exact Option.some.inj hb2
  subst e3
  obtain ⟨hc, hrc⟩ := nxb_spec hb
  obtain ⟨b1, b2, b3⟩ := (hP c hc).rc
  obtain ⟨q1, q2⟩ := (hP c hc).po
  have hlt : pof Z c < rcf Z c := by
    have q := (of_decide_eq_true hrc).2
    rw [b1, q1, nI_toInt (by omega), nI_toInt (by omega)] at q
    omega
  rw [hnc c hc] at eB
  obtain ⟨po, epo⟩ : ∃ x, x = pof Z c := ⟨_, rfl⟩
  obtain ⟨nu, enu⟩ : ∃ x, x = nuf Z c po := ⟨_, rfl⟩
  rw [← epo, ← enu] at h1 h2
  rw [← epo] at hlt q1 q2
  have hnu := (b3 po hlt).nu
  rw [← enu] at hnu
  obtain ⟨ZA, eA⟩ : ∃ z, z = zu (zpf Z np (fun i _ => ncC Z p0 i) [7]) (11 + 4 * c) 7 (ncC Z p0 c - nxs (rtC Z p0) (shC Z) np) := ⟨_, rfl⟩
  rw [← eA] at h1
  obtain ⟨ZI, eI⟩ : ∃ z : ZT, z = fun a b => if a < 113 then ZA a b else ZB a b := ⟨_, rfl⟩
  have hA : ∀ a b, a < 113 → ZA a b = ZI a b := fun a b q => by rw [eI]; exact (if_pos q).symm
  have hBI : ∀ a b, 113 ≤ a → ZB a b = ZI a b := fun a b q => by rw [eI]; exact (if_neg (by omega)).symm
  have hB1 : ∀ a b, a < 113 → ZB a b = Z1 a b := fun a b q => by rw [eB, zu_o (by omega), zaf_o (by omega), zu_o (by omega)]
  have hII : Inv d ZI := hI.cred (fun a b q1 q2 q3 q4 => by
    by_cases q : a < 113
    · rw [← hA a b q, eA, zu_o (by omega)]
      by_cases q5 : 11 ≤ a ∧ a < 59 ∧ (a - 11) % 4 = 0
      · exact zpf_f (by simp; omega)
      · exact zpf_o (by omega)
    · rw [← hBI a b (by omega), eB, zu_o (by omega)]
      have e8 : zaf (zu Z1 113 0 (nI 0)) np (fun i _ => ncM (zu Z1 113 0 (nI 0)) p0 i) [2] a b = zu Z1 113 0 (nI 0) a b := by
        by_cases q5 : a = 121 ∧ b < 48
        · exact zaf_g (b / 12) rfl (by simp; omega)
        · exact zaf_o (by omega)
      rw [e8, Ff _ _ (by omega) q3]) (fun n p hn hn12 hp => by
    have e9 : n = np := nI_inj (by omega) (by omega) (hn.symm.trans n1)
    subst e9
    rw [← hA _ _ (by omega), ← hBI _ _ (by omega), eA, eB]
    by_cases q5 : p = c
    · subst q5
      rw [zu_s, zu_s]
    · rw [zu_o (by omega), zu_o (by omega), zpf_at hp (by simp), zaf_i (i := p) (g := 2) (by omega) (by omega) (by omega) hp (by simp)]
      exact (hnc p hp).symm)
  have W0 : ∀ a b, (11 ≤ a ∧ a < 59 ∧ (a - 11) % 4 = 0 → b ≠ 7) → (a = 121 → b < 24 ∨ 36 ≤ b) → (a = 113 → b ≠ 0) → a < 132 → ZI a b = Z a b := fun a b q1 q2 q3 q4 => by
    by_cases q : a < 113
    · rw [← hA a b q, eA, zu_o (by omega)]
      by_cases q5 : 11 ≤ a ∧ a < 59 ∧ (a - 11) % 4 = 0
      · exact zpf_f (by simp; omega)
      · exact zpf_o (by omega)
    · rw [← hBI a b (by omega), eB, zu_o (by omega)]
      have e8 : zaf (zu Z1 113 0 (nI 0)) np (fun i _ => ncM (zu Z1 113 0 (nI 0)) p0 i) [2] a b = zu Z1 113 0 (nI 0) a b := by
        by_cases q5 : a = 121 ∧ b < 48
        · exact zaf_g (b / 12) rfl (by simp; omega)
        · exact zaf_o (by omega)
      rw [e8, Ff _ _ (by omega) q3]
  obtain ⟨np', nm', nt', na', nd', hN', hd', hP', hB', hF', hDl', hL', hM'⟩ := hII
  obtain rfl : np = np' := nI_inj (by omega) (by have := hN'.1.2.2; omega) (n1.symm.trans ((W0 0 5 (by omega) (by omega) (by omega) (by omega)).symm.trans hN'.1.1))
  obtain rfl : na = na' := nI_inj (by omega) (by have := hN'.2.2.2.1.2.2; omega) (s1.symm.trans ((W0 3 4 (by omega) (by omega) (by omega) (by omega)).symm.trans hN'.2.2.2.1.1))
  obtain rfl : nd = nd' := nI_inj (by omega) (by omega) (d1.symm.trans ((W0 7 2 (by omega) (by omega) (by omega) (by omega)).symm.trans hN'.2.2.2.2.1))
  have hpc := hP' c hc
  have hrw : IvR ZI c po := by
    refine hpc.rc.2.2 po ?_
    have e9 : rcf ZI c = rcf Z c := by
      show (ZI (11 + 4 * c) 3).toNatClampNeg = (Z (11 + 4 * c) 3).toNatClampNeg
      rw [W0 _ _ (by omega) (by omega) (by omega) (by omega)]
    rw [e9]
    exact hlt
  have E13 := hrw.2.1
  have E14 := hrw.2.2.1
  have E6 := hpc.1.2.2.2.1
  have E7 := hpc.1.2.2.2.2.1
  have hs64 : (nd + 1) % 64 < 64 := by omega
  obtain ⟨u1, u2, u3, u4⟩ := hDl'
  obtain ⟨E8, E9, B8, B9⟩ := u1 ((nd + 1) % 64) hs64
  obtain ⟨E4, B4⟩ := hF'.1 nu hnu.2
  have t8 : (ZB 129 ((nd + 1) % 64)).toInt = (ZA 8 ((nd + 1) % 64)).toInt := by rw [hBI _ _ (by omega), hA _ _ (by omega), E8]
  have t9 : (ZB 130 ((nd + 1) % 64)).toInt = (ZA 9 ((nd + 1) % 64)).toInt := by rw [hBI _ _ (by omega), hA _ _ (by omega), E9]
  have t14 : (ZB 116 (40 * c + po)).toInt = (ZA (14 + 4 * c) po).toInt := by rw [hBI _ _ (by omega), hA _ _ (by omega), E14]
  have t4' : (ZB 122 nu).toInt = (ZA 4 nu).toInt := by rw [hBI _ _ (by omega), hA _ _ (by omega), E4]
  rcases h1 with ⟨k1, rfl, e1⟩ | ⟨k1, rfl, e1⟩ | ⟨k1, rfl, e1⟩ | ⟨k1, rfl, e1⟩ | ⟨k1, rfl, e1⟩ | ⟨k1, rfl, e1⟩ <;> rcases h2 with ⟨k2, rfl, e2⟩ | ⟨k2, rfl, e2⟩ | ⟨k2, rfl, e2⟩ | ⟨k2, rfl, e2⟩ | ⟨k2, rfl, e2⟩ | ⟨k2, rfl, e2⟩ <;> first
    | (exfalso; omega)
    | skip
  · have K : ∀ a b, a < 113 → Z2 a b = Z1 a b := fun a b q => by rw [e2, zu_o (by omega), zu_o (by omega), zu_o (by omega), zu_o (by omega), zu_o (by omega), zu_o (by omega), zu_o (by omega), zu_o (by omega), zu_o (by omega), hB1 a b q]
    have O : ∀ a b, (a = 7 → b < 2 ∨ 5 < b) → (a = 8 ∨ a = 9 ∨ a = 129 ∨ a = 130 → b ≠ (nd + 1) % 64) → (a ≠ 10 ∧ a ≠ 131) → (a = 113 → b ≠ 0 ∧ b ≠ 13 ∧ b ≠ 22 ∧ b ≠ 23 ∧ b ≠ 24) → (a < 3 ∨ 6 < a) → (a ≠ 122 ∧ a ≠ 123) → (a = 11 + 4 * c → b ≠ 5 ∧ b ≠ 6) → (a = 121 → b ≠ c ∧ b ≠ 12 + c) → Z2 a b = ZI a b := fun a b q1 q2 q3 q4 q5 q6 q7 q8 => by
      by_cases q : a < 113
      · rw [K a b q, e1, zu_o (by omega), zu_o (by omega), zu_o (by omega), zu_o (by omega), zu_o (by omega), zu_o (by omega), zu_o (by omega), zu_o (by omega), zu_o (by omega), zu_o (by omega), zu_o (by omega), hA a b q]
      · rw [e2, zu_o (by omega), zu_o (by omega), zu_o (by omega), zu_o (by omega), zu_o (by omega), zu_o (by omega), zu_o (by omega), zu_o (by omega), zu_o (by omega), hBI a b (by omega)]
    have L : IvL Z2 := fun k hk => by
      match k, hk with
      | 0, _ =>
        have g : Z2 10 0 = nI c := by rw [K _ _ (by omega), e1, zu_o (by omega), zu_o (by omega), zu_o (by omega), zu_o (by omega), zu_o (by omega), zu_o (by omega), zu_o (by omega), zu_o (by omega), zu_o (by omega), zu_s]
        have w : Z2 131 0 = nI c := by rw [e2, zu_o (by omega), zu_o (by omega), zu_o (by omega), zu_o (by omega), zu_o (by omega), zu_s]
        rw [g, w]
      | 1, _ =>
        have g : Z2 10 1 = nI po := by rw [K _ _ (by omega), e1, zu_o (by omega), zu_o (by omega), zu_o (by omega), zu_o (by omega), zu_o (by omega), zu_o (by omega), zu_o (by omega), zu_o (by omega), zu_s]
        have w : Z2 131 1 = nI po := by rw [e2, zu_o (by omega), zu_o (by omega), zu_o (by omega), zu_o (by omega), zu_s]
        rw [g, w]
      | 2, _ =>
        have g : Z2 10 2 = ZI (13 + 4 * c) po := by rw [K _ _ (by omega), e1, zu_o (by omega), zu_o (by omega), zu_o (by omega), zu_o (by omega), zu_o (by omega), zu_o (by omega), zu_o (by omega), zu_s, hA _ _ (by omega)]
        have w : Z2 131 2 = ZI 115 (40 * c + po) := by rw [e2, zu_o (by omega), zu_o (by omega), zu_o (by omega), zu_s, hBI _ _ (by omega)]
        rw [g, w]; exact E13
      | 3, _ =>
        have g : Z2 10 3 = nI (nd + 1) := by rw [K _ _ (by omega), e1, zu_o (by omega), zu_o (by omega), zu_o (by omega), zu_o (by omega), zu_o (by omega), zu_o (by omega), zu_s]
        have w : Z2 131 3 = nI (nd + 1) := by rw [e2, zu_o (by omega), zu_o (by omega), zu_s]
        rw [g, w]
      | 4, _ =>
        have g : Z2 10 4 = ZI (11 + 4 * c) 7 := by rw [K _ _ (by omega), e1, zu_o (by omega), zu_o (by omega), zu_o (by omega), zu_o (by omega), zu_o (by omega), zu_s, hA _ _ (by omega)]
        have w : Z2 131 4 = ZI 121 (24 + c) := by rw [e2, zu_o (by omega), zu_s, hBI _ _ (by omega)]
        rw [g, w]; exact E7
      | k + 5, h => omega
    have x73 : Z2 7 3 = Z2 113 23 := by rw [show Z2 7 3 = ZI 7 3 + nI 1 by rw [K _ _ (by omega), e1, zu_s, hA _ _ (by omega)], show Z2 113 23 = ZI 113 23 + nI 1 by rw [e2, zu_s, hBI _ _ (by omega)], u2]
    have x74 : Z2 7 4 = Z2 113 24 := by rw [show Z2 7 4 = ZI 7 4 by rw [K _ _ (by omega), e1, zu_o (by omega), zu_o (by omega), zu_o (by omega), zu_o (by omega), zu_o (by omega), zu_o (by omega), zu_o (by omega), zu_o (by omega), zu_o (by omega), zu_o (by omega), zu_o (by omega), hA _ _ (by omega)], show Z2 113 24 = ZI 113 24 by rw [e2, zu_o (by omega), zu_o (by omega), zu_o (by omega), zu_o (by omega), zu_o (by omega), zu_o (by omega), zu_o (by omega), zu_o (by omega), zu_o (by omega), hBI _ _ (by omega)], u3]
    have z75 : Z2 7 5 = ZI 7 5 - tbz (ZI 8 ((nd + 1) % 64)) - tbz (ZI 9 ((nd + 1) % 64)) := by rw [K _ _ (by omega), e1, zu_o (by omega), zu_s, hA 7 5 (by omega), hA 8 _ (by omega), hA 9 _ (by omega)]
    have hs1 : ZI 3 4 = nI na := hN'.2.2.2.1.1
    have hs2 : ZI 113 13 = nI na := hN'.2.2.2.1.2.1
    have hF2 : IvF Z2 na := IvF_cg (fun a b q1 q2 => (by rw [K _ _ (by omega), e1, zu_o (by omega), zu_o (by omega), zu_o (by omega), zu_o (by omega), zu_o (by omega), zu_o (by omega), zu_o (by omega), zu_o (by omega), zu_o (by omega), zu_o (by omega), zu_o (by omega), hA _ _ (by omega)])) (fun a b q1 q2 => (by rw [e2, zu_o (by omega), zu_o (by omega), zu_o (by omega), zu_o (by omega), zu_o (by omega), zu_o (by omega), zu_o (by omega), zu_o (by omega), zu_o (by omega), hBI _ _ (by omega)])) hF'
    have x5 := hpc.x5 (Z2 := Z2) (by rw [K _ _ (by omega), e1, zu_o (by omega), zu_o (by omega), zu_o (by omega), zu_o (by omega), zu_o (by omega), zu_o (by omega), zu_o (by omega), zu_o (by omega), zu_o (by omega), zu_o (by omega), zu_o (by omega), hA _ _ (by omega)]) (by rw [e2, zu_o (by omega), zu_o (by omega), zu_o (by omega), zu_o (by omega), zu_o (by omega), zu_o (by omega), zu_o (by omega), zu_o (by omega), zu_o (by omega), hBI _ _ (by omega)])
    have x6 := hpc.x6 (Z2 := Z2) (by rw [K _ _ (by omega), e1, zu_o (by omega), zu_o (by omega), zu_o (by omega), zu_o (by omega), zu_o (by omega), zu_o (by omega), zu_o (by omega), zu_o (by omega), zu_o (by omega), zu_o (by omega), zu_o (by omega), hA _ _ (by omega)]) (by rw [e2, zu_o (by omega), zu_o (by omega), zu_o (by omega), zu_o (by omega), zu_o (by omega), zu_o (by omega), zu_o (by omega), zu_o (by omega), zu_o (by omega), hBI _ _ (by omega)])
    exact ⟨rfl, Inv.rdx (na' := na) hN' hd' hP' hB' ⟨u1, u2, u3, u4⟩ hM' hs64 hc O (by rw [K _ _ (by omega), e1, zu_o (by omega), zu_o (by omega), zu_o (by omega), zu_o (by omega), zu_o (by omega), zu_o (by omega), zu_o (by omega), zu_o (by omega), zu_o (by omega), zu_o (by omega), zu_s]) (by rw [e2, zu_o (by omega), zu_o (by omega), zu_o (by omega), zu_o (by omega), zu_o (by omega), zu_o (by omega), zu_o (by omega), zu_o (by omega), zu_s]) (by rw [K _ _ (by omega), e1, zu_o (by omega), zu_o (by omega), zu_o (by omega), zu_o (by omega), zu_s]) (by rw [K _ _ (by omega), e1, zu_o (by omega), zu_o (by omega), zu_s]) (by rw [e2, zu_o (by omega), zu_o (by omega), zu_o (by omega), zu_o (by omega), zu_o (by omega), zu_o (by omega), zu_o (by omega), zu_s]) (by rw [e2, zu_o (by omega), zu_o (by omega), zu_o (by omega), zu_o (by omega), zu_o (by omega), zu_o (by omega), zu_s]) z75 L x73 x74 (by rw [show Z2 3 4 = ZI 3 4 from (by rw [K _ _ (by omega), e1, zu_o (by omega), zu_o (by omega), zu_o (by omega), zu_o (by omega), zu_o (by omega), zu_o (by omega), zu_o (by omega), zu_o (by omega), zu_o (by omega), zu_o (by omega), zu_o (by omega), hA _ _ (by omega)])]; exact hs1) (by rw [show Z2 113 13 = ZI 113 13 from by rw [e2, zu_o (by omega), zu_o (by omega), zu_o (by omega), zu_o (by omega), zu_o (by omega), zu_o (by omega), zu_o (by omega), zu_o (by omega), zu_o (by omega), hBI _ _ (by omega)]]; exact hs2) (s3) hF2 x5 x6⟩
  · have K : ∀ a b, a < 113 → Z2 a b = Z1 a b := fun a b q => by rw [e2, zu_o (by omega), zu_o (by omega), zu_o (by omega), zu_o (by omega), zu_o (by omega), zu_o (by omega), zu_o (by omega), zu_o (by omega), zu_o (by omega), zu_o (by omega), zu_o (by omega), zu_o (by omega), zu_o (by omega), hB1 a b q]
    have O : ∀ a b, (a = 7 → b < 2 ∨ 5 < b) → (a = 8 ∨ a = 9 ∨ a = 129 ∨ a = 130 → b ≠ (nd + 1) % 64) → (a ≠ 10 ∧ a ≠ 131) → (a = 113 → b ≠ 0 ∧ b ≠ 13 ∧ b ≠ 22 ∧ b ≠ 23 ∧ b ≠ 24) → (a < 3 ∨ 6 < a) → (a ≠ 122 ∧ a ≠ 123) → (a = 11 + 4 * c → b ≠ 5 ∧ b ≠ 6) → (a = 121 → b ≠ c ∧ b ≠ 12 + c) → Z2 a b = ZI a b := fun a b q1 q2 q3 q4 q5 q6 q7 q8 => by
      by_cases q : a < 113
      · rw [K a b q, e1, zu_o (by omega), zu_o (by omega), zu_o (by omega), zu_o (by omega), zu_o (by omega), zu_o (by omega), zu_o (by omega), zu_o (by omega), zu_o (by omega), zu_o (by omega), zu_o (by omega), zu_o (by omega), zu_o (by omega), zu_o (by omega), zu_o (by omega), hA a b q]
      · rw [e2, zu_o (by omega), zu_o (by omega), zu_o (by omega), zu_o (by omega), zu_o (by omega), zu_o (by omega), zu_o (by omega), zu_o (by omega), zu_o (by omega), zu_o (by omega), zu_o (by omega), zu_o (by omega), zu_o (by omega), hBI a b (by omega)]
    have L : IvL Z2 := fun k hk => by
      match k, hk with
      | 0, _ =>
        have g : Z2 10 0 = nI c := by rw [K _ _ (by omega), e1, zu_o (by omega), zu_o (by omega), zu_o (by omega), zu_o (by omega), zu_o (by omega), zu_o (by omega), zu_o (by omega), zu_o (by omega), zu_o (by omega), zu_o (by omega), zu_o (by omega), zu_o (by omega), zu_o (by omega), zu_s]
        have w : Z2 131 0 = nI c := by rw [e2, zu_o (by omega), zu_o (by omega), zu_o (by omega), zu_o (by omega), zu_o (by omega), zu_o (by omega), zu_o (by omega), zu_o (by omega), zu_o (by omega), zu_s]
        rw [g, w]
      | 1, _ =>
        have g : Z2 10 1 = nI po := by rw [K _ _ (by omega), e1, zu_o (by omega), zu_o (by omega), zu_o (by omega), zu_o (by omega), zu_o (by omega), zu_o (by omega), zu_o (by omega), zu_o (by omega), zu_o (by omega), zu_o (by omega), zu_o (by omega), zu_o (by omega), zu_s]
        have w : Z2 131 1 = nI po := by rw [e2, zu_o (by omega), zu_o (by omega), zu_o (by omega), zu_o (by omega), zu_o (by omega), zu_o (by omega), zu_o (by omega), zu_o (by omega), zu_s]
        rw [g, w]
      | 2, _ =>
        have g : Z2 10 2 = ZI (13 + 4 * c) po := by rw [K _ _ (by omega), e1, zu_o (by omega), zu_o (by omega), zu_o (by omega), zu_o (by omega), zu_o (by omega), zu_o (by omega), zu_o (by omega), zu_o (by omega), zu_o (by omega), zu_o (by omega), zu_o (by omega), zu_s, hA _ _ (by omega)]
        have w : Z2 131 2 = ZI 115 (40 * c + po) := by rw [e2, zu_o (by omega), zu_o (by omega), zu_o (by omega), zu_o (by omega), zu_o (by omega), zu_o (by omega), zu_o (by omega), zu_s, hBI _ _ (by omega)]
        rw [g, w]; exact E13
      | 3, _ =>
        have g : Z2 10 3 = nI (nd + 1) := by rw [K _ _ (by omega), e1, zu_o (by omega), zu_o (by omega), zu_o (by omega), zu_o (by omega), zu_o (by omega), zu_o (by omega), zu_o (by omega), zu_o (by omega), zu_o (by omega), zu_o (by omega), zu_s]
        have w : Z2 131 3 = nI (nd + 1) := by rw [e2, zu_o (by omega), zu_o (by omega), zu_o (by omega), zu_o (by omega), zu_o (by omega), zu_o (by omega), zu_s]
        rw [g, w]
      | 4, _ =>
        have g : Z2 10 4 = ZI (11 + 4 * c) 7 := by rw [K _ _ (by omega), e1, zu_o (by omega), zu_o (by omega), zu_o (by omega), zu_o (by omega), zu_o (by omega), zu_o (by omega), zu_o (by omega), zu_o (by omega), zu_o (by omega), zu_s, hA _ _ (by omega)]
        have w : Z2 131 4 = ZI 121 (24 + c) := by rw [e2, zu_o (by omega), zu_o (by omega), zu_o (by omega), zu_o (by omega), zu_o (by omega), zu_s, hBI _ _ (by omega)]
        rw [g, w]; exact E7
      | k + 5, h => omega
    have x73 : Z2 7 3 = Z2 113 23 := by rw [show Z2 7 3 = ZI 7 3 by rw [K _ _ (by omega), e1, zu_o (by omega), zu_o (by omega), zu_o (by omega), zu_o (by omega), zu_o (by omega), zu_o (by omega), zu_o (by omega), zu_o (by omega), zu_o (by omega), zu_o (by omega), zu_o (by omega), zu_o (by omega), zu_o (by omega), zu_o (by omega), zu_o (by omega), hA _ _ (by omega)], show Z2 113 23 = ZI 113 23 by rw [e2, zu_o (by omega), zu_o (by omega), zu_o (by omega), zu_o (by omega), zu_o (by omega), zu_o (by omega), zu_o (by omega), zu_o (by omega), zu_o (by omega), zu_o (by omega), zu_o (by omega), zu_o (by omega), zu_o (by omega), hBI _ _ (by omega)], u2]
    have x74 : Z2 7 4 = Z2 113 24 := by rw [show Z2 7 4 = ZI 7 4 by rw [K _ _ (by omega), e1, zu_o (by omega), zu_o (by omega), zu_o (by omega), zu_o (by omega), zu_o (by omega), zu_o (by omega), zu_o (by omega), zu_o (by omega), zu_o (by omega), zu_o (by omega), zu_o (by omega), zu_o (by omega), zu_o (by omega), zu_o (by omega), zu_o (by omega), hA _ _ (by omega)], show Z2 113 24 = ZI 113 24 by rw [e2, zu_o (by omega), zu_o (by omega), zu_o (by omega), zu_o (by omega), zu_o (by omega), zu_o (by omega), zu_o (by omega), zu_o (by omega), zu_o (by omega), zu_o (by omega), zu_o (by omega), zu_o (by omega), zu_o (by omega), hBI _ _ (by omega)], u3]
    have z75 : Z2 7 5 = ZI 7 5 - tbz (ZI 8 ((nd + 1) % 64)) - tbz (ZI 9 ((nd + 1) % 64)) := by rw [K _ _ (by omega), e1, zu_o (by omega), zu_o (by omega), zu_o (by omega), zu_o (by omega), zu_o (by omega), zu_s, hA 7 5 (by omega), hA 8 _ (by omega), hA 9 _ (by omega)]
    have hs1 : ZI 3 4 = nI na := hN'.2.2.2.1.1
    have hs2 : ZI 113 13 = nI na := hN'.2.2.2.1.2.1
    have hF2 : IvF Z2 (na + 1) := by
      refine ⟨fun k hk => ?_, ?_, fun j hj => ?_⟩
      · rw [show Z2 4 k = ZI 4 k from (by rw [K _ _ (by omega), e1, zu_o (by omega), zu_o (by omega), zu_o (by omega), zu_o (by omega), zu_o (by omega), zu_o (by omega), zu_o (by omega), zu_o (by omega), zu_o (by omega), zu_o (by omega), zu_o (by omega), zu_o (by omega), zu_o (by omega), zu_o (by omega), zu_o (by omega), hA _ _ (by omega)]), show Z2 122 k = ZI 122 k from (by rw [e2, zu_o (by omega), zu_o (by omega), zu_o (by omega), zu_o (by omega), zu_o (by omega), zu_o (by omega), zu_o (by omega), zu_o (by omega), zu_o (by omega), zu_o (by omega), zu_o (by omega), zu_o (by omega), zu_o (by omega), hBI _ _ (by omega)])]; exact hF'.1 k hk
      · rw [show Z2 3 3 = ZI 3 3 from (by rw [K _ _ (by omega), e1, zu_o (by omega), zu_o (by omega), zu_o (by omega), zu_o (by omega), zu_o (by omega), zu_o (by omega), zu_o (by omega), zu_o (by omega), zu_o (by omega), zu_o (by omega), zu_o (by omega), zu_o (by omega), zu_o (by omega), zu_o (by omega), zu_o (by omega), hA _ _ (by omega)]), hF'.2.1, gbz_cg (Z := ZI) (Z' := Z2) (c := 4) (c' := 4) (fun k _ => (by rw [K _ _ (by omega), e1, zu_o (by omega), zu_o (by omega), zu_o (by omega), zu_o (by omega), zu_o (by omega), zu_o (by omega), zu_o (by omega), zu_o (by omega), zu_o (by omega), zu_o (by omega), zu_o (by omega), zu_o (by omega), zu_o (by omega), zu_o (by omega), zu_o (by omega), hA _ _ (by omega)]))]
      · by_cases e9 : j = na
        · rw [e9, show Z2 5 na = nI c from by rw [K _ _ (by omega), e1, zu_o (by omega), zu_o (by omega), zu_o (by omega), zu_o (by omega), zu_s], show Z2 6 na = nI po from by rw [K _ _ (by omega), e1, zu_o (by omega), zu_o (by omega), zu_o (by omega), zu_s], show Z2 123 (2 * na) = nI c from by rw [e2, zu_o (by omega), zu_o (by omega), zu_o (by omega), zu_o (by omega), zu_s], show Z2 123 (2 * na + 1) = nI po from by rw [e2, zu_o (by omega), zu_o (by omega), zu_o (by omega), zu_s]]
          exact ⟨rfl, rfl⟩
        · rw [show Z2 5 j = ZI 5 j from (by rw [K _ _ (by omega), e1, zu_o (by omega), zu_o (by omega), zu_o (by omega), zu_o (by omega), zu_o (by omega), zu_o (by omega), zu_o (by omega), zu_o (by omega), zu_o (by omega), zu_o (by omega), zu_o (by omega), zu_o (by omega), zu_o (by omega), zu_o (by omega), zu_o (by omega), hA _ _ (by omega)]), show Z2 6 j = ZI 6 j from (by rw [K _ _ (by omega), e1, zu_o (by omega), zu_o (by omega), zu_o (by omega), zu_o (by omega), zu_o (by omega), zu_o (by omega), zu_o (by omega), zu_o (by omega), zu_o (by omega), zu_o (by omega), zu_o (by omega), zu_o (by omega), zu_o (by omega), zu_o (by omega), zu_o (by omega), hA _ _ (by omega)]), show Z2 123 (2 * j) = ZI 123 (2 * j) from (by rw [e2, zu_o (by omega), zu_o (by omega), zu_o (by omega), zu_o (by omega), zu_o (by omega), zu_o (by omega), zu_o (by omega), zu_o (by omega), zu_o (by omega), zu_o (by omega), zu_o (by omega), zu_o (by omega), zu_o (by omega), hBI _ _ (by omega)]), show Z2 123 (2 * j + 1) = ZI 123 (2 * j + 1) from (by rw [e2, zu_o (by omega), zu_o (by omega), zu_o (by omega), zu_o (by omega), zu_o (by omega), zu_o (by omega), zu_o (by omega), zu_o (by omega), zu_o (by omega), zu_o (by omega), zu_o (by omega), zu_o (by omega), zu_o (by omega), hBI _ _ (by omega)])]; exact hF'.2.2 j (by omega)
    have g5 : Z2 (11 + 4 * c) 5 = nI (po + 1) := by rw [K _ _ (by omega), e1, zu_s]
    have k5 : Z2 121 c = nI (po + 1) := by rw [e2, zu_o (by omega), zu_s]
    have g6 : Z2 (11 + 4 * c) 6 = if ZI (11 + 4 * c) 6 < ZI (13 + 4 * c) po then ZI (13 + 4 * c) po else ZI (11 + 4 * c) 6 := by rw [K _ _ (by omega), e1, zu_o (by omega), zu_s, hA _ _ (by omega), hA _ _ (by omega)]
    have k6 : Z2 121 (12 + c) = if ZI 121 (12 + c) < ZI 115 (40 * c + po) then ZI 115 (40 * c + po) else ZI 121 (12 + c) := by rw [e2, zu_s, hBI _ _ (by omega), hBI _ _ (by omega)]
    have x5 : Z2 (11 + 4 * c) 5 = Z2 121 c ∧ ∃ q : Nat, q ≤ 40 ∧ Z2 (11 + 4 * c) 5 = nI q := ⟨g5.trans k5.symm, po + 1, by omega, g5⟩
    have x6 : Z2 (11 + 4 * c) 6 = Z2 121 (12 + c) ∧ (Z2 (11 + 4 * c) 6).toInt ≤ 100000 := by
      refine ⟨by rw [g6, k6, E6, E13], ?_⟩
      rw [g6]
      split
      · exact hrw.2.2.2.2
      · exact hpc.2.2.2.2.1
    exact ⟨rfl, Inv.rdx (na' := na + 1) hN' hd' hP' hB' ⟨u1, u2, u3, u4⟩ hM' hs64 hc O (by rw [K _ _ (by omega), e1, zu_o (by omega), zu_o (by omega), zu_o (by omega), zu_o (by omega), zu_o (by omega), zu_o (by omega), zu_o (by omega), zu_o (by omega), zu_o (by omega), zu_o (by omega), zu_o (by omega), zu_o (by omega), zu_o (by omega), zu_o (by omega), zu_s]) (by rw [e2, zu_o (by omega), zu_o (by omega), zu_o (by omega), zu_o (by omega), zu_o (by omega), zu_o (by omega), zu_o (by omega), zu_o (by omega), zu_o (by omega), zu_o (by omega), zu_o (by omega), zu_o (by omega), zu_s]) (by rw [K _ _ (by omega), e1, zu_o (by omega), zu_o (by omega), zu_o (by omega), zu_o (by omega), zu_o (by omega), zu_o (by omega), zu_o (by omega), zu_o (by omega), zu_s]) (by rw [K _ _ (by omega), e1, zu_o (by omega), zu_o (by omega), zu_o (by omega), zu_o (by omega), zu_o (by omega), zu_o (by omega), zu_s]) (by rw [e2, zu_o (by omega), zu_o (by omega), zu_o (by omega), zu_o (by omega), zu_o (by omega), zu_o (by omega), zu_o (by omega), zu_o (by omega), zu_o (by omega), zu_o (by omega), zu_o (by omega), zu_s]) (by rw [e2, zu_o (by omega), zu_o (by omega), zu_o (by omega), zu_o (by omega), zu_o (by omega), zu_o (by omega), zu_o (by omega), zu_o (by omega), zu_o (by omega), zu_o (by omega), zu_s]) z75 L x73 x74 (by rw [K _ _ (by omega), e1, zu_o (by omega), zu_o (by omega), zu_s]) (by rw [e2, zu_o (by omega), zu_o (by omega), zu_s]) (by omega) hF2 x5 x6⟩
  · have K : ∀ a b, a < 113 → Z2 a b = Z1 a b := fun a b q => by rw [e2, zu_o (by omega), zu_o (by omega), zu_o (by omega), zu_o (by omega), zu_o (by omega), zu_o (by omega), zu_o (by omega), zu_o (by omega), zu_o (by omega), zu_o (by omega), hB1 a b q]
    have O : ∀ a b, (a = 7 → b < 2 ∨ 5 < b) → (a = 8 ∨ a = 9 ∨ a = 129 ∨ a = 130 → b ≠ (nd + 1) % 64) → (a ≠ 10 ∧ a ≠ 131) → (a = 113 → b ≠ 0 ∧ b ≠ 13 ∧ b ≠ 22 ∧ b ≠ 23 ∧ b ≠ 24) → (a < 3 ∨ 6 < a) → (a ≠ 122 ∧ a ≠ 123) → (a = 11 + 4 * c → b ≠ 5 ∧ b ≠ 6) → (a = 121 → b ≠ c ∧ b ≠ 12 + c) → Z2 a b = ZI a b := fun a b q1 q2 q3 q4 q5 q6 q7 q8 => by
      by_cases q : a < 113
      · rw [K a b q, e1, zu_o (by omega), zu_o (by omega), zu_o (by omega), zu_o (by omega), zu_o (by omega), zu_o (by omega), zu_o (by omega), zu_o (by omega), zu_o (by omega), zu_o (by omega), zu_o (by omega), zu_o (by omega), hA a b q]
      · rw [e2, zu_o (by omega), zu_o (by omega), zu_o (by omega), zu_o (by omega), zu_o (by omega), zu_o (by omega), zu_o (by omega), zu_o (by omega), zu_o (by omega), zu_o (by omega), hBI a b (by omega)]
    have L : IvL Z2 := fun k hk => by
      match k, hk with
      | 0, _ =>
        have g : Z2 10 0 = nI c := by rw [K _ _ (by omega), e1, zu_o (by omega), zu_o (by omega), zu_o (by omega), zu_o (by omega), zu_o (by omega), zu_o (by omega), zu_o (by omega), zu_o (by omega), zu_o (by omega), zu_o (by omega), zu_s]
        have w : Z2 131 0 = nI c := by rw [e2, zu_o (by omega), zu_o (by omega), zu_o (by omega), zu_o (by omega), zu_o (by omega), zu_o (by omega), zu_s]
        rw [g, w]
      | 1, _ =>
        have g : Z2 10 1 = nI po := by rw [K _ _ (by omega), e1, zu_o (by omega), zu_o (by omega), zu_o (by omega), zu_o (by omega), zu_o (by omega), zu_o (by omega), zu_o (by omega), zu_o (by omega), zu_o (by omega), zu_s]
        have w : Z2 131 1 = nI po := by rw [e2, zu_o (by omega), zu_o (by omega), zu_o (by omega), zu_o (by omega), zu_o (by omega), zu_s]
        rw [g, w]
      | 2, _ =>
        have g : Z2 10 2 = ZI (13 + 4 * c) po := by rw [K _ _ (by omega), e1, zu_o (by omega), zu_o (by omega), zu_o (by omega), zu_o (by omega), zu_o (by omega), zu_o (by omega), zu_o (by omega), zu_o (by omega), zu_s, hA _ _ (by omega)]
        have w : Z2 131 2 = ZI 115 (40 * c + po) := by rw [e2, zu_o (by omega), zu_o (by omega), zu_o (by omega), zu_o (by omega), zu_s, hBI _ _ (by omega)]
        rw [g, w]; exact E13
      | 3, _ =>
        have g : Z2 10 3 = nI (nd + 1) := by rw [K _ _ (by omega), e1, zu_o (by omega), zu_o (by omega), zu_o (by omega), zu_o (by omega), zu_o (by omega), zu_o (by omega), zu_o (by omega), zu_s]
        have w : Z2 131 3 = nI (nd + 1) := by rw [e2, zu_o (by omega), zu_o (by omega), zu_o (by omega), zu_s]
        rw [g, w]
      | 4, _ =>
        have g : Z2 10 4 = ZI (11 + 4 * c) 7 := by rw [K _ _ (by omega), e1, zu_o (by omega), zu_o (by omega), zu_o (by omega), zu_o (by omega), zu_o (by omega), zu_o (by omega), zu_s, hA _ _ (by omega)]
        have w : Z2 131 4 = ZI 121 (24 + c) := by rw [e2, zu_o (by omega), zu_o (by omega), zu_s, hBI _ _ (by omega)]
        rw [g, w]; exact E7
      | k + 5, h => omega
    have x73 : Z2 7 3 = Z2 113 23 := by rw [show Z2 7 3 = ZI 7 3 by rw [K _ _ (by omega), e1, zu_o (by omega), zu_o (by omega), zu_o (by omega), zu_o (by omega), zu_o (by omega), zu_o (by omega), zu_o (by omega), zu_o (by omega), zu_o (by omega), zu_o (by omega), zu_o (by omega), zu_o (by omega), hA _ _ (by omega)], show Z2 113 23 = ZI 113 23 by rw [e2, zu_o (by omega), zu_o (by omega), zu_o (by omega), zu_o (by omega), zu_o (by omega), zu_o (by omega), zu_o (by omega), zu_o (by omega), zu_o (by omega), zu_o (by omega), hBI _ _ (by omega)], u2]
    have x74 : Z2 7 4 = Z2 113 24 := by rw [show Z2 7 4 = ZI 7 4 by rw [K _ _ (by omega), e1, zu_o (by omega), zu_o (by omega), zu_o (by omega), zu_o (by omega), zu_o (by omega), zu_o (by omega), zu_o (by omega), zu_o (by omega), zu_o (by omega), zu_o (by omega), zu_o (by omega), zu_o (by omega), hA _ _ (by omega)], show Z2 113 24 = ZI 113 24 by rw [e2, zu_o (by omega), zu_o (by omega), zu_o (by omega), zu_o (by omega), zu_o (by omega), zu_o (by omega), zu_o (by omega), zu_o (by omega), zu_o (by omega), zu_o (by omega), hBI _ _ (by omega)], u3]
    have z75 : Z2 7 5 = ZI 7 5 - tbz (ZI 8 ((nd + 1) % 64)) - tbz (ZI 9 ((nd + 1) % 64)) := by rw [K _ _ (by omega), e1, zu_o (by omega), zu_o (by omega), zu_s, hA 7 5 (by omega), hA 8 _ (by omega), hA 9 _ (by omega)]
    have hs1 : ZI 3 4 = nI na := hN'.2.2.2.1.1
    have hs2 : ZI 113 13 = nI na := hN'.2.2.2.1.2.1
    have hF2 : IvF Z2 na := IvF_cg (fun a b q1 q2 => (by rw [K _ _ (by omega), e1, zu_o (by omega), zu_o (by omega), zu_o (by omega), zu_o (by omega), zu_o (by omega), zu_o (by omega), zu_o (by omega), zu_o (by omega), zu_o (by omega), zu_o (by omega), zu_o (by omega), zu_o (by omega), hA _ _ (by omega)])) (fun a b q1 q2 => (by rw [e2, zu_o (by omega), zu_o (by omega), zu_o (by omega), zu_o (by omega), zu_o (by omega), zu_o (by omega), zu_o (by omega), zu_o (by omega), zu_o (by omega), zu_o (by omega), hBI _ _ (by omega)])) hF'
    have g5 : Z2 (11 + 4 * c) 5 = nI (po + 1) := by rw [K _ _ (by omega), e1, zu_s]
    have k5 : Z2 121 c = nI (po + 1) := by rw [e2, zu_o (by omega), zu_s]
    have g6 : Z2 (11 + 4 * c) 6 = if ZI (11 + 4 * c) 6 < ZI (13 + 4 * c) po then ZI (13 + 4 * c) po else ZI (11 + 4 * c) 6 := by rw [K _ _ (by omega), e1, zu_o (by omega), zu_s, hA _ _ (by omega), hA _ _ (by omega)]
    have k6 : Z2 121 (12 + c) = if ZI 121 (12 + c) < ZI 115 (40 * c + po) then ZI 115 (40 * c + po) else ZI 121 (12 + c) := by rw [e2, zu_s, hBI _ _ (by omega), hBI _ _ (by omega)]
    have x5 : Z2 (11 + 4 * c) 5 = Z2 121 c ∧ ∃ q : Nat, q ≤ 40 ∧ Z2 (11 + 4 * c) 5 = nI q := ⟨g5.trans k5.symm, po + 1, by omega, g5⟩
    have x6 : Z2 (11 + 4 * c) 6 = Z2 121 (12 + c) ∧ (Z2 (11 + 4 * c) 6).toInt ≤ 100000 := by
      refine ⟨by rw [g6, k6, E6, E13], ?_⟩
      rw [g6]
      split
      · exact hrw.2.2.2.2
      · exact hpc.2.2.2.2.1
    exact ⟨rfl, Inv.rdx (na' := na) hN' hd' hP' hB' ⟨u1, u2, u3, u4⟩ hM' hs64 hc O (by rw [K _ _ (by omega), e1, zu_o (by omega), zu_o (by omega), zu_o (by omega), zu_o (by omega), zu_o (by omega), zu_o (by omega), zu_o (by omega), zu_o (by omega), zu_o (by omega), zu_o (by omega), zu_o (by omega), zu_s]) (by rw [e2, zu_o (by omega), zu_o (by omega), zu_o (by omega), zu_o (by omega), zu_o (by omega), zu_o (by omega), zu_o (by omega), zu_o (by omega), zu_o (by omega), zu_s]) (by rw [K _ _ (by omega), e1, zu_o (by omega), zu_o (by omega), zu_o (by omega), zu_o (by omega), zu_o (by omega), zu_s]) (by rw [K _ _ (by omega), e1, zu_o (by omega), zu_o (by omega), zu_o (by omega), zu_s]) (by rw [e2, zu_o (by omega), zu_o (by omega), zu_o (by omega), zu_o (by omega), zu_o (by omega), zu_o (by omega), zu_o (by omega), zu_o (by omega), zu_s]) (by rw [e2, zu_o (by omega), zu_o (by omega), zu_o (by omega), zu_o (by omega), zu_o (by omega), zu_o (by omega), zu_o (by omega), zu_s]) z75 L x73 x74 (by rw [show Z2 3 4 = ZI 3 4 from (by rw [K _ _ (by omega), e1, zu_o (by omega), zu_o (by omega), zu_o (by omega), zu_o (by omega), zu_o (by omega), zu_o (by omega), zu_o (by omega), zu_o (by omega), zu_o (by omega), zu_o (by omega), zu_o (by omega), zu_o (by omega), hA _ _ (by omega)])]; exact hs1) (by rw [show Z2 113 13 = ZI 113 13 from by rw [e2, zu_o (by omega), zu_o (by omega), zu_o (by omega), zu_o (by omega), zu_o (by omega), zu_o (by omega), zu_o (by omega), zu_o (by omega), zu_o (by omega), zu_o (by omega), hBI _ _ (by omega)]]; exact hs2) (s3) hF2 x5 x6⟩
  · have K : ∀ a b, a < 113 → Z2 a b = Z1 a b := fun a b q => by rw [e2, zu_o (by omega), zu_o (by omega), zu_o (by omega), zu_o (by omega), zu_o (by omega), zu_o (by omega), zu_o (by omega), zu_o (by omega), zu_o (by omega), zu_o (by omega), zu_o (by omega), hB1 a b q]
    have O : ∀ a b, (a = 7 → b < 2 ∨ 5 < b) → (a = 8 ∨ a = 9 ∨ a = 129 ∨ a = 130 → b ≠ (nd + 1) % 64) → (a ≠ 10 ∧ a ≠ 131) → (a = 113 → b ≠ 0 ∧ b ≠ 13 ∧ b ≠ 22 ∧ b ≠ 23 ∧ b ≠ 24) → (a < 3 ∨ 6 < a) → (a ≠ 122 ∧ a ≠ 123) → (a = 11 + 4 * c → b ≠ 5 ∧ b ≠ 6) → (a = 121 → b ≠ c ∧ b ≠ 12 + c) → Z2 a b = ZI a b := fun a b q1 q2 q3 q4 q5 q6 q7 q8 => by
      by_cases q : a < 113
      · rw [K a b q, e1, zu_o (by omega), zu_o (by omega), zu_o (by omega), zu_o (by omega), zu_o (by omega), zu_o (by omega), zu_o (by omega), zu_o (by omega), zu_o (by omega), zu_o (by omega), zu_o (by omega), zu_o (by omega), zu_o (by omega), hA a b q]
      · rw [e2, zu_o (by omega), zu_o (by omega), zu_o (by omega), zu_o (by omega), zu_o (by omega), zu_o (by omega), zu_o (by omega), zu_o (by omega), zu_o (by omega), zu_o (by omega), zu_o (by omega), hBI a b (by omega)]
    have L : IvL Z2 := fun k hk => by
      match k, hk with
      | 0, _ =>
        have g : Z2 10 0 = nI c := by rw [K _ _ (by omega), e1, zu_o (by omega), zu_o (by omega), zu_o (by omega), zu_o (by omega), zu_o (by omega), zu_o (by omega), zu_o (by omega), zu_o (by omega), zu_o (by omega), zu_o (by omega), zu_o (by omega), zu_s]
        have w : Z2 131 0 = nI c := by rw [e2, zu_o (by omega), zu_o (by omega), zu_o (by omega), zu_o (by omega), zu_o (by omega), zu_o (by omega), zu_o (by omega), zu_s]
        rw [g, w]
      | 1, _ =>
        have g : Z2 10 1 = nI po := by rw [K _ _ (by omega), e1, zu_o (by omega), zu_o (by omega), zu_o (by omega), zu_o (by omega), zu_o (by omega), zu_o (by omega), zu_o (by omega), zu_o (by omega), zu_o (by omega), zu_o (by omega), zu_s]
        have w : Z2 131 1 = nI po := by rw [e2, zu_o (by omega), zu_o (by omega), zu_o (by omega), zu_o (by omega), zu_o (by omega), zu_o (by omega), zu_s]
        rw [g, w]
      | 2, _ =>
        have g : Z2 10 2 = ZI (13 + 4 * c) po := by rw [K _ _ (by omega), e1, zu_o (by omega), zu_o (by omega), zu_o (by omega), zu_o (by omega), zu_o (by omega), zu_o (by omega), zu_o (by omega), zu_o (by omega), zu_o (by omega), zu_s, hA _ _ (by omega)]
        have w : Z2 131 2 = ZI 115 (40 * c + po) := by rw [e2, zu_o (by omega), zu_o (by omega), zu_o (by omega), zu_o (by omega), zu_o (by omega), zu_s, hBI _ _ (by omega)]
        rw [g, w]; exact E13
      | 3, _ =>
        have g : Z2 10 3 = nI (nd + 1) := by rw [K _ _ (by omega), e1, zu_o (by omega), zu_o (by omega), zu_o (by omega), zu_o (by omega), zu_o (by omega), zu_o (by omega), zu_o (by omega), zu_o (by omega), zu_s]
        have w : Z2 131 3 = nI (nd + 1) := by rw [e2, zu_o (by omega), zu_o (by omega), zu_o (by omega), zu_o (by omega), zu_s]
        rw [g, w]
      | 4, _ =>
        have g : Z2 10 4 = ZI (11 + 4 * c) 7 := by rw [K _ _ (by omega), e1, zu_o (by omega), zu_o (by omega), zu_o (by omega), zu_o (by omega), zu_o (by omega), zu_o (by omega), zu_o (by omega), zu_s, hA _ _ (by omega)]
        have w : Z2 131 4 = ZI 121 (24 + c) := by rw [e2, zu_o (by omega), zu_o (by omega), zu_o (by omega), zu_s, hBI _ _ (by omega)]
        rw [g, w]; exact E7
      | k + 5, h => omega
    have x73 : Z2 7 3 = Z2 113 23 := by rw [show Z2 7 3 = ZI 7 3 by rw [K _ _ (by omega), e1, zu_o (by omega), zu_o (by omega), zu_o (by omega), zu_o (by omega), zu_o (by omega), zu_o (by omega), zu_o (by omega), zu_o (by omega), zu_o (by omega), zu_o (by omega), zu_o (by omega), zu_o (by omega), zu_o (by omega), hA _ _ (by omega)], show Z2 113 23 = ZI 113 23 by rw [e2, zu_o (by omega), zu_o (by omega), zu_o (by omega), zu_o (by omega), zu_o (by omega), zu_o (by omega), zu_o (by omega), zu_o (by omega), zu_o (by omega), zu_o (by omega), zu_o (by omega), hBI _ _ (by omega)], u2]
    have x74 : Z2 7 4 = Z2 113 24 := by rw [show Z2 7 4 = ZI 7 4 + nI 1 by rw [K _ _ (by omega), e1, zu_o (by omega), zu_o (by omega), zu_s, hA _ _ (by omega)], show Z2 113 24 = ZI 113 24 + nI 1 by rw [e2, zu_o (by omega), zu_o (by omega), zu_s, hBI _ _ (by omega)], u3]
    have z75 : Z2 7 5 = ZI 7 5 - tbz (ZI 8 ((nd + 1) % 64)) - tbz (ZI 9 ((nd + 1) % 64)) := by rw [K _ _ (by omega), e1, zu_o (by omega), zu_o (by omega), zu_o (by omega), zu_s, hA 7 5 (by omega), hA 8 _ (by omega), hA 9 _ (by omega)]
    have hs1 : ZI 3 4 = nI na := hN'.2.2.2.1.1
    have hs2 : ZI 113 13 = nI na := hN'.2.2.2.1.2.1
    have hF2 : IvF Z2 na := IvF_cg (fun a b q1 q2 => (by rw [K _ _ (by omega), e1, zu_o (by omega), zu_o (by omega), zu_o (by omega), zu_o (by omega), zu_o (by omega), zu_o (by omega), zu_o (by omega), zu_o (by omega), zu_o (by omega), zu_o (by omega), zu_o (by omega), zu_o (by omega), zu_o (by omega), hA _ _ (by omega)])) (fun a b q1 q2 => (by rw [e2, zu_o (by omega), zu_o (by omega), zu_o (by omega), zu_o (by omega), zu_o (by omega), zu_o (by omega), zu_o (by omega), zu_o (by omega), zu_o (by omega), zu_o (by omega), zu_o (by omega), hBI _ _ (by omega)])) hF'
    have g5 : Z2 (11 + 4 * c) 5 = nI (po + 1) := by rw [K _ _ (by omega), e1, zu_s]
    have k5 : Z2 121 c = nI (po + 1) := by rw [e2, zu_o (by omega), zu_s]
    have g6 : Z2 (11 + 4 * c) 6 = if ZI (11 + 4 * c) 6 < ZI (13 + 4 * c) po then ZI (13 + 4 * c) po else ZI (11 + 4 * c) 6 := by rw [K _ _ (by omega), e1, zu_o (by omega), zu_s, hA _ _ (by omega), hA _ _ (by omega)]
    have k6 : Z2 121 (12 + c) = if ZI 121 (12 + c) < ZI 115 (40 * c + po) then ZI 115 (40 * c + po) else ZI 121 (12 + c) := by rw [e2, zu_s, hBI _ _ (by omega), hBI _ _ (by omega)]
    have x5 : Z2 (11 + 4 * c) 5 = Z2 121 c ∧ ∃ q : Nat, q ≤ 40 ∧ Z2 (11 + 4 * c) 5 = nI q := ⟨g5.trans k5.symm, po + 1, by omega, g5⟩
    have x6 : Z2 (11 + 4 * c) 6 = Z2 121 (12 + c) ∧ (Z2 (11 + 4 * c) 6).toInt ≤ 100000 := by
      refine ⟨by rw [g6, k6, E6, E13], ?_⟩
      rw [g6]
      split
      · exact hrw.2.2.2.2
      · exact hpc.2.2.2.2.1
    exact ⟨rfl, Inv.rdx (na' := na) hN' hd' hP' hB' ⟨u1, u2, u3, u4⟩ hM' hs64 hc O (by rw [K _ _ (by omega), e1, zu_o (by omega), zu_o (by omega), zu_o (by omega), zu_o (by omega), zu_o (by omega), zu_o (by omega), zu_o (by omega), zu_o (by omega), zu_o (by omega), zu_o (by omega), zu_o (by omega), zu_o (by omega), zu_s]) (by rw [e2, zu_o (by omega), zu_o (by omega), zu_o (by omega), zu_o (by omega), zu_o (by omega), zu_o (by omega), zu_o (by omega), zu_o (by omega), zu_o (by omega), zu_o (by omega), zu_s]) (by rw [K _ _ (by omega), e1, zu_o (by omega), zu_o (by omega), zu_o (by omega), zu_o (by omega), zu_o (by omega), zu_o (by omega), zu_s]) (by rw [K _ _ (by omega), e1, zu_o (by omega), zu_o (by omega), zu_o (by omega), zu_o (by omega), zu_s]) (by rw [e2, zu_o (by omega), zu_o (by omega), zu_o (by omega), zu_o (by omega), zu_o (by omega), zu_o (by omega), zu_o (by omega), zu_o (by omega), zu_o (by omega), zu_s]) (by rw [e2, zu_o (by omega), zu_o (by omega), zu_o (by omega), zu_o (by omega), zu_o (by omega), zu_o (by omega), zu_o (by omega), zu_o (by omega), zu_s]) z75 L x73 x74 (by rw [show Z2 3 4 = ZI 3 4 from (by rw [K _ _ (by omega), e1, zu_o (by omega), zu_o (by omega), zu_o (by omega), zu_o (by omega), zu_o (by omega), zu_o (by omega), zu_o (by omega), zu_o (by omega), zu_o (by omega), zu_o (by omega), zu_o (by omega), zu_o (by omega), zu_o (by omega), hA _ _ (by omega)])]; exact hs1) (by rw [show Z2 113 13 = ZI 113 13 from by rw [e2, zu_o (by omega), zu_o (by omega), zu_o (by omega), zu_o (by omega), zu_o (by omega), zu_o (by omega), zu_o (by omega), zu_o (by omega), zu_o (by omega), zu_o (by omega), zu_o (by omega), hBI _ _ (by omega)]]; exact hs2) (s3) hF2 x5 x6⟩
  · have K : ∀ a b, a < 113 → Z2 a b = Z1 a b := fun a b q => by rw [e2, zu_o (by omega), zu_o (by omega), zu_o (by omega), zu_o (by omega), zu_o (by omega), zu_o (by omega), zu_o (by omega), zu_o (by omega), zu_o (by omega), zu_o (by omega), zu_o (by omega), hB1 a b q]
    have O : ∀ a b, (a = 7 → b < 2 ∨ 5 < b) → (a = 8 ∨ a = 9 ∨ a = 129 ∨ a = 130 → b ≠ (nd + 1) % 64) → (a ≠ 10 ∧ a ≠ 131) → (a = 113 → b ≠ 0 ∧ b ≠ 13 ∧ b ≠ 22 ∧ b ≠ 23 ∧ b ≠ 24) → (a < 3 ∨ 6 < a) → (a ≠ 122 ∧ a ≠ 123) → (a = 11 + 4 * c → b ≠ 5 ∧ b ≠ 6) → (a = 121 → b ≠ c ∧ b ≠ 12 + c) → Z2 a b = ZI a b := fun a b q1 q2 q3 q4 q5 q6 q7 q8 => by
      by_cases q : a < 113
      · rw [K a b q, e1, zu_o (by omega), zu_o (by omega), zu_o (by omega), zu_o (by omega), zu_o (by omega), zu_o (by omega), zu_o (by omega), zu_o (by omega), zu_o (by omega), zu_o (by omega), zu_o (by omega), zu_o (by omega), zu_o (by omega), zu_o (by omega), hA a b q]
      · rw [e2, zu_o (by omega), zu_o (by omega), zu_o (by omega), zu_o (by omega), zu_o (by omega), zu_o (by omega), zu_o (by omega), zu_o (by omega), zu_o (by omega), zu_o (by omega), zu_o (by omega), hBI a b (by omega)]
    have L : IvL Z2 := fun k hk => by
      match k, hk with
      | 0, _ =>
        have g : Z2 10 0 = nI c := by rw [K _ _ (by omega), e1, zu_o (by omega), zu_o (by omega), zu_o (by omega), zu_o (by omega), zu_o (by omega), zu_o (by omega), zu_o (by omega), zu_o (by omega), zu_o (by omega), zu_o (by omega), zu_o (by omega), zu_o (by omega), zu_s]
        have w : Z2 131 0 = nI c := by rw [e2, zu_o (by omega), zu_o (by omega), zu_o (by omega), zu_o (by omega), zu_o (by omega), zu_o (by omega), zu_o (by omega), zu_s]
        rw [g, w]
      | 1, _ =>
        have g : Z2 10 1 = nI po := by rw [K _ _ (by omega), e1, zu_o (by omega), zu_o (by omega), zu_o (by omega), zu_o (by omega), zu_o (by omega), zu_o (by omega), zu_o (by omega), zu_o (by omega), zu_o (by omega), zu_o (by omega), zu_o (by omega), zu_s]
        have w : Z2 131 1 = nI po := by rw [e2, zu_o (by omega), zu_o (by omega), zu_o (by omega), zu_o (by omega), zu_o (by omega), zu_o (by omega), zu_s]
        rw [g, w]
      | 2, _ =>
        have g : Z2 10 2 = ZI (13 + 4 * c) po := by rw [K _ _ (by omega), e1, zu_o (by omega), zu_o (by omega), zu_o (by omega), zu_o (by omega), zu_o (by omega), zu_o (by omega), zu_o (by omega), zu_o (by omega), zu_o (by omega), zu_o (by omega), zu_s, hA _ _ (by omega)]
        have w : Z2 131 2 = ZI 115 (40 * c + po) := by rw [e2, zu_o (by omega), zu_o (by omega), zu_o (by omega), zu_o (by omega), zu_o (by omega), zu_s, hBI _ _ (by omega)]
        rw [g, w]; exact E13
      | 3, _ =>
        have g : Z2 10 3 = nI (nd + 1) := by rw [K _ _ (by omega), e1, zu_o (by omega), zu_o (by omega), zu_o (by omega), zu_o (by omega), zu_o (by omega), zu_o (by omega), zu_o (by omega), zu_o (by omega), zu_o (by omega), zu_s]
        have w : Z2 131 3 = nI (nd + 1) := by rw [e2, zu_o (by omega), zu_o (by omega), zu_o (by omega), zu_o (by omega), zu_s]
        rw [g, w]
      | 4, _ =>
        have g : Z2 10 4 = ZI (11 + 4 * c) 7 := by rw [K _ _ (by omega), e1, zu_o (by omega), zu_o (by omega), zu_o (by omega), zu_o (by omega), zu_o (by omega), zu_o (by omega), zu_o (by omega), zu_o (by omega), zu_s, hA _ _ (by omega)]
        have w : Z2 131 4 = ZI 121 (24 + c) := by rw [e2, zu_o (by omega), zu_o (by omega), zu_o (by omega), zu_s, hBI _ _ (by omega)]
        rw [g, w]; exact E7
      | k + 5, h => omega
    have x73 : Z2 7 3 = Z2 113 23 := by rw [show Z2 7 3 = ZI 7 3 by rw [K _ _ (by omega), e1, zu_o (by omega), zu_o (by omega), zu_o (by omega), zu_o (by omega), zu_o (by omega), zu_o (by omega), zu_o (by omega), zu_o (by omega), zu_o (by omega), zu_o (by omega), zu_o (by omega), zu_o (by omega), zu_o (by omega), zu_o (by omega), hA _ _ (by omega)], show Z2 113 23 = ZI 113 23 by rw [e2, zu_o (by omega), zu_o (by omega), zu_o (by omega), zu_o (by omega), zu_o (by omega), zu_o (by omega), zu_o (by omega), zu_o (by omega), zu_o (by omega), zu_o (by omega), zu_o (by omega), hBI _ _ (by omega)], u2]
    have x74 : Z2 7 4 = Z2 113 24 := by rw [show Z2 7 4 = ZI 7 4 by rw [K _ _ (by omega), e1, zu_o (by omega), zu_o (by omega), zu_o (by omega), zu_o (by omega), zu_o (by omega), zu_o (by omega), zu_o (by omega), zu_o (by omega), zu_o (by omega), zu_o (by omega), zu_o (by omega), zu_o (by omega), zu_o (by omega), zu_o (by omega), hA _ _ (by omega)], show Z2 113 24 = ZI 113 24 by rw [e2, zu_o (by omega), zu_o (by omega), zu_o (by omega), zu_o (by omega), zu_o (by omega), zu_o (by omega), zu_o (by omega), zu_o (by omega), zu_o (by omega), zu_o (by omega), zu_o (by omega), hBI _ _ (by omega)], u3]
    have z75 : Z2 7 5 = ZI 7 5 - tbz (ZI 8 ((nd + 1) % 64)) - tbz (ZI 9 ((nd + 1) % 64)) := by rw [K _ _ (by omega), e1, zu_o (by omega), zu_o (by omega), zu_o (by omega), zu_o (by omega), zu_s, hA 7 5 (by omega), hA 8 _ (by omega), hA 9 _ (by omega)]
    have hs1 : ZI 3 4 = nI na := hN'.2.2.2.1.1
    have hs2 : ZI 113 13 = nI na := hN'.2.2.2.1.2.1
    have hF2 : IvF Z2 na := by
      have g4 : Z2 4 nu = nI 1 := by rw [K _ _ (by omega), e1, zu_o (by omega), zu_o (by omega), zu_o (by omega), zu_s]
      have k4 : Z2 122 nu = nI 1 := by rw [e2, zu_o (by omega), zu_o (by omega), zu_s]
      have o4 : ∀ k, k ≠ nu → Z2 4 k = ZI 4 k := fun k hk => (by rw [K _ _ (by omega), e1, zu_o (by omega), zu_o (by omega), zu_o (by omega), zu_o (by omega), zu_o (by omega), zu_o (by omega), zu_o (by omega), zu_o (by omega), zu_o (by omega), zu_o (by omega), zu_o (by omega), zu_o (by omega), zu_o (by omega), zu_o (by omega), hA _ _ (by omega)])
      have o122 : ∀ k, k ≠ nu → Z2 122 k = ZI 122 k := fun k hk => (by rw [e2, zu_o (by omega), zu_o (by omega), zu_o (by omega), zu_o (by omega), zu_o (by omega), zu_o (by omega), zu_o (by omega), zu_o (by omega), zu_o (by omega), zu_o (by omega), zu_o (by omega), hBI _ _ (by omega)])
      refine ⟨fun k hk => ?_, ?_, fun j hj => ?_⟩
      · by_cases e9 : k = nu
        · rw [e9]; exact ⟨g4.trans k4.symm, Or.inr g4⟩
        · rw [o4 k e9, o122 k e9]; exact hF'.1 k hk
      · rw [show Z2 3 3 = ZI 3 3 + nI 1 from by rw [K _ _ (by omega), e1, zu_o (by omega), zu_o (by omega), zu_s, hA _ _ (by omega)], hF'.2.1, nI_add, zcn_inc (f := gbz ZI 4) (g := gbz Z2 4) hnu.2 (gbz_f (bz_0 B4 (by rw [← hA _ _ (by omega)]; exact k1.2.2.1))) (gbz_t g4) (fun k _ hk => gbz_e (o4 k hk))]
      · rw [show Z2 5 j = ZI 5 j from (by rw [K _ _ (by omega), e1, zu_o (by omega), zu_o (by omega), zu_o (by omega), zu_o (by omega), zu_o (by omega), zu_o (by omega), zu_o (by omega), zu_o (by omega), zu_o (by omega), zu_o (by omega), zu_o (by omega), zu_o (by omega), zu_o (by omega), zu_o (by omega), hA _ _ (by omega)]), show Z2 6 j = ZI 6 j from (by rw [K _ _ (by omega), e1, zu_o (by omega), zu_o (by omega), zu_o (by omega), zu_o (by omega), zu_o (by omega), zu_o (by omega), zu_o (by omega), zu_o (by omega), zu_o (by omega), zu_o (by omega), zu_o (by omega), zu_o (by omega), zu_o (by omega), zu_o (by omega), hA _ _ (by omega)]), show Z2 123 (2 * j) = ZI 123 (2 * j) from (by rw [e2, zu_o (by omega), zu_o (by omega), zu_o (by omega), zu_o (by omega), zu_o (by omega), zu_o (by omega), zu_o (by omega), zu_o (by omega), zu_o (by omega), zu_o (by omega), zu_o (by omega), hBI _ _ (by omega)]), show Z2 123 (2 * j + 1) = ZI 123 (2 * j + 1) from (by rw [e2, zu_o (by omega), zu_o (by omega), zu_o (by omega), zu_o (by omega), zu_o (by omega), zu_o (by omega), zu_o (by omega), zu_o (by omega), zu_o (by omega), zu_o (by omega), zu_o (by omega), hBI _ _ (by omega)])]; exact hF'.2.2 j hj
    have g5 : Z2 (11 + 4 * c) 5 = nI (po + 1) := by rw [K _ _ (by omega), e1, zu_s]
    have k5 : Z2 121 c = nI (po + 1) := by rw [e2, zu_o (by omega), zu_s]
    have g6 : Z2 (11 + 4 * c) 6 = if ZI (11 + 4 * c) 6 < ZI (13 + 4 * c) po then ZI (13 + 4 * c) po else ZI (11 + 4 * c) 6 := by rw [K _ _ (by omega), e1, zu_o (by omega), zu_s, hA _ _ (by omega), hA _ _ (by omega)]
    have k6 : Z2 121 (12 + c) = if ZI 121 (12 + c) < ZI 115 (40 * c + po) then ZI 115 (40 * c + po) else ZI 121 (12 + c) := by rw [e2, zu_s, hBI _ _ (by omega), hBI _ _ (by omega)]
    have x5 : Z2 (11 + 4 * c) 5 = Z2 121 c ∧ ∃ q : Nat, q ≤ 40 ∧ Z2 (11 + 4 * c) 5 = nI q := ⟨g5.trans k5.symm, po + 1, by omega, g5⟩
    have x6 : Z2 (11 + 4 * c) 6 = Z2 121 (12 + c) ∧ (Z2 (11 + 4 * c) 6).toInt ≤ 100000 := by
      refine ⟨by rw [g6, k6, E6, E13], ?_⟩
      rw [g6]
      split
      · exact hrw.2.2.2.2
      · exact hpc.2.2.2.2.1
    exact ⟨rfl, Inv.rdx (na' := na) hN' hd' hP' hB' ⟨u1, u2, u3, u4⟩ hM' hs64 hc O (by rw [K _ _ (by omega), e1, zu_o (by omega), zu_o (by omega), zu_o (by omega), zu_o (by omega), zu_o (by omega), zu_o (by omega), zu_o (by omega), zu_o (by omega), zu_o (by omega), zu_o (by omega), zu_o (by omega), zu_o (by omega), zu_o (by omega), zu_s]) (by rw [e2, zu_o (by omega), zu_o (by omega), zu_o (by omega), zu_o (by omega), zu_o (by omega), zu_o (by omega), zu_o (by omega), zu_o (by omega), zu_o (by omega), zu_o (by omega), zu_s]) (by rw [K _ _ (by omega), e1, zu_o (by omega), zu_o (by omega), zu_o (by omega), zu_o (by omega), zu_o (by omega), zu_o (by omega), zu_o (by omega), zu_s]) (by rw [K _ _ (by omega), e1, zu_o (by omega), zu_o (by omega), zu_o (by omega), zu_o (by omega), zu_o (by omega), zu_s]) (by rw [e2, zu_o (by omega), zu_o (by omega), zu_o (by omega), zu_o (by omega), zu_o (by omega), zu_o (by omega), zu_o (by omega), zu_o (by omega), zu_o (by omega), zu_s]) (by rw [e2, zu_o (by omega), zu_o (by omega), zu_o (by omega), zu_o (by omega), zu_o (by omega), zu_o (by omega), zu_o (by omega), zu_o (by omega), zu_s]) z75 L x73 x74 (by rw [show Z2 3 4 = ZI 3 4 from (by rw [K _ _ (by omega), e1, zu_o (by omega), zu_o (by omega), zu_o (by omega), zu_o (by omega), zu_o (by omega), zu_o (by omega), zu_o (by omega), zu_o (by omega), zu_o (by omega), zu_o (by omega), zu_o (by omega), zu_o (by omega), zu_o (by omega), zu_o (by omega), hA _ _ (by omega)])]; exact hs1) (by rw [show Z2 113 13 = ZI 113 13 from by rw [e2, zu_o (by omega), zu_o (by omega), zu_o (by omega), zu_o (by omega), zu_o (by omega), zu_o (by omega), zu_o (by omega), zu_o (by omega), zu_o (by omega), zu_o (by omega), zu_o (by omega), hBI _ _ (by omega)]]; exact hs2) (s3) hF2 x5 x6⟩
  · have K : ∀ a b, a < 113 → Z2 a b = Z1 a b := fun a b q => by rw [e2, zu_o (by omega), zu_o (by omega), zu_o (by omega), zu_o (by omega), zu_o (by omega), zu_o (by omega), zu_o (by omega), zu_o (by omega), zu_o (by omega), hB1 a b q]
    have O : ∀ a b, (a = 7 → b < 2 ∨ 5 < b) → (a = 8 ∨ a = 9 ∨ a = 129 ∨ a = 130 → b ≠ (nd + 1) % 64) → (a ≠ 10 ∧ a ≠ 131) → (a = 113 → b ≠ 0 ∧ b ≠ 13 ∧ b ≠ 22 ∧ b ≠ 23 ∧ b ≠ 24) → (a < 3 ∨ 6 < a) → (a ≠ 122 ∧ a ≠ 123) → (a = 11 + 4 * c → b ≠ 5 ∧ b ≠ 6) → (a = 121 → b ≠ c ∧ b ≠ 12 + c) → Z2 a b = ZI a b := fun a b q1 q2 q3 q4 q5 q6 q7 q8 => by
      by_cases q : a < 113
      · rw [K a b q, e1, zu_o (by omega), zu_o (by omega), zu_o (by omega), zu_o (by omega), zu_o (by omega), zu_o (by omega), zu_o (by omega), zu_o (by omega), zu_o (by omega), zu_o (by omega), zu_o (by omega), zu_o (by omega), hA a b q]
      · rw [e2, zu_o (by omega), zu_o (by omega), zu_o (by omega), zu_o (by omega), zu_o (by omega), zu_o (by omega), zu_o (by omega), zu_o (by omega), zu_o (by omega), hBI a b (by omega)]
    have L : IvL Z2 := fun k hk => by
      match k, hk with
      | 0, _ =>
        have g : Z2 10 0 = nI c := by rw [K _ _ (by omega), e1, zu_o (by omega), zu_o (by omega), zu_o (by omega), zu_o (by omega), zu_o (by omega), zu_o (by omega), zu_o (by omega), zu_o (by omega), zu_o (by omega), zu_o (by omega), zu_s]
        have w : Z2 131 0 = nI c := by rw [e2, zu_o (by omega), zu_o (by omega), zu_o (by omega), zu_o (by omega), zu_o (by omega), zu_s]
        rw [g, w]
      | 1, _ =>
        have g : Z2 10 1 = nI po := by rw [K _ _ (by omega), e1, zu_o (by omega), zu_o (by omega), zu_o (by omega), zu_o (by omega), zu_o (by omega), zu_o (by omega), zu_o (by omega), zu_o (by omega), zu_o (by omega), zu_s]
        have w : Z2 131 1 = nI po := by rw [e2, zu_o (by omega), zu_o (by omega), zu_o (by omega), zu_o (by omega), zu_s]
        rw [g, w]
      | 2, _ =>
        have g : Z2 10 2 = ZI (13 + 4 * c) po := by rw [K _ _ (by omega), e1, zu_o (by omega), zu_o (by omega), zu_o (by omega), zu_o (by omega), zu_o (by omega), zu_o (by omega), zu_o (by omega), zu_o (by omega), zu_s, hA _ _ (by omega)]
        have w : Z2 131 2 = ZI 115 (40 * c + po) := by rw [e2, zu_o (by omega), zu_o (by omega), zu_o (by omega), zu_s, hBI _ _ (by omega)]
        rw [g, w]; exact E13
      | 3, _ =>
        have g : Z2 10 3 = nI (nd + 1) := by rw [K _ _ (by omega), e1, zu_o (by omega), zu_o (by omega), zu_o (by omega), zu_o (by omega), zu_o (by omega), zu_o (by omega), zu_o (by omega), zu_s]
        have w : Z2 131 3 = nI (nd + 1) := by rw [e2, zu_o (by omega), zu_o (by omega), zu_s]
        rw [g, w]
      | 4, _ =>
        have g : Z2 10 4 = ZI (11 + 4 * c) 7 := by rw [K _ _ (by omega), e1, zu_o (by omega), zu_o (by omega), zu_o (by omega), zu_o (by omega), zu_o (by omega), zu_o (by omega), zu_s, hA _ _ (by omega)]
        have w : Z2 131 4 = ZI 121 (24 + c) := by rw [e2, zu_o (by omega), zu_s, hBI _ _ (by omega)]
        rw [g, w]; exact E7
      | k + 5, h => omega
    have x73 : Z2 7 3 = Z2 113 23 := by rw [show Z2 7 3 = ZI 7 3 by rw [K _ _ (by omega), e1, zu_o (by omega), zu_o (by omega), zu_o (by omega), zu_o (by omega), zu_o (by omega), zu_o (by omega), zu_o (by omega), zu_o (by omega), zu_o (by omega), zu_o (by omega), zu_o (by omega), zu_o (by omega), hA _ _ (by omega)], show Z2 113 23 = ZI 113 23 by rw [e2, zu_o (by omega), zu_o (by omega), zu_o (by omega), zu_o (by omega), zu_o (by omega), zu_o (by omega), zu_o (by omega), zu_o (by omega), zu_o (by omega), hBI _ _ (by omega)], u2]
    have x74 : Z2 7 4 = Z2 113 24 := by rw [show Z2 7 4 = ZI 7 4 by rw [K _ _ (by omega), e1, zu_o (by omega), zu_o (by omega), zu_o (by omega), zu_o (by omega), zu_o (by omega), zu_o (by omega), zu_o (by omega), zu_o (by omega), zu_o (by omega), zu_o (by omega), zu_o (by omega), zu_o (by omega), hA _ _ (by omega)], show Z2 113 24 = ZI 113 24 by rw [e2, zu_o (by omega), zu_o (by omega), zu_o (by omega), zu_o (by omega), zu_o (by omega), zu_o (by omega), zu_o (by omega), zu_o (by omega), zu_o (by omega), hBI _ _ (by omega)], u3]
    have z75 : Z2 7 5 = ZI 7 5 - tbz (ZI 8 ((nd + 1) % 64)) - tbz (ZI 9 ((nd + 1) % 64)) := by rw [K _ _ (by omega), e1, zu_o (by omega), zu_o (by omega), zu_s, hA 7 5 (by omega), hA 8 _ (by omega), hA 9 _ (by omega)]
    have hs1 : ZI 3 4 = nI na := hN'.2.2.2.1.1
    have hs2 : ZI 113 13 = nI na := hN'.2.2.2.1.2.1
    have hF2 : IvF Z2 na := by
      have g4 : Z2 4 nu = nI 1 := by rw [K _ _ (by omega), e1, zu_o (by omega), zu_s]
      have k4 : Z2 122 nu = nI 1 := by rw [e2, zu_s]
      have o4 : ∀ k, k ≠ nu → Z2 4 k = ZI 4 k := fun k hk => (by rw [K _ _ (by omega), e1, zu_o (by omega), zu_o (by omega), zu_o (by omega), zu_o (by omega), zu_o (by omega), zu_o (by omega), zu_o (by omega), zu_o (by omega), zu_o (by omega), zu_o (by omega), zu_o (by omega), zu_o (by omega), hA _ _ (by omega)])
      have o122 : ∀ k, k ≠ nu → Z2 122 k = ZI 122 k := fun k hk => (by rw [e2, zu_o (by omega), zu_o (by omega), zu_o (by omega), zu_o (by omega), zu_o (by omega), zu_o (by omega), zu_o (by omega), zu_o (by omega), zu_o (by omega), hBI _ _ (by omega)])
      refine ⟨fun k hk => ?_, ?_, fun j hj => ?_⟩
      · by_cases e9 : k = nu
        · rw [e9]; exact ⟨g4.trans k4.symm, Or.inr g4⟩
        · rw [o4 k e9, o122 k e9]; exact hF'.1 k hk
      · rw [show Z2 3 3 = ZI 3 3 + nI 1 from by rw [K _ _ (by omega), e1, zu_s, hA _ _ (by omega)], hF'.2.1, nI_add, zcn_inc (f := gbz ZI 4) (g := gbz Z2 4) hnu.2 (gbz_f (bz_0 B4 (by rw [← hA _ _ (by omega)]; exact k1.2.2.1))) (gbz_t g4) (fun k _ hk => gbz_e (o4 k hk))]
      · rw [show Z2 5 j = ZI 5 j from (by rw [K _ _ (by omega), e1, zu_o (by omega), zu_o (by omega), zu_o (by omega), zu_o (by omega), zu_o (by omega), zu_o (by omega), zu_o (by omega), zu_o (by omega), zu_o (by omega), zu_o (by omega), zu_o (by omega), zu_o (by omega), hA _ _ (by omega)]), show Z2 6 j = ZI 6 j from (by rw [K _ _ (by omega), e1, zu_o (by omega), zu_o (by omega), zu_o (by omega), zu_o (by omega), zu_o (by omega), zu_o (by omega), zu_o (by omega), zu_o (by omega), zu_o (by omega), zu_o (by omega), zu_o (by omega), zu_o (by omega), hA _ _ (by omega)]), show Z2 123 (2 * j) = ZI 123 (2 * j) from (by rw [e2, zu_o (by omega), zu_o (by omega), zu_o (by omega), zu_o (by omega), zu_o (by omega), zu_o (by omega), zu_o (by omega), zu_o (by omega), zu_o (by omega), hBI _ _ (by omega)]), show Z2 123 (2 * j + 1) = ZI 123 (2 * j + 1) from (by rw [e2, zu_o (by omega), zu_o (by omega), zu_o (by omega), zu_o (by omega), zu_o (by omega), zu_o (by omega), zu_o (by omega), zu_o (by omega), zu_o (by omega), hBI _ _ (by omega)])]; exact hF'.2.2 j hj
    have x5 := hpc.x5 (Z2 := Z2) (by rw [K _ _ (by omega), e1, zu_o (by omega), zu_o (by omega), zu_o (by omega), zu_o (by omega), zu_o (by omega), zu_o (by omega), zu_o (by omega), zu_o (by omega), zu_o (by omega), zu_o (by omega), zu_o (by omega), zu_o (by omega), hA _ _ (by omega)]) (by rw [e2, zu_o (by omega), zu_o (by omega), zu_o (by omega), zu_o (by omega), zu_o (by omega), zu_o (by omega), zu_o (by omega), zu_o (by omega), zu_o (by omega), hBI _ _ (by omega)])
    have x6 := hpc.x6 (Z2 := Z2) (by rw [K _ _ (by omega), e1, zu_o (by omega), zu_o (by omega), zu_o (by omega), zu_o (by omega), zu_o (by omega), zu_o (by omega), zu_o (by omega), zu_o (by omega), zu_o (by omega), zu_o (by omega), zu_o (by omega), zu_o (by omega), hA _ _ (by omega)]) (by rw [e2, zu_o (by omega), zu_o (by omega), zu_o (by omega), zu_o (by omega), zu_o (by omega), zu_o (by omega), zu_o (by omega), zu_o (by omega), zu_o (by omega), hBI _ _ (by omega)])
    exact ⟨rfl, Inv.rdx (na' := na) hN' hd' hP' hB' ⟨u1, u2, u3, u4⟩ hM' hs64 hc O (by rw [K _ _ (by omega), e1, zu_o (by omega), zu_o (by omega), zu_o (by omega), zu_o (by omega), zu_o (by omega), zu_o (by omega), zu_o (by omega), zu_o (by omega), zu_o (by omega), zu_o (by omega), zu_o (by omega), zu_s]) (by rw [e2, zu_o (by omega), zu_o (by omega), zu_o (by omega), zu_o (by omega), zu_o (by omega), zu_o (by omega), zu_o (by omega), zu_o (by omega), zu_s]) (by rw [K _ _ (by omega), e1, zu_o (by omega), zu_o (by omega), zu_o (by omega), zu_o (by omega), zu_o (by omega), zu_s]) (by rw [K _ _ (by omega), e1, zu_o (by omega), zu_o (by omega), zu_o (by omega), zu_s]) (by rw [e2, zu_o (by omega), zu_o (by omega), zu_o (by omega), zu_o (by omega), zu_o (by omega), zu_o (by omega), zu_o (by omega), zu_s]) (by rw [e2, zu_o (by omega), zu_o (by omega), zu_o (by omega), zu_o (by omega), zu_o (by omega), zu_o (by omega), zu_s]) z75 L x73 x74 (by rw [show Z2 3 4 = ZI 3 4 from (by rw [K _ _ (by omega), e1, zu_o (by omega), zu_o (by omega), zu_o (by omega), zu_o (by omega), zu_o (by omega), zu_o (by omega), zu_o (by omega), zu_o (by omega), zu_o (by omega), zu_o (by omega), zu_o (by omega), zu_o (by omega), hA _ _ (by omega)])]; exact hs1) (by rw [show Z2 113 13 = ZI 113 13 from by rw [e2, zu_o (by omega), zu_o (by omega), zu_o (by omega), zu_o (by omega), zu_o (by omega), zu_o (by omega), zu_o (by omega), zu_o (by omega), zu_o (by omega), hBI _ _ (by omega)]]; exact hs2) (s3) hF2 x5 x6⟩
end OP5
