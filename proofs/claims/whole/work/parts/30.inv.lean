/-! THE INVARIANT between the class's cells (0 .. 112) and the reference's (113 .. 131). -/
def bz (x : Int32) : Prop := x = 0 ∨ x = 1
def rcf (Z : ZT) (i : Nat) : Nat := (Z (11 + 4 * i) 3).toNatClampNeg
def pof (Z : ZT) (i : Nat) : Nat := (Z (11 + 4 * i) 5).toNatClampNeg
def nuf (Z : ZT) (i j : Nat) : Nat := (Z (12 + 4 * i) j).toNatClampNeg
def IvN (Z : ZT) (np nm nt na nd : Nat) : Prop := (Z 0 5 = nI np ∧ Z 113 1 = nI np ∧ np ≤ 12) ∧ (Z 0 6 = nI nm ∧ Z 113 14 = nI nm ∧ nm ≤ 6) ∧ (Z 0 7 = nI nt ∧ Z 113 2 = nI nt ∧ 1 ≤ nt ∧ nt ≤ 6) ∧ (Z 3 4 = nI na ∧ Z 113 13 = nI na ∧ na ≤ 100) ∧ (Z 7 2 = nI nd ∧ Z 113 22 = nI nd)
/-- a row of a part -/
def IvR (Z : ZT) (p j : Nat) : Prop := Z (12 + 4 * p) j = Z 114 (40 * p + j) ∧ Z (13 + 4 * p) j = Z 115 (40 * p + j) ∧ Z (14 + 4 * p) j = Z 116 (40 * p + j) ∧ (∃ n : Nat, n < 256 ∧ Z (12 + 4 * p) j = nI n) ∧ (Z (13 + 4 * p) j).toInt ≤ 100000
/-- a part -/
def IvP (Z : ZT) (p : Nat) : Prop := (Z (11 + 4 * p) 3 = Z 117 p ∧ Z (11 + 4 * p) 4 = Z 118 p ∧ Z (11 + 4 * p) 5 = Z 121 p ∧ Z (11 + 4 * p) 6 = Z 121 (12 + p) ∧ Z (11 + 4 * p) 7 = Z 121 (24 + p) ∧ Z (11 + 4 * p) 8 = Z 119 p ∧ Z (11 + 4 * p) 9 = Z 121 (36 + p) ∧ Z (11 + 4 * p) 10 = Z 120 p) ∧
  (∃ r : Nat, r ≤ 40 ∧ Z (11 + 4 * p) 3 = nI r ∧ ∀ j, j < r → IvR Z p j) ∧ (∃ q : Nat, q ≤ 40 ∧ Z (11 + 4 * p) 5 = nI q) ∧ bz (Z (11 + 4 * p) 4) ∧ (Z (11 + 4 * p) 6).toInt ≤ 100000 ∧ (1 ≤ (Z (11 + 4 * p) 8).toInt ∧ (Z (11 + 4 * p) 8).toInt ≤ 9)
def IvB (Z : ZT) : Prop := ∀ i, i < 12 → ∀ j, j < 40 → bz (Z (14 + 4 * i) j)
def IvF (Z : ZT) (na : Nat) : Prop := (∀ k, k < 256 → Z 4 k = Z 122 k ∧ bz (Z 4 k)) ∧ Z 3 3 = nI (zcn (gbz Z 4) 256) ∧ ∀ j, j < na → Z 5 j = Z 123 (2 * j) ∧ Z 6 j = Z 123 (2 * j + 1)
def IvD (Z : ZT) : Prop := (∀ k, k < 64 → Z 8 k = Z 129 k ∧ Z 9 k = Z 130 k ∧ bz (Z 8 k) ∧ bz (Z 9 k)) ∧ Z 7 3 = Z 113 23 ∧ Z 7 4 = Z 113 24 ∧ Z 7 5 = nI (zcn (gbz Z 8) 64 + zcn (gbz Z 9) 64)
def IvL (Z : ZT) : Prop := ∀ k, k < 5 → Z 10 k = Z 131 k
/-- what a mark keeps of a part -/
def IvK (Z : ZT) (m p : Nat) : Prop := Z (60 + 9 * m) p = Z 124 (48 * m + p) ∧ Z (61 + 9 * m) p = Z 124 (48 * m + 12 + p) ∧ Z (62 + 9 * m) p = Z 124 (48 * m + 24 + p) ∧ Z (63 + 9 * m) p = Z 124 (48 * m + 36 + p) ∧ (∃ q : Nat, q ≤ 40 ∧ Z (60 + 9 * m) p = nI q) ∧ (Z (61 + 9 * m) p).toInt ≤ 100000
def IvM (Z : ZT) (m : Nat) : Prop := ∃ kp ma : Nat, (kp ≤ 12 ∧ Z (59 + 9 * m) 5 = nI kp ∧ Z 128 m = nI kp) ∧ (ma ≤ 100 ∧ Z (64 + 9 * m) 4 = nI ma ∧ Z 127 m = nI ma) ∧ Z (64 + 9 * m) 3 = nI (zcn (gbz Z (65 + 9 * m)) 256) ∧ (∀ k, k < 256 → Z (65 + 9 * m) k = Z 125 (256 * m + k) ∧ bz (Z (65 + 9 * m) k)) ∧ (∀ j, j < ma → Z (66 + 9 * m) j = Z 126 (200 * m + 2 * j) ∧ Z (67 + 9 * m) j = Z 126 (200 * m + (2 * j + 1))) ∧ ∀ p, p < kp → IvK Z m p
def Inv (d : Nat) (Z : ZT) : Prop := ∃ np nm nt na nd : Nat, IvN Z np nm nt na nd ∧ nd ≤ d ∧ (∀ p, p < np → IvP Z p) ∧ IvB Z ∧ IvF Z na ∧ IvD Z ∧ IvL Z ∧ ∀ m, m < nm → IvM Z m
theorem nI_cl {x : Int32} {n : Nat} (h : x = nI n) (hn : n < 2 ^ 31) : x.toNatClampNeg = n := by rw [h, nI_clamp hn]
theorem nI_inj {a b : Nat} (ha : a < 2 ^ 31) (hb : b < 2 ^ 31) (h : nI a = nI b) : a = b := (nI_eq ha hb).mp h
/-! one predicate by what it reads -/
theorem IvR_cg {Z Z' : ZT} {p j : Nat} (h1 : ∀ c, 12 + 4 * p ≤ c → c < 15 + 4 * p → Z' c j = Z c j) (h2 : ∀ c, 114 ≤ c → c ≤ 116 → Z' c (40 * p + j) = Z c (40 * p + j)) (h : IvR Z p j) : IvR Z' p j := by
  unfold IvR at h ⊢
  rw [h1 (12 + 4 * p) (by omega) (by omega), h1 (13 + 4 * p) (by omega) (by omega), h1 (14 + 4 * p) (by omega) (by omega), h2 114 (by omega) (by omega), h2 115 (by omega) (by omega), h2 116 (by omega) (by omega)]
  exact h
theorem IvP_cg {Z Z' : ZT} {p : Nat} (h1 : ∀ c f, 11 + 4 * p ≤ c → c < 15 + 4 * p → Z' c f = Z c f) (h2 : ∀ c j, 114 ≤ c → c ≤ 116 → j < 40 → Z' c (40 * p + j) = Z c (40 * p + j)) (h3 : ∀ c, 117 ≤ c → c ≤ 121 → Z' c p = Z c p) (h4 : Z' 121 (12 + p) = Z 121 (12 + p)) (h5 : Z' 121 (24 + p) = Z 121 (24 + p)) (h6 : Z' 121 (36 + p) = Z 121 (36 + p)) (h : IvP Z p) : IvP Z' p := by
  obtain ⟨⟨a1, a2, a3, a4, a5, a6, a7, a8⟩, ⟨r, hr, b1, b2⟩, b3, b4, b5, b6⟩ := h
  have e : ∀ f, Z' (11 + 4 * p) f = Z (11 + 4 * p) f := fun f => h1 _ f (by omega) (by omega)
  refine ⟨⟨?_, ?_, ?_, ?_, ?_, ?_, ?_, ?_⟩, ⟨r, hr, by rw [e]; exact b1, fun j hj => IvR_cg (fun c q1 q2 => h1 c j (by omega) q2) (fun c q1 q2 => h2 c j q1 q2 (by omega)) (b2 j hj)⟩, by rw [e]; exact b3, by rw [e]; exact b4, by rw [e]; exact b5, by rw [e]; exact b6⟩
  · rw [e, h3 117 (by omega) (by omega)]; exact a1
  · rw [e, h3 118 (by omega) (by omega)]; exact a2
  · rw [e, h3 121 (by omega) (by omega)]; exact a3
  · rw [e, h4]; exact a4
  · rw [e, h5]; exact a5
  · rw [e, h3 119 (by omega) (by omega)]; exact a6
  · rw [e, h6]; exact a7
  · rw [e, h3 120 (by omega) (by omega)]; exact a8
theorem gbz_cg {Z Z' : ZT} {c c' n : Nat} (h : ∀ k, k < n → Z' c' k = Z c k) : zcn (gbz Z' c') n = zcn (gbz Z c) n := zcn_congr (fun i hi => by simp only [gbz, h i hi])
theorem IvF_cg {Z Z' : ZT} {na : Nat} (h1 : ∀ c f, 3 ≤ c → c ≤ 6 → Z' c f = Z c f) (h2 : ∀ c f, 122 ≤ c → c ≤ 123 → Z' c f = Z c f) (h : IvF Z na) : IvF Z' na := by
  obtain ⟨a1, a2, a3⟩ := h
  refine ⟨fun k hk => by rw [h1 4 k (by omega) (by omega), h2 122 k (by omega) (by omega)]; exact a1 k hk, ?_, fun j hj => by rw [h1 5 j (by omega) (by omega), h1 6 j (by omega) (by omega), h2 123 _ (by omega) (by omega), h2 123 _ (by omega) (by omega)]; exact a3 j hj⟩
  rw [h1 3 3 (by omega) (by omega), a2, gbz_cg (fun k _ => h1 4 k (by omega) (by omega))]
theorem IvD_cg {Z Z' : ZT} (h1 : ∀ c f, 7 ≤ c → c ≤ 9 → (c = 7 → f ≠ 2) → Z' c f = Z c f) (h2 : ∀ c f, 129 ≤ c → c ≤ 130 → Z' c f = Z c f) (h3 : Z' 113 23 = Z 113 23) (h4 : Z' 113 24 = Z 113 24) (h : IvD Z) : IvD Z' := by
  obtain ⟨a1, a2, a3, a4⟩ := h
  refine ⟨fun k hk => by rw [h1 8 k (by omega) (by omega) (by omega), h1 9 k (by omega) (by omega) (by omega), h2 129 k (by omega) (by omega), h2 130 k (by omega) (by omega)]; exact a1 k hk, ?_, ?_, ?_⟩
  · rw [h1 7 3 (by omega) (by omega) (by omega), h3]; exact a2
  · rw [h1 7 4 (by omega) (by omega) (by omega), h4]; exact a3
  · rw [h1 7 5 (by omega) (by omega) (by omega), a4, gbz_cg (fun k _ => h1 8 k (by omega) (by omega) (by omega)), gbz_cg (fun k _ => h1 9 k (by omega) (by omega) (by omega))]
theorem IvL_cg {Z Z' : ZT} (h1 : ∀ f, f < 5 → Z' 10 f = Z 10 f) (h2 : ∀ f, f < 5 → Z' 131 f = Z 131 f) (h : IvL Z) : IvL Z' := fun k hk => by rw [h1 k hk, h2 k hk]; exact h k hk
theorem IvB_cg {Z Z' : ZT} (h1 : ∀ i j, i < 12 → j < 40 → Z' (14 + 4 * i) j = Z (14 + 4 * i) j) (h : IvB Z) : IvB Z' := fun i hi j hj => by rw [h1 i j hi hj]; exact h i hi j hj
theorem IvM_cg {Z Z' : ZT} {m : Nat} (h1 : ∀ c f, 59 + 9 * m ≤ c → c < 68 + 9 * m → Z' c f = Z c f) (h2 : ∀ c f, 124 ≤ c → c ≤ 128 → (c = 124 → 48 * m ≤ f ∧ f < 48 * m + 48) → (c = 125 → 256 * m ≤ f ∧ f < 256 * m + 256) → (c = 126 → 200 * m ≤ f ∧ f < 200 * m + 200) → (c = 127 → f = m) → (c = 128 → f = m) → Z' c f = Z c f) (h : IvM Z m) : IvM Z' m := by
  obtain ⟨kp, ma, ⟨a1, a2, a3⟩, ⟨b1, b2, b3⟩, c1, c2, c3, c4⟩ := h
  refine ⟨kp, ma, ⟨a1, by rw [h1 _ _ (by omega) (by omega)]; exact a2, by rw [h2 128 m (by omega) (by omega) (by omega) (by omega) (by omega) (by omega) (by omega)]; exact a3⟩, ⟨b1, by rw [h1 _ _ (by omega) (by omega)]; exact b2, by rw [h2 127 m (by omega) (by omega) (by omega) (by omega) (by omega) (by omega) (by omega)]; exact b3⟩, ?_, fun k hk => ?_, fun j hj => ?_, fun p hp => ?_⟩
  · rw [h1 _ _ (by omega) (by omega), c1, gbz_cg (fun k _ => h1 (65 + 9 * m) k (by omega) (by omega))]
  · rw [h1 _ _ (by omega) (by omega), h2 125 _ (by omega) (by omega) (by omega) (by omega) (by omega) (by omega) (by omega)]; exact c2 k hk
  · rw [h1 (66 + 9 * m) j (by omega) (by omega), h1 (67 + 9 * m) j (by omega) (by omega), h2 126 (200 * m + 2 * j) (by omega) (by omega) (by omega) (by omega) (by omega) (by omega) (by omega), h2 126 (200 * m + (2 * j + 1)) (by omega) (by omega) (by omega) (by omega) (by omega) (by omega) (by omega)]; exact c3 j hj
  · obtain ⟨d1, d2, d3, d4, d5, d6⟩ := c4 p hp
    refine ⟨?_, ?_, ?_, ?_, by rw [h1 _ _ (by omega) (by omega)]; exact d5, by rw [h1 _ _ (by omega) (by omega)]; exact d6⟩
    · rw [h1 _ _ (by omega) (by omega), h2 124 _ (by omega) (by omega) (by omega) (by omega) (by omega) (by omega) (by omega)]; exact d1
    · rw [h1 _ _ (by omega) (by omega), h2 124 _ (by omega) (by omega) (by omega) (by omega) (by omega) (by omega) (by omega)]; exact d2
    · rw [h1 _ _ (by omega) (by omega), h2 124 _ (by omega) (by omega) (by omega) (by omega) (by omega) (by omega) (by omega)]; exact d3
    · rw [h1 _ _ (by omega) (by omega), h2 124 _ (by omega) (by omega) (by omega) (by omega) (by omega) (by omega) (by omega)]; exact d4
theorem Inv.up {d d' : Nat} {Z : ZT} (h : Inv d Z) (hd : d ≤ d') : Inv d' Z := by
  obtain ⟨np, nm, nt, na, nd, h1, h2, h3⟩ := h
  exact ⟨np, nm, nt, na, nd, h1, by omega, h3⟩
/-- the reference's fault and the law's own row are not in it -/
theorem Inv.fault {d : Nat} {Z : ZT} {v : Int32} (h : Inv d Z) : Inv d (zu Z 113 0 v) := by
  obtain ⟨np, nm, nt, na, nd, h1, h2, h3, h4, h5, h6, h7, h8⟩ := h
  have o : ∀ c f, (c ≠ 113 ∨ f ≠ 0) → zu Z 113 0 v c f = Z c f := fun c f q => zu_o q
  exact ⟨np, nm, nt, na, nd, h1, h2, fun p hp => IvP_cg (fun c f _ _ => o c f (by have := h1.1.2.2; omega)) (fun c j _ _ _ => o _ _ (by omega)) (fun c _ _ => o _ _ (by omega)) (o _ _ (by omega)) (o _ _ (by omega)) (o _ _ (by omega)) (h3 p hp), IvB_cg (fun i j _ _ => o _ _ (by omega)) h4, IvF_cg (fun c f _ _ => o _ _ (by omega)) (fun c f _ _ => o _ _ (by omega)) h5, IvD_cg (fun c f _ _ _ => o _ _ (by omega)) (fun c f _ _ => o _ _ (by omega)) (o _ _ (by omega)) (o _ _ (by omega)) h6, IvL_cg (fun f _ => o _ _ (by omega)) (fun f _ => o _ _ (by omega)) h7, fun m hm => IvM_cg (fun c f _ _ => o _ _ (by have := h1.2.1.2.2; omega)) (fun c f _ _ _ _ _ _ _ => o _ _ (by omega)) (h8 m hm)⟩
theorem Inv.out {d : Nat} {Z : ZT} {f : Nat} {v : Int32} (h : Inv d Z) : Inv d (zu Z 132 f v) := by
  obtain ⟨np, nm, nt, na, nd, h1, h2, h3, h4, h5, h6, h7, h8⟩ := h
  have o : ∀ c g, c ≠ 132 → zu Z 132 f v c g = Z c g := fun c g q => zu_o (Or.inl q)
  refine ⟨np, nm, nt, na, nd, ?_, h2, fun p hp => IvP_cg (fun c f _ _ => o c f (by have := h1.1.2.2; omega)) (fun c j _ _ _ => o _ _ (by omega)) (fun c _ _ => o _ _ (by omega)) (o _ _ (by omega)) (o _ _ (by omega)) (o _ _ (by omega)) (h3 p hp), IvB_cg (fun i j _ _ => o _ _ (by omega)) h4, IvF_cg (fun c f _ _ => o _ _ (by omega)) (fun c f _ _ => o _ _ (by omega)) h5, IvD_cg (fun c f _ _ _ => o _ _ (by omega)) (fun c f _ _ => o _ _ (by omega)) (o _ _ (by omega)) (o _ _ (by omega)) h6, IvL_cg (fun f _ => o _ _ (by omega)) (fun f _ => o _ _ (by omega)) h7, fun m hm => IvM_cg (fun c f _ _ => o _ _ (by have := h1.2.1.2.2; omega)) (fun c f _ _ _ _ _ _ _ => o _ _ (by omega)) (h8 m hm)⟩
  unfold IvN
  rw [o 0 5 (by omega), o 113 1 (by omega), o 0 6 (by omega), o 113 14 (by omega), o 0 7 (by omega), o 113 2 (by omega), o 3 4 (by omega), o 113 13 (by omega), o 7 2 (by omega), o 113 22 (by omega)]
  exact h1
theorem IvP.rc {Z : ZT} {p : Nat} (h : IvP Z p) : Z (11 + 4 * p) 3 = nI (rcf Z p) ∧ rcf Z p ≤ 40 ∧ ∀ j, j < rcf Z p → IvR Z p j := by
  obtain ⟨-, ⟨r, hr, b1, b2⟩, -⟩ := h
  have e : rcf Z p = r := nI_cl b1 (by omega)
  rw [e]
  exact ⟨b1, hr, b2⟩
theorem IvP.po {Z : ZT} {p : Nat} (h : IvP Z p) : Z (11 + 4 * p) 5 = nI (pof Z p) ∧ pof Z p ≤ 40 := by
  obtain ⟨-, -, ⟨r, hr, b1⟩, -⟩ := h
  have e : pof Z p = r := nI_cl b1 (by omega)
  rw [e]
  exact ⟨b1, hr⟩
theorem IvR.nu {Z : ZT} {p j : Nat} (h : IvR Z p j) : Z (12 + 4 * p) j = nI (nuf Z p j) ∧ nuf Z p j < 256 := by
  obtain ⟨-, -, -, ⟨n, hn, e⟩, -⟩ := h
  have e2 : nuf Z p j = n := nI_cl e (by omega)
  rw [e2]
  exact ⟨e, hn⟩
/-- the class's call leaves the reference's cells -/
def FR (Z Z1 : ZT) : Prop := ∀ c f, 113 ≤ c → Z1 c f = Z c f
theorem FR.rf (Z : ZT) : FR Z Z := fun _ _ _ => rfl
