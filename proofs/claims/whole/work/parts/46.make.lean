/-! MAKING CELLS: the graph grows. 'GB b0 K v G': K cells stand, each with its shape and its length as the graph has them at the end; of cell c the reference fields below v c are laid. -/
def gN (G : GT) (a k n : Nat) : GT := (G.1 + 1, fun i => if i = G.1 then a else G.2.1 i, fun i => if i = G.1 then k else G.2.2.1 i, fun i => if i = G.1 then n else G.2.2.2.1 i, fun i f => if i = G.1 then none else G.2.2.2.2 i f)
def gP (G : GT) (c f t : Nat) : GT := (G.1, G.2.1, G.2.2.1, G.2.2.2.1, fun i g => if i = c ∧ g = f then some t else G.2.2.2.2 i g)
def GW (G : GT) : Prop := ∀ c f t, c < G.1 → G.2.2.2.2 c f = some t → t < G.1
def GB (b0 K : Nat) (v : Nat → Nat) (G : GT) : Prop := G.1 = K ∧ (∀ c, c < K → G.2.2.1 c = sh0 c ∧ G.2.2.2.1 c = ln0 c ∧ ∀ f, f < 40 → G.2.2.2.2 c f = if f < v c then rf0 c f else none) ∧ GD b0 G ∧ GW G
section MK
variable {b0 K k n c f t a : Nat} {v : Nat → Nat} {G G' : GT} {Y : YT} {Z : ZT}
theorem ze_cg (h1 : G'.2.2.1 c = G.2.2.1 c) (h2 : G'.2.2.2.1 c = G.2.2.2.1 c) (h3 : ∀ f, (G'.2.2.2.2 c f).map G'.2.1 = (G.2.2.2.2 c f).map G.2.1) : ze G' Y Z c = ze G Y Z c := by
  have h4 : (fun j => (G'.2.2.2.2 c j).map G'.2.1) = (fun j => (G.2.2.2.2 c j).map G.2.1) := funext h3
  have h5 : ∀ k, zfl G' Z k c = zfl G Z k c := fun k => by simp only [zfl, h3]
  simp only [ze, h1, h2, h4, h5]
theorem gN_ad (h : c ≠ G.1) : (gN G a k n).2.1 c = G.2.1 c := if_neg h
theorem gN_ln0 : (gN G a k n).2.2.2.1 G.1 = n := if_pos rfl
theorem gN_rf0 : (gN G a k n).2.2.2.2 G.1 f = none := if_pos rfl
theorem gN_ad0 : (gN G a k n).2.1 G.1 = a := if_pos rfl
theorem zc_push (hW : GW G) : zc (gN G a k n) Y Z = zc G Y Z ++ [(a, ze (gN G a k n) Y Z G.1)] := by
  show (List.range (G.1 + 1)).map _ = (List.range G.1).map _ ++ _
  rw [List.range_succ, List.map_append]
  refine congr (congrArg _ (List.map_congr_left fun i hi => ?_)) ?_
  · have hi' : i < G.1 := List.mem_range.mp hi
    have hne : i ≠ G.1 := Nat.ne_of_lt hi'
    rw [gN_ad hne]
    refine congrArg _ (ze_cg (if_neg hne) (if_neg hne) (fun f => ?_))
    show (if i = G.1 then none else G.2.2.2.2 i f).map _ = _
    rw [if_neg hne]
    cases hq : G.2.2.2.2 i f with
    | none => rfl
    | some t => exact congrArg some (gN_ad (Nat.ne_of_lt (hW i f t hi' hq)))
  · show [(_, _)] = _
    rw [gN_ad0]
theorem zc_D2 (h : va_D (fun q => b0 ≤ q) (zc G Y Z)) : GD b0 G := ⟨fun i j hi hj e => h.1 i j _ _ (zc_at hi) (zc_at hj) e, fun i hi => h.2 i _ (zc_at hi)⟩
theorem GB.new (h : GB b0 K v G) (hv : v K = 0) (hs : sh0 K = k) (hn : ln0 K = n) (hD : GD b0 (gN G a k n)) : GB b0 (K + 1) v (gN G a k n) := by
  obtain ⟨rfl, h2, -, h4⟩ := h
  refine ⟨rfl, fun c hc => ?_, hD, fun c f t hc ht => ?_⟩
  · by_cases e : c = G.1
    · subst e
      refine ⟨(if_pos rfl).trans hs.symm, (if_pos rfl).trans hn.symm, fun f hf => ?_⟩
      rw [hv, if_neg (Nat.not_lt_zero f)]
      exact if_pos rfl
    · obtain ⟨q1, q2, q3⟩ := h2 c (by omega)
      exact ⟨(if_neg e).trans q1, (if_neg e).trans q2, fun f hf => (if_neg e).trans (q3 f hf)⟩
  · have hc' : c < G.1 + 1 := hc
    have ht' : (if c = G.1 then none else G.2.2.2.2 c f) = some t := ht
    by_cases e : c = G.1
    · rw [if_pos e] at ht'
      cases ht'
    · rw [if_neg e] at ht'
      have := h4 c f t (by omega) ht'
      show t < G.1 + 1
      omega
theorem GB.put (h : GB b0 K v G) (hc : c < K) (hf : f < 40) (hvf : v c ≤ f) (hr : rf0 c f = some t) (ht : t < K) (hsk : ∀ g, v c ≤ g → g < f → rf0 c g = none) : GB b0 K (va_up v c (f + 1)) (gP G c f t) := by
  obtain ⟨rfl, h2, h3, h4⟩ := h
  refine ⟨rfl, fun i hi => ⟨(h2 i hi).1, (h2 i hi).2.1, fun g hg => ?_⟩, h3, fun i g t' hi ht' => ?_⟩
  · show (if i = c ∧ g = f then some t else G.2.2.2.2 i g) = _
    by_cases e : i = c
    · subst e
      rw [va_up_self]
      by_cases e2 : g = f
      · subst e2
        rw [if_pos ⟨rfl, rfl⟩, if_pos (by omega), hr]
      · rw [if_neg (fun q => e2 q.2), (h2 i hi).2.2 g hg]
        by_cases e3 : g < v i
        · rw [if_pos e3, if_pos (by omega)]
        · rw [if_neg e3]
          by_cases e4 : g < f + 1
          · rw [if_pos e4, hsk g (by omega) (by omega)]
          · rw [if_neg e4]
    · rw [if_neg (fun q => e q.1), va_up_ne _ _ e]
      exact (h2 i hi).2.2 g hg
  · have q : (if i = c ∧ g = f then some t else G.2.2.2.2 i g) = some t' := ht'
    by_cases e : i = c ∧ g = f
    · rw [if_pos e] at q
      cases q
      exact ht
    · rw [if_neg e] at q
      exact h4 i g t' hi q
theorem GB.vv {v' : Nat → Nat} (h : GB b0 K v G) (hv : ∀ c, c < K → v c = v' c) : GB b0 K v' G := ⟨h.1, fun c hc => ⟨(h.2.1 c hc).1, (h.2.1 c hc).2.1, fun f hf => by rw [(h.2.1 c hc).2.2 f hf, hv c hc]⟩, h.2.2⟩
theorem GB.ok (h : GB b0 K v G) (hv : ∀ c, c < K → ∀ f, f < 40 → v c ≤ f → rf0 c f = none) : Gok K G := ⟨Nat.le_of_eq h.1.symm, fun c hc => ⟨(h.2.1 c hc).1, (h.2.1 c hc).2.1, fun f hf => by
  rw [(h.2.1 c hc).2.2 f hf]
  by_cases e : f < v c
  · rw [if_pos e]
  · rw [if_neg e, hv c hc f hf (by omega)]⟩⟩
theorem GB.s (h : GB b0 K v G) (hc : c < K) (hs : sh0 c = k) : G.2.2.1 c = k := (h.2.1 c hc).1.trans hs
theorem GB.l (h : GB b0 K v G) (hc : c < K) (hs : ln0 c = k) : G.2.2.2.1 c = k := (h.2.1 c hc).2.1.trans hs
theorem GB.r (h : GB b0 K v G) (hc : c < K) (hf : f < 40) (hv : f < v c) (hs : rf0 c f = some t) : G.2.2.2.2 c f = some t := by rw [(h.2.1 c hc).2.2 f hf, if_pos hv, hs]
theorem GB.b (h : GB b0 K v G) (hc : c < K) : c < G.1 := by rw [h.1]; exact hc
theorem zfl_setR (hf : f < zn k) (hr : zr k f = true) : (zfl G Z k c).set f (.ref (G.2.1 t)) = zfl (gP G c f t) Z k c := by
  apply List.ext_getElem?
  intro i
  by_cases hi : i = f
  · subst hi
    rw [List.getElem?_set_self (by rw [zfl_len]; exact hf)]
    exact (zfl_atR (G := gP G c i t) hf hr (if_pos ⟨rfl, rfl⟩)).symm
  · rw [List.getElem?_set_ne (Ne.symm hi)]
    by_cases hl : i < zn k
    · simp [zfl, hl, gP, hi]
    · simp [zfl, hl]
theorem zc_setE {e : va_E} (h : c < G.1) (he : ze (gP G c f t) Y Z c = e) : (zc G Y Z).set c (G.2.1 c, e) = zc (gP G c f t) Y Z := by
  apply List.ext_getElem?
  intro i
  by_cases hi : i = c
  · subst hi
    rw [List.getElem?_set_self (by simp [zc, h]), zc_at (G := gP G i f t) h, he]
    rfl
  · rw [List.getElem?_set_ne (Ne.symm hi)]
    by_cases hl : i < G.1
    · rw [zc_at hl, zc_at (G := gP G c f t) hl]
      refine congrArg some (congrArg _ (ze_cg (G := gP G c f t) (G' := G) rfl rfl (fun g => ?_)))
      show _ = Option.map _ (if i = c ∧ g = f then some t else G.2.2.2.2 i g)
      rw [if_neg (fun q => hi q.1)]
      rfl
    · have : ¬ i < (gP G c f t).1 := hl
      simp [zc, hl, this]
theorem zc_putR (h : c < G.1) (hs : G.2.2.1 c = k) (hk : k < 6) (hf : f < zn k) (hr : zr k f = true) : (zc G Y Z).set c (G.2.1 c, .inr (k, (zfl G Z k c).set f (.ref (G.2.1 t)))) = zc (gP G c f t) Y Z :=
  zc_setE h (by rw [ze_obj (G := gP G c f t) hs hk, zfl_setR hf hr])
theorem zc_up : va_up (fun j => (G.2.2.2.2 c j).map G.2.1) f (some (G.2.1 t)) = (fun j => ((gP G c f t).2.2.2.2 c j).map (gP G c f t).2.1) := by
  funext j
  show _ = Option.map G.2.1 (if c = c ∧ j = f then some t else G.2.2.2.2 c j)
  by_cases hj : j = f
  · subst hj
    rw [va_up_self, if_pos ⟨rfl, rfl⟩]
    rfl
  · rw [va_up_ne _ _ hj, if_neg (fun q => hj q.2)]
theorem zc_arP (h : c < G.1) (hs : G.2.2.1 c = 8) : (zc G Y Z).set c (G.2.1 c, .inl (Y.2.2.1, G.2.2.2.1 c, .inr (.inr (.inr (.inr (va_up (fun j => (G.2.2.2.2 c j).map G.2.1) f (some (G.2.1 t)))))))) = zc (gP G c f t) Y Z :=
  zc_setE h (by rw [ze_P (G := gP G c f t) hs, zc_up]; rfl)
theorem zc_arM (h : c < G.1) (hs : G.2.2.1 c = 9) : (zc G Y Z).set c (G.2.1 c, .inl (Y.2.2.2.1, G.2.2.2.1 c, .inr (.inr (.inr (.inr (va_up (fun j => (G.2.2.2.2 c j).map G.2.1) f (some (G.2.1 t)))))))) = zc (gP G c f t) Y Z :=
  zc_setE h (by rw [ze_M (G := gP G c f t) hs, zc_up]; rfl)
end MK
set_option maxRecDepth 100000 in
theorem zw_aI : Cond.arrayClass .int ∈ zw_good := zw_in (by decide +kernel) rfl
set_option maxRecDepth 100000 in
theorem zw_aZ : Cond.arrayClass .boolean ∈ zw_good := zw_in (by decide +kernel) rfl
set_option maxRecDepth 100000 in
theorem zw_aL : Cond.arrayClass .long ∈ zw_good := zw_in (by decide +kernel) rfl
/-- what a made object's fields hold -/
def zdf (k : Nat) : List Value := (List.range (zn k)).map fun f => if zr k f = true then .null else .int 0
section JM
variable {E : ET} {own : String} {cc : ByteArray} {ce sl : Nat} {G : GT} {pc : Nat} {lv : List (Nat × Value)} {st : List Value} {Z : ZT} {K n : Nat} {v : Nat → Nat}
theorem nI_nn {n : Nat} (h : n < 2 ^ 31) : ¬ nI n < 0 := fun q => by
  have := Int32.lt_iff_toInt_lt.mp q
  rw [nI_toInt h] at this
  exact absurd this (by simp)
theorem j_newI (C : Cb E own cc) (hB : GB (e0 E) K v G) (h0 : e0 E ≤ (eS E).heap.size) (hv : v K = 0) (hs : sh0 K = 6) (hn : ln0 K = n) (hZ : ∀ f, Z K f = 0) (hn2 : n < 2000) (hce : ce + 1 ≤ (eR E).cells) (hsl : sl + n ≤ (eR E).slots) (hd : decode cc pc = .ok (.newarray .int, 2))
    (kk : ∀ G', GB (e0 E) (K + 1) v G' → (∀ i, i < K → G'.2.1 i = G.2.1 i) → J E (ce + 1) (sl + n) G' (pc + 2) lv (.ref (G'.2.1 K) :: st) Z) : J E ce sl G pc lv (.int (nI n) :: st) Z := fun H locs ls hP hS h => by
  refine va_newa (atype := .int) (ty := .int) (a0 := (n, .inl (Z K))) C.hx C.hb (C.hts _ zw_aI) rfl C.hK hP (zc_D hB.2.2.1) hS (fun q hq => Nat.le_trans h0 hq) (fun cA => ?_) (nI_nn (by omega)) (nI_clamp (by omega)) (by show n * 4 ≤ _; omega) hce hsl hd ?_
  · show arrV cA n (fun j => .int (Z K j)) = arrV cA n (fun _ => defaultValue .int)
    exact congrArg _ (funext fun j => by rw [hZ]; rfl)
  · intro q cA H1 hK1 hP1 hD1 hS1
    have e1 : cA = (eY E).1 := Option.some.inj ((hK1.2 5 _ rfl).2.symm.trans (C.hK.2 0 _ rfl).2)
    have e2 : zc G (eY E) Z ++ [(q, .inl (cA, n, .inl (Z K)))] = zc (gN G q 6 n) (eY E) Z := by
      rw [zc_push hB.2.2.2, ze_I (G := gN G q 6 n) (if_pos rfl), gN_ln0, e1, hB.1]
    rw [e2] at hP1 hD1
    have e3 : (gN G q 6 n).2.1 K = q := by rw [← hB.1]; exact gN_ad0
    have h9 := kk (gN G q 6 n) (hB.new hv hs hn (zc_D2 hD1)) (fun i hi => gN_ad (by rw [hB.1]; omega)) H1 locs ls hP1 hS1 h
    rw [e3] at h9
    exact h9
theorem j_newZ (C : Cb E own cc) (hB : GB (e0 E) K v G) (h0 : e0 E ≤ (eS E).heap.size) (hv : v K = 0) (hs : sh0 K = 7) (hn : ln0 K = n) (hZ : ∀ f, Z K f = 0) (hn2 : n < 2000) (hce : ce + 1 ≤ (eR E).cells) (hsl : sl + n ≤ (eR E).slots) (hd : decode cc pc = .ok (.newarray .boolean, 2))
    (kk : ∀ G', GB (e0 E) (K + 1) v G' → (∀ i, i < K → G'.2.1 i = G.2.1 i) → J E (ce + 1) (sl + n) G' (pc + 2) lv (.ref (G'.2.1 K) :: st) Z) : J E ce sl G pc lv (.int (nI n) :: st) Z := fun H locs ls hP hS h => by
  refine va_newa (atype := .boolean) (ty := .boolean) (a0 := (n, .inl (Z K))) C.hx C.hb (C.hts _ zw_aZ) rfl C.hK hP (zc_D hB.2.2.1) hS (fun q hq => Nat.le_trans h0 hq) (fun cA => ?_) (nI_nn (by omega)) (nI_clamp (by omega)) (by show n * 1 ≤ _; omega) hce hsl hd ?_
  · show arrV cA n (fun j => .int (Z K j)) = arrV cA n (fun _ => defaultValue .boolean)
    exact congrArg _ (funext fun j => by rw [hZ]; rfl)
  · intro q cA H1 hK1 hP1 hD1 hS1
    have e1 : cA = (eY E).2.1 := Option.some.inj ((hK1.2 5 _ rfl).2.symm.trans (C.hK.2 1 _ rfl).2)
    have e2 : zc G (eY E) Z ++ [(q, .inl (cA, n, .inl (Z K)))] = zc (gN G q 7 n) (eY E) Z := by
      rw [zc_push hB.2.2.2, ze_Z (G := gN G q 7 n) (if_pos rfl), gN_ln0, e1, hB.1]
    rw [e2] at hP1 hD1
    have e3 : (gN G q 7 n).2.1 K = q := by rw [← hB.1]; exact gN_ad0
    have h9 := kk (gN G q 7 n) (hB.new hv hs hn (zc_D2 hD1)) (fun i hi => gN_ad (by rw [hB.1]; omega)) H1 locs ls hP1 hS1 h
    rw [e3] at h9
    exact h9
theorem j_newL (C : Cb E own cc) (hB : GB (e0 E) K v G) (h0 : e0 E ≤ (eS E).heap.size) (hv : v K = 0) (hs : sh0 K = 10) (hn : ln0 K = n) (hZ : ∀ f, Z K f = 0) (hn2 : n < 2000) (hce : ce + 1 ≤ (eR E).cells) (hsl : sl + n ≤ (eR E).slots) (hd : decode cc pc = .ok (.newarray .long, 2))
    (kk : ∀ G', GB (e0 E) (K + 1) v G' → (∀ i, i < K → G'.2.1 i = G.2.1 i) → J E (ce + 1) (sl + n) G' (pc + 2) lv (.ref (G'.2.1 K) :: st) Z) : J E ce sl G pc lv (.int (nI n) :: st) Z := fun H locs ls hP hS h => by
  refine va_newa (atype := .long) (ty := .long) (a0 := (n, .inr (.inl (fun j => (Z K j).toInt64)))) C.hx C.hb (C.hts _ zw_aL) rfl C.hK hP (zc_D hB.2.2.1) hS (fun q hq => Nat.le_trans h0 hq) (fun cA => ?_) (nI_nn (by omega)) (nI_clamp (by omega)) (by show n * 8 ≤ _; omega) hce hsl hd ?_
  · show arrV cA n (fun j => .long (Z K j).toInt64) = arrV cA n (fun _ => defaultValue .long)
    exact congrArg _ (funext fun j => by rw [hZ]; rfl)
  · intro q cA H1 hK1 hP1 hD1 hS1
    have e1 : cA = (eY E).2.2.2.2 := Option.some.inj ((hK1.2 5 _ rfl).2.symm.trans (C.hK.2 4 _ rfl).2)
    have e2 : zc G (eY E) Z ++ [(q, .inl (cA, n, .inr (.inl (fun j => (Z K j).toInt64))))] = zc (gN G q 10 n) (eY E) Z := by
      rw [zc_push hB.2.2.2, ze_L (G := gN G q 10 n) (if_pos rfl), gN_ln0, e1, hB.1]
    rw [e2] at hP1 hD1
    have e3 : (gN G q 10 n).2.1 K = q := by rw [← hB.1]; exact gN_ad0
    have h9 := kk (gN G q 10 n) (hB.new hv hs hn (zc_D2 hD1)) (fun i hi => gN_ad (by rw [hB.1]; omega)) H1 locs ls hP1 hS1 h
    rw [e3] at h9
    exact h9
theorem j_newP (C : Cb E own cc) {index : Nat} (hB : GB (e0 E) K v G) (h0 : e0 E ≤ (eS E).heap.size) (hAO : va_AO RX3 (eS E)) (hl : Cond.classLink own index RX3 ∈ zw_good) (hv : v K = 0) (hs : sh0 K = 8) (hn : ln0 K = n) (hn2 : n < 2000) (hce : ce + 1 ≤ (eR E).cells) (hsl : sl + n ≤ (eR E).slots) (hd : decode cc pc = .ok (.anewarray index, 3))
    (kk : ∀ G', GB (e0 E) (K + 1) v G' → (∀ i, i < K → G'.2.1 i = G.2.1 i) → J E (ce + 1) (sl + n) G' (pc + 3) lv (.ref (G'.2.1 K) :: st) Z) : J E ce sl G pc lv (.int (nI n) :: st) Z := fun H locs ls hP hS h => by
  refine va_newq (C := RX3) C.hx C.hb C.ho (C.hts _ hl) hAO C.hK hP (zc_D hB.2.2.1) hS (fun q hq => Nat.le_trans h0 hq) (nI_nn (by omega)) (nI_clamp (n := n) (by omega)) (by omega) hce hsl hd ?_
  intro q cA H1 hK1 hP1 hD1 hS1
  obtain ⟨-, kA, comp, -, -, -, q1⟩ := hK1.2 5 _ rfl
  obtain ⟨-, kA', comp', -, -, -, q2⟩ := C.hK.2 2 _ rfl
  have e1 : cA = (eY E).2.2.1 := Option.some.inj (q1.symm.trans q2)
  have e2 : zc G (eY E) Z ++ [(q, .inl (cA, n, .inr (.inr (.inr (.inr (fun _ => none))))))] = zc (gN G q 8 n) (eY E) Z := by
    rw [zc_push hB.2.2.2, ze_P (G := gN G q 8 n) (if_pos rfl), gN_ln0, e1]
    simp only [gN_rf0, Option.map_none]
  rw [e2] at hP1 hD1
  have e3 : (gN G q 8 n).2.1 K = q := by rw [← hB.1]; exact gN_ad0
  have h9 := kk (gN G q 8 n) (hB.new hv hs hn (zc_D2 hD1)) (fun i hi => gN_ad (by rw [hB.1]; omega)) H1 locs ls hP1 hS1 h
  rw [e3] at h9
  exact h9
theorem j_newM (C : Cb E own cc) {index : Nat} (hB : GB (e0 E) K v G) (h0 : e0 E ≤ (eS E).heap.size) (hAO : va_AO RX2 (eS E)) (hl : Cond.classLink own index RX2 ∈ zw_good) (hv : v K = 0) (hs : sh0 K = 9) (hn : ln0 K = n) (hn2 : n < 2000) (hce : ce + 1 ≤ (eR E).cells) (hsl : sl + n ≤ (eR E).slots) (hd : decode cc pc = .ok (.anewarray index, 3))
    (kk : ∀ G', GB (e0 E) (K + 1) v G' → (∀ i, i < K → G'.2.1 i = G.2.1 i) → J E (ce + 1) (sl + n) G' (pc + 3) lv (.ref (G'.2.1 K) :: st) Z) : J E ce sl G pc lv (.int (nI n) :: st) Z := fun H locs ls hP hS h => by
  refine va_newq (C := RX2) C.hx C.hb C.ho (C.hts _ hl) hAO C.hK hP (zc_D hB.2.2.1) hS (fun q hq => Nat.le_trans h0 hq) (nI_nn (by omega)) (nI_clamp (n := n) (by omega)) (by omega) hce hsl hd ?_
  intro q cA H1 hK1 hP1 hD1 hS1
  obtain ⟨-, kA, comp, -, -, -, q1⟩ := hK1.2 5 _ rfl
  obtain ⟨-, kA', comp', -, -, -, q2⟩ := C.hK.2 3 _ rfl
  have e1 : cA = (eY E).2.2.2.1 := Option.some.inj (q1.symm.trans q2)
  have e2 : zc G (eY E) Z ++ [(q, .inl (cA, n, .inr (.inr (.inr (.inr (fun _ => none))))))] = zc (gN G q 9 n) (eY E) Z := by
    rw [zc_push hB.2.2.2, ze_M (G := gN G q 9 n) (if_pos rfl), gN_ln0, e1]
    simp only [gN_rf0, Option.map_none]
  rw [e2] at hP1 hD1
  have e3 : (gN G q 9 n).2.1 K = q := by rw [← hB.1]; exact gN_ad0
  have h9 := kk (gN G q 9 n) (hB.new hv hs hn (zc_D2 hD1)) (fun i hi => gN_ad (by rw [hB.1]; omega)) H1 locs ls hP1 hS1 h
  rw [e3] at h9
  exact h9
theorem j_newO (C : Cb E own cc) {k N index : Nat} {C0 : String} {T : u_T} {ty : Nat → FieldType} (hk : zK k C0 T N ty) (hdf : ∀ j, j < N → defaultValue (ty j) = vp_V (zdf k) j) (hB : GB (e0 E) K v G) (h0 : e0 E ≤ (eS E).heap.size) (hl : Cond.classLink own index C0 ∈ zw_good) (hi : Cond.instantiable C0 N ∈ zw_good) (hin : Cond.initialized C0 ∈ zw_good) (hv : v K = 0) (hs : sh0 K = k) (hn : ln0 K = N) (hZ : ∀ f, Z K f = 0) (hce : ce + 1 ≤ (eR E).cells) (hsl : sl + N ≤ (eR E).slots) (hd : decode cc pc = .ok (.new index, 3))
    (kk : ∀ G', GB (e0 E) (K + 1) v G' → (∀ i, i < K → G'.2.1 i = G.2.1 i) → J E (ce + 1) (sl + N) G' (pc + 3) lv (.ref (G'.2.1 K) :: st) Z) : J E ce sl G pc lv st Z := fun H locs ls hP hS h => by
  refine va_new (C := C0) (ci := k) C.hx C.hb C.hts hk.2.1 ty hk.2.2.2.2.1 C.ho (C.hts _ hl) (C.hts _ hi) (C.hts _ hin) C.hK hP (zc_D hB.2.2.1) hS (fun q hq => Nat.le_trans h0 hq) hk.1 hdf hce hsl hd ?_
  intro q H1 hP1 hD1 hS1
  have e2 : zc G (eY E) Z ++ [(q, .inr (k, zdf k))] = zc (gN G q k N) (eY E) Z := by
    rw [zc_push hB.2.2.2, ze_obj (G := gN G q k N) (if_pos rfl) hk.2.2.2.1]
    have e4 : zfl (gN G q k N) Z k G.1 = zdf k := by
      unfold zfl zdf
      refine List.map_congr_left fun f _ => ?_
      show (if zr k f = true then va_rf ((if G.1 = G.1 then none else G.2.2.2.2 G.1 f).map _) else .int (Z G.1 f)) = _
      rw [if_pos rfl, hB.1, hZ]
      rfl
    rw [e4]
  rw [e2] at hP1 hD1
  have e3 : (gN G q k N).2.1 K = q := by rw [← hB.1]; exact gN_ad0
  have h9 := kk (gN G q k N) (hB.new hv hs hn (zc_D2 hD1)) (fun i hi => gN_ad (by rw [hB.1]; omega)) H1 locs ls hP1 hS1 h
  rw [e3] at h9
  exact h9
/-- a final field of the object that is being made -/
theorem j_putR (C : Cb E own cc) (hin : (eMe E).name = "<init>") {k c f N index t a : Nat} {T : u_T} {ty : Nat → FieldType} (hk : zK k own T N ty) (hB : GB (e0 E) K v G) (hc : c < K) (ha : G.2.1 c = a) (hs : sh0 c = k) (hf : f < N) (hf40 : f < 40) (hr : zr k f = true) (hlink : Cond.fieldLink own index own (T f).2.1 (T f).2.2.1 ∈ zw_good) (hT : (T f).1 = own) (hfin : (T f).2.2.2 = true) (hn : ∀ q, narrow (ty f) (.ref q) = .ref q) (hfit : ∀ q, fits (ty f) (.ref q) = true)
    (hvf : v c ≤ f) (hrf : rf0 c f = some t) (ht : t < K) (hsk : ∀ g, v c ≤ g → g < f → rf0 c g = none) (hd : decode cc pc = .ok (.putfield index, 3))
    (kk : ∀ G', GB (e0 E) K (va_up v c (f + 1)) G' → (∀ i, G'.2.1 i = G.2.1 i) → J E ce sl G' (pc + 3) lv st Z) : J E ce sl G pc lv (.ref (G.2.1 t) :: .ref a :: st) Z := fun H locs ls hP hS h => by
  subst ha
  exact va_putF C.hx C.hb C.hts hk.2.1 ty hk.2.2.2.2.1 hk.2.2.2.2.2 C.ho C.hK hP (zc_D hB.2.2.1) hS c (by rw [zc_at (hB.b hc), ze_obj (hB.s hc hs) hk.2.2.2.1]) hk.1 f hf (C.hts _ hlink) (fun _ h9 => hT ▸ h9) hfin hin hT (hk.2.2.2.2.1 f hf) (hn _) (hfit _) (by rw [zfl_len, hk.2.2.1]; exact hf) hd
    (fun H1 locs1 hP1 _ hS1 => kk (gP G c f t) (hB.put hc hf40 hvf hrf ht hsk) (fun _ => rfl) H1 locs1 ls (by rw [zc_putR (hB.b hc) (hB.s hc hs) hk.2.2.2.1 (by rw [hk.2.2.1]; exact hf) hr] at hP1; exact hP1) hS1 h)
theorem j_astP (C : Cb E own cc) {c j t : Nat} (hB : GB (e0 E) K v G) (hc : c < K) (hs : sh0 c = 8) (hn : ln0 c = n) (hj : j < n) (hn2 : n < 40) (hst : sh0 t = 3) (hvf : v c = j) (hrf : rf0 c j = some t) (ht : t < K) (hd : decode cc pc = .ok (.aastore, 1))
    (kk : ∀ G', GB (e0 E) K (va_up v c (j + 1)) G' → (∀ i, G'.2.1 i = G.2.1 i) → J E ce sl G' (pc + 1) lv st Z) : J E ce sl G pc lv (.ref (G.2.1 t) :: .int (nI j) :: .ref (G.2.1 c) :: st) Z := fun H locs ls hP hS h => by
  have hl := hB.l hc hn
  exact va_astq C.hx C.hb C.hK hP (zc_D hB.2.2.1) hS c 2 t 3 (by rw [zc_at (hB.b hc), ze_P (hB.s hc hs)]) rfl (by rw [zc_at (hB.b ht), ze_obj (hB.s ht hst) (by decide)]) zK3.1 (i := nI j) (by rw [hl]; exact vp_in_nI hj (by omega)) hd
    (fun H1 locs1 hP1 _ hS1 => kk (gP G c j t) (hB.put hc (by omega) (Nat.le_of_eq hvf) hrf ht (fun g h1 h2 => absurd h2 (by omega))) (fun _ => rfl) H1 locs1 ls (by rw [nI_clamp (by omega), zc_arP (hB.b hc) (hB.s hc hs)] at hP1; exact hP1) hS1 h)
theorem j_astM (C : Cb E own cc) {c j t : Nat} (hB : GB (e0 E) K v G) (hc : c < K) (hs : sh0 c = 9) (hn : ln0 c = n) (hj : j < n) (hn2 : n < 40) (hst : sh0 t = 2) (hvf : v c = j) (hrf : rf0 c j = some t) (ht : t < K) (hd : decode cc pc = .ok (.aastore, 1))
    (kk : ∀ G', GB (e0 E) K (va_up v c (j + 1)) G' → (∀ i, G'.2.1 i = G.2.1 i) → J E ce sl G' (pc + 1) lv st Z) : J E ce sl G pc lv (.ref (G.2.1 t) :: .int (nI j) :: .ref (G.2.1 c) :: st) Z := fun H locs ls hP hS h => by
  have hl := hB.l hc hn
  exact va_astq C.hx C.hb C.hK hP (zc_D hB.2.2.1) hS c 3 t 2 (by rw [zc_at (hB.b hc), ze_M (hB.s hc hs)]) rfl (by rw [zc_at (hB.b ht), ze_obj (hB.s ht hst) (by decide)]) zK2.1 (i := nI j) (by rw [hl]; exact vp_in_nI hj (by omega)) hd
    (fun H1 locs1 hP1 _ hS1 => kk (gP G c j t) (hB.put hc (by omega) (Nat.le_of_eq hvf) hrf ht (fun g h1 h2 => absurd h2 (by omega))) (fun _ => rfl) H1 locs1 ls (by rw [nI_clamp (by omega), zc_arM (hB.b hc) (hB.s hc hs)] at hP1; exact hP1) hS1 h)
theorem j_wid {ce' sl' : Nat} (h1 : ce ≤ ce') (h2 : sl ≤ sl') (kk : J E ce' sl' G pc lv st Z) : J E ce sl G pc lv st Z := fun H locs ls hP hS h => W.widen h1 h2 (kk H locs ls hP hS h)
end JM
