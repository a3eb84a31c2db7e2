/-! THE FRAME OF THIS PROOF. All cells of the claim lie in ONE list 'zc G Y Z': G says which cells there are (how many, their addresses, their shapes, their lengths, what their reference fields hold), Y the array classes, Z : cell → slot → Int32 all whole numbers in them. J E .. is W over that list. -/
def zw_good : List Cond := lw_tbl.filter goodWord
def zw_isN : Cond → Bool
  | .fieldLinkNest _ _ _ _ _ _ => true
  | .methodLinkNest _ _ _ _ => true
  | _ => false
def zw_nest : List Cond := lw_tbl.filter zw_isN
theorem zw_in {w : Cond} (h : w ∈ lw_tbl) (hg : goodWord w = true) : w ∈ zw_good := List.mem_filter.mpr ⟨h, hg⟩
theorem zw_inN {w : Cond} (h : w ∈ lw_tbl) (hg : zw_isN w = true) : w ∈ zw_nest := List.mem_filter.mpr ⟨h, hg⟩
theorem zw_gi {ws : List Cond} (h : ∀ w ∈ ws, w ∈ zw_good) : GoodIn zw_good ws := fun w hw => ⟨h w hw, good_of_word (List.mem_filter.mp (h w hw)).2⟩
theorem zw_on {w : Cond} (h : w ∈ zw_nest) : w.onTables = true := by
  have h2 := (List.mem_filter.mp h).2
  cases w <;> first | rfl | (simp [zw_isN] at h2; done)
theorem zw_warm {w : Cond} (h : w ∈ zw_nest) {s U : State} (hW : s.WarmedH U.vm) (hZ : va_Nw w s) : va_Nw w U := by
  have h2 := (List.mem_filter.mp h).2
  cases w <;> first | exact va_Nw.warmF hW hZ | exact va_Nw.warmM hW hZ | (simp [zw_isN] at h2; done)
abbrev zcl : List vw_C := [(RX0, TX0, 6), (RX1, TX1, 5), (RX2, TX2, 6), (RX3, TX3, 11), (RX4, TX4, 8), (RX5, TX5, 26)]
abbrev ZT : Type := Nat → Nat → Int32
abbrev GT : Type := Nat × (Nat → Nat) × (Nat → Nat) × (Nat → Nat) × (Nat → Nat → Option Nat)
abbrev YT : Type := ClassId × ClassId × ClassId × ClassId × ClassId
def zu (Z : ZT) (c f : Nat) (v : Int32) : ZT := fun a b => if a = c ∧ b = f then v else Z a b
def zn : Nat → Nat
  | 0 => 6
  | 1 => 5
  | 2 => 6
  | 3 => 11
  | 4 => 8
  | _ => 26
def zr (k f : Nat) : Bool := match k with
  | 0 => decide (f < 2)
  | 1 => decide (f < 3)
  | 2 => decide (f < 5)
  | 3 => decide (f < 3)
  | 4 => decide (f < 5)
  | _ => (decide (3 ≤ f) && decide (f < 13)) || (decide (15 ≤ f) && decide (f < 22)) || decide (f = 25)
def zfl (G : GT) (Z : ZT) (k c : Nat) : List Value := (List.range (zn k)).map fun f => if zr k f = true then va_rf ((G.2.2.2.2 c f).map G.2.1) else .int (Z c f)
def ze (G : GT) (Y : YT) (Z : ZT) (c : Nat) : va_E :=
  if G.2.2.1 c < 6 then .inr (G.2.2.1 c, zfl G Z (G.2.2.1 c) c)
  else if G.2.2.1 c = 6 then .inl (Y.1, G.2.2.2.1 c, .inl (Z c))
  else if G.2.2.1 c = 7 then .inl (Y.2.1, G.2.2.2.1 c, .inl (Z c))
  else if G.2.2.1 c = 8 then .inl (Y.2.2.1, G.2.2.2.1 c, .inr (.inr (.inr (.inr (fun j => (G.2.2.2.2 c j).map G.2.1)))))
  else if G.2.2.1 c = 9 then .inl (Y.2.2.2.1, G.2.2.2.1 c, .inr (.inr (.inr (.inr (fun j => (G.2.2.2.2 c j).map G.2.1)))))
  else .inl (Y.2.2.2.2, G.2.2.2.1 c, .inr (.inl (fun j => (Z c j).toInt64)))
def zc (G : GT) (Y : YT) (Z : ZT) : va_W := (List.range G.1).map fun c => (G.2.1 c, ze G Y Z c)
def zty (Y : YT) : List (ClassId × FieldType) := [(Y.1, .int), (Y.2.1, .boolean), (Y.2.2.1, .object "SourcePositions$Part"), (Y.2.2.2.1, .object "SourcePositions$Mark"), (Y.2.2.2.2, .long)]
section ZL
variable {G : GT} {Y : YT} {Z : ZT} {c f k : Nat} {v : Int32}
theorem zu_s : zu Z c f v c f = v := by simp [zu]
theorem zu_row : zu Z c f v c = upd (Z c) f v := by funext b; simp [zu, upd]
theorem zu_ne {a : Nat} (h : a ≠ c) : zu Z c f v a = Z a := by funext b; simp [zu, h]
theorem zc_at (h : c < G.1) : (zc G Y Z)[c]? = some (G.2.1 c, ze G Y Z c) := by simp [zc, h]
theorem zc_mem {i : Nat} {p : Nat × va_E} (h : (zc G Y Z)[i]? = some p) : i < G.1 ∧ p.1 = G.2.1 i := by
  by_cases hi : i < G.1
  · rw [zc_at hi] at h
    cases h
    exact ⟨hi, rfl⟩
  · simp [zc, hi] at h
theorem zc_set {Z' : ZT} {e : va_E} (h : c < G.1) (he : ze G Y Z' c = e) (ho : ∀ a, a ≠ c → ze G Y Z' a = ze G Y Z a) : (zc G Y Z).set c (G.2.1 c, e) = zc G Y Z' := by
  apply List.ext_getElem?
  intro i
  by_cases hi : i = c
  · subst hi
    rw [List.getElem?_set_self (by simp [zc, h]), zc_at h, he]
  · rw [List.getElem?_set_ne (Ne.symm hi)]
    by_cases hl : i < G.1
    · rw [zc_at hl, zc_at hl, ho i hi]
    · simp [zc, hl]
theorem ze_ne {a : Nat} (h : a ≠ c) : ze G Y (zu Z c f v) a = ze G Y Z a := by
  have hz : zu Z c f v a = Z a := zu_ne h
  simp only [ze, zfl, hz]
theorem ze_obj (h : G.2.2.1 c = k) (hk : k < 6) : ze G Y Z c = .inr (k, zfl G Z k c) := by simp [ze, h, hk]
theorem ze_I (h : G.2.2.1 c = 6) : ze G Y Z c = .inl (Y.1, G.2.2.2.1 c, .inl (Z c)) := by simp [ze, h]
theorem ze_Z (h : G.2.2.1 c = 7) : ze G Y Z c = .inl (Y.2.1, G.2.2.2.1 c, .inl (Z c)) := by simp [ze, h]
theorem ze_P (h : G.2.2.1 c = 8) : ze G Y Z c = .inl (Y.2.2.1, G.2.2.2.1 c, .inr (.inr (.inr (.inr (fun j => (G.2.2.2.2 c j).map G.2.1))))) := by simp [ze, h]
theorem ze_M (h : G.2.2.1 c = 9) : ze G Y Z c = .inl (Y.2.2.2.1, G.2.2.2.1 c, .inr (.inr (.inr (.inr (fun j => (G.2.2.2.2 c j).map G.2.1))))) := by simp [ze, h]
theorem ze_L (h : G.2.2.1 c = 10) : ze G Y Z c = .inl (Y.2.2.2.2, G.2.2.2.1 c, .inr (.inl (fun j => (Z c j).toInt64))) := by simp [ze, h]
theorem zfl_at (hf : f < zn k) (hr : zr k f = false) : (zfl G Z k c)[f]? = some (.int (Z c f)) := by simp [zfl, hf, hr]
theorem zfl_atR {t : Nat} (hf : f < zn k) (hr : zr k f = true) (ht : G.2.2.2.2 c f = some t) : (zfl G Z k c)[f]? = some (.ref (G.2.1 t)) := by simp [zfl, hf, hr, ht, va_rf]
theorem zfl_len : (zfl G Z k c).length = zn k := by simp [zfl]
theorem zfl_set (hf : f < zn k) (hr : zr k f = false) : (zfl G Z k c).set f (.int v) = zfl G (zu Z c f v) k c := by
  apply List.ext_getElem?
  intro i
  by_cases hi : i = f
  · subst hi
    rw [List.getElem?_set_self (by rw [zfl_len]; exact hf), zfl_at hf hr, zu_s]
  · rw [List.getElem?_set_ne (Ne.symm hi)]
    by_cases hl : i < zn k
    · simp [zfl, hl, zu, hi]
    · simp [zfl, hl]
theorem zc_putI (h : c < G.1) (hs : G.2.2.1 c = k) (hk : k < 6) (hf : f < zn k) (hr : zr k f = false) : (zc G Y Z).set c (G.2.1 c, .inr (k, (zfl G Z k c).set f (.int v))) = zc G Y (zu Z c f v) :=
  zc_set h (by rw [ze_obj hs hk, zfl_set hf hr]) (fun a ha => ze_ne ha)
theorem zc_arrI (h : c < G.1) (hs : G.2.2.1 c = 6) : (zc G Y Z).set c (G.2.1 c, .inl (Y.1, G.2.2.2.1 c, .inl (upd (Z c) f v))) = zc G Y (zu Z c f v) :=
  zc_set h (by rw [ze_I hs, zu_row]) (fun a ha => ze_ne ha)
theorem zc_arrZ (h : c < G.1) (hs : G.2.2.1 c = 7) : (zc G Y Z).set c (G.2.1 c, .inl (Y.2.1, G.2.2.2.1 c, .inl (upd (Z c) f v))) = zc G Y (zu Z c f v) :=
  zc_set h (by rw [ze_Z hs, zu_row]) (fun a ha => ze_ne ha)
theorem zc_arrL (h : c < G.1) (hs : G.2.2.1 c = 10) : (zc G Y Z).set c (G.2.1 c, .inl (Y.2.2.2.2, G.2.2.2.1 c, .inr (.inl (vp_updL (fun j => (Z c j).toInt64) f v.toInt64)))) = zc G Y (zu Z c f v) := by
  refine zc_set h ?_ (fun a ha => ze_ne ha)
  rw [ze_L hs]
  have e : (fun j => (zu Z c f v c j).toInt64) = vp_updL (fun j => (Z c j).toInt64) f v.toInt64 := by
    funext j
    by_cases hj : j = f <;> simp [zu, vp_updL, hj]
  rw [e]
end ZL
/-- the addresses are apart, and new -/
def GD (b0 : Nat) (G : GT) : Prop := (∀ i j, i < G.1 → j < G.1 → G.2.1 i = G.2.1 j → i = j) ∧ ∀ i, i < G.1 → b0 ≤ G.2.1 i
theorem zc_D {b0 : Nat} {G : GT} {Y : YT} {Z : ZT} (h : GD b0 G) : va_D (fun q => b0 ≤ q) (zc G Y Z) := by
  refine ⟨fun i j p q hi hj hpq => ?_, fun i q hi => ?_⟩
  · obtain ⟨h1, h2⟩ := zc_mem hi
    obtain ⟨h3, h4⟩ := zc_mem hj
    exact h.1 i j h1 h3 (by rw [← h2, ← h4]; exact hpq)
  · obtain ⟨h1, h2⟩ := zc_mem hi
    show b0 ≤ q.1
    rw [h2]
    exact h.2 i h1
abbrev ET : Type := (Program × Launch × Env × Room × State × MethodId × Array Value × List Frame × Method × Code) × va_G × YT × Nat × Nat × (State → Prop)
abbrev eP (E : ET) : Program := E.1.1
abbrev eL (E : ET) : Launch := E.1.2.1
abbrev eE (E : ET) : Env := E.1.2.2.1
abbrev eR (E : ET) : Room := E.1.2.2.2.1
abbrev eS (E : ET) : State := E.1.2.2.2.2.1
abbrev eM (E : ET) : MethodId := E.1.2.2.2.2.2.1
abbrev eA (E : ET) : Array Value := E.1.2.2.2.2.2.2.1
abbrev eB (E : ET) : List Frame := E.1.2.2.2.2.2.2.2.1
abbrev eMe (E : ET) : Method := E.1.2.2.2.2.2.2.2.2.1
abbrev eC (E : ET) : Code := E.1.2.2.2.2.2.2.2.2.2
abbrev eD (E : ET) : va_G := E.2.1
abbrev eY (E : ET) : YT := E.2.2.1
abbrev e0 (E : ET) : Nat := E.2.2.2.1
abbrev eN (E : ET) : Nat := E.2.2.2.2.1
abbrev eQ (E : ET) : State → Prop := E.2.2.2.2.2
def J (E : ET) (cells slots : Nat) (G : GT) (pc : Nat) (lv : List (Nat × Value)) (st : List Value) (Z : ZT) : Prop :=
  ∀ (H : Heap) (locs : List Loc) (ls : Array Slot), va_P (eD E) zcl (zc G (eY E) Z) H → va_S (fun q => e0 E ≤ q) (eS E).heap H locs → lv_has ls (eN E) lv →
    W (eP E) (eL E) (eE E) (eR E) (eS E) (eM E) (eA E) (eB E) (eMe E) (eC E) H locs cells slots (eQ E) (F0 (eM E) pc ls st)
/-- what holds of a method that runs -/
def Cb (E : ET) (own : String) (cc : ByteArray) : Prop :=
  (eP E).tables.exec = Jvm.exec ∧ (eC E).code = cc ∧ (eC E).maxLocals = eN E ∧ (eS E).vm.findClass own = some (eM E).cls ∧ (∀ w ∈ zw_good, w.before (eA E) (eS E) = true) ∧ (∀ w ∈ zw_nest, va_Nw w (eS E)) ∧ va_K (eD E) zcl (zty (eY E)) (eS E)
theorem Cb.hx {E : ET} {own : String} {cc : ByteArray} (C : Cb E own cc) : (eP E).tables.exec = Jvm.exec := C.1
theorem Cb.hb {E : ET} {own : String} {cc : ByteArray} (C : Cb E own cc) : (eC E).code = cc := C.2.1
theorem Cb.hml {E : ET} {own : String} {cc : ByteArray} (C : Cb E own cc) : (eC E).maxLocals = eN E := C.2.2.1
theorem Cb.ho {E : ET} {own : String} {cc : ByteArray} (C : Cb E own cc) : (eS E).vm.findClass own = some (eM E).cls := C.2.2.2.1
theorem Cb.hts {E : ET} {own : String} {cc : ByteArray} (C : Cb E own cc) : ∀ w ∈ zw_good, w.before (eA E) (eS E) = true := C.2.2.2.2.1
theorem Cb.hnw {E : ET} {own : String} {cc : ByteArray} (C : Cb E own cc) : ∀ w ∈ zw_nest, va_Nw w (eS E) := C.2.2.2.2.2.1
theorem Cb.hK {E : ET} {own : String} {cc : ByteArray} (C : Cb E own cc) : va_K (eD E) zcl (zty (eY E)) (eS E) := C.2.2.2.2.2.2
def rmL (n : Nat) : Room := { frames := n, cells := 0, slots := 0, locals := 40 * n }
/-- a class of the claim: its number, name, fields, types -/
def zK (k : Nat) (C0 : String) (T : u_T) (N : Nat) (ty : Nat → FieldType) : Prop :=
  zcl[k]? = some (C0, T, N) ∧ (∀ w ∈ u_ws C0 T N, w ∈ zw_good) ∧ zn k = N ∧ k < 6 ∧ (∀ j, j < N → parseFieldDescriptor (T j).2.2.1 = some (ty j)) ∧ (∀ a, a < N → ∀ b, b < N → a ≠ b → (T a).2.1 ≠ (T b).2.1)
set_option maxRecDepth 100000 in
theorem zK0 : zK 0 RX0 TX0 6 tyX0 := ⟨rfl, by decide +kernel, rfl, by decide, tyX0_ok, nmX0⟩
set_option maxRecDepth 100000 in
theorem zK1 : zK 1 RX1 TX1 5 tyX1 := ⟨rfl, by decide +kernel, rfl, by decide, tyX1_ok, nmX1⟩
set_option maxRecDepth 100000 in
theorem zK2 : zK 2 RX2 TX2 6 tyX2 := ⟨rfl, by decide +kernel, rfl, by decide, tyX2_ok, nmX2⟩
set_option maxRecDepth 100000 in
theorem zK3 : zK 3 RX3 TX3 11 tyX3 := ⟨rfl, by decide +kernel, rfl, by decide, tyX3_ok, nmX3⟩
set_option maxRecDepth 100000 in
theorem zK4 : zK 4 RX4 TX4 8 tyX4 := ⟨rfl, by decide +kernel, rfl, by decide, tyX4_ok, nmX4⟩
set_option maxRecDepth 100000 in
theorem zK5 : zK 5 RX5 TX5 26 tyX5 := ⟨rfl, by decide +kernel, rfl, by decide, tyX5_ok, nmX5⟩
