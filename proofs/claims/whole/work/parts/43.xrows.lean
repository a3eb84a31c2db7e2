/-! THROWING CONTRACTS over the one list of cells: CX (an int comes back, or an exception of a named class; nothing of the cells has changed then). -/
section ZX1
variable {p : Program} {l : Launch} {e : Env} {R : Room} {s : State} {m : MethodId} {args : Array Value} {below : List Frame} {meth : Method} {c : Code} {H : Heap} {locs : List Loc} {cells slots : Nat}
variable {free : Addr → Prop} {ls : Array Slot} {rest : List Value} {Qc : Array Value → State → Outcome → State → Prop} {XC : String → State → State → Prop}
set_option maxHeartbeats 1000000 in
/-- 'throw new NullPointerException("text")': new; dup; ldc; invokespecial; athrow -/
theorem zx_throw {cc : ByteArray} {pc : Nat} (hexec : p.tables.exec = Jvm.exec) (hb : c.code = cc) (hl : l.stackTraces = false) {own text : String} {ik is ic mc ms sa : Nat} {A : Nat → Prop}
    (hown : s.vm.findClass own = some m.cls)
    (hk : (Cond.classLink own ik Bundle.nN).before args s = true) (hini : (Cond.initialized Bundle.nN).before args s = true) (hstr : vk_R own is text sa s) (hat : ∀ w ∈ (zx_atoms own ic).filter vx_no, w.before args s = true)
    (hgood : ∀ w ∈ Cond.classLink own ik Bundle.nN :: Cond.initialized Bundle.nN :: (zx_atoms own ic).filter vx_no, vx_ot w = true)
    (hU : vx_Zq Bundle.tN "UNASSIGNED_STACK" Bundle.steD A s s.heap) (hN : vx_Zq Bundle.tN "SUPPRESSED_SENTINEL" Bundle.listD A s s.heap) (hS : va_S A s.heap H locs) (hsize : ls.size = c.maxLocals)
    (d0 : decode cc pc = .ok (.new ik, 3)) (d3 : decode cc (pc + 3) = .ok (.dup, 1)) (d4 : decode cc (pc + 4) = .ok (.ldc is, 2)) (d6 : decode cc (pc + 6) = .ok (.invokespecial ic, 3)) (d9 : decode cc (pc + 9) = .ok (.athrow, 1))
    (hout : ∀ x ∈ c.exceptionTable.toList, covers x (pc + 9) = false)
    (hRframes : 6 < R.frames) (hRlocals : (rest.map fun v => v.category).sum + 96 ≤ R.locals) (hRcells : cells + 1 ≤ R.cells) (hRslots : slots + 8 ≤ R.slots) (hlocks : meth.locks = false)
    (hx : ∀ t : State, s.vm.Alike t.vm → H.size ≤ t.heap.size → (∀ q : Nat, q < H.size → t.heap[q]? = H[q]?) → XC Bundle.nN s t)
    (hf : ∀ z ∈ locs, free z.base) (hc : cells + 1 ≤ mc) (hs : slots + 8 ≤ ms) :
    W p l e R s m args below meth c H locs cells slots (vx_MQ below Qc XC args s mc ms free) (F0 m pc ls rest) := by
  intro T hT X
  have htr : e.platform.stackTraces = false := (show e.platform.stackTraces = l.stackTraces by rw [X.admits.platform]).trans hl
  have Y := vx_rebase X (R' := { frames := R.frames, locals := R.locals, cells := 1, slots := 8 }) (Nat.le_refl _) (Nat.le_refl _) hRcells hRslots
  obtain ⟨s', hA⟩ : ∃ z, z = (T.setVm s.vm).setFrames (.invoking m args :: below) := ⟨_, rfl⟩
  rw [← hA] at Y
  have hvm : s'.vm = s.vm := by rw [hA]; rfl
  have hhp : s'.heap = H := by rw [hA]; exact hT
  have hW0 : s.WarmedH s'.vm := by rw [hvm]; exact State.WarmedH.refl s
  have hat' : ∀ w ∈ (zx_atoms own ic).filter vx_no, w.before args s' = true := fun w hw => vx_ot_at hW0 hvm.symm (hgood w (List.mem_cons_of_mem _ (List.mem_cons_of_mem _ hw))) (hat w hw)
  have hk' : (Cond.classLink own ik Bundle.nN).before args s' = true := vx_ot_at hW0 hvm.symm (hgood _ List.mem_cons_self) hk
  have hini' : (Cond.initialized Bundle.nN).before args s' = true := vx_ot_at hW0 hvm.symm (hgood _ (List.mem_cons_of_mem _ List.mem_cons_self)) hini
  have hU' : vx_Zq Bundle.tN "UNASSIGNED_STACK" Bundle.steD A s' s'.heap := by rw [hhp]; exact vx_Zq.moved hW0.alike (hU.kept hS.2.1)
  have hN' : vx_Zq Bundle.tN "SUPPRESSED_SENTINEL" Bundle.listD A s' s'.heap := by rw [hhp]; exact vx_Zq.moved hW0.alike (hN.kept hS.2.1)
  have h : ∀ w ∈ zx_atoms own ic, w.before args s' = true := vx_own hat' (vx_isRefq hU'.1) (vx_isRefq hN'.1) hU'.2.word hN'.2.word
  have hown' : s'.vm.findClass own = some m.cls := by rw [hvm]; exact hown
  have hins : (Cond.instantiable Bundle.nN 8).before args s' = true := h _ (by simp [zx_atoms])
  obtain ⟨vm₁, cX, kX, hfX, hkX, -, -, X₁, st1⟩ := Y.newCold hexec (own := own) (C := Bundle.nN) (index := ik) (n := 8) hown' hk' hins hini'
    (g := F0 m pc ls rest) rfl (by rw [hb]; exact d0) (Nat.le_refl _) (Nat.le_refl _)
  generalize hT1 : (T.setVm vm₁).pushCell { cls := cX, slots := kX.instanceTypes.map defaultValue, vm := .none } = T1 at X₁ st1
  have hcat : (Value.ref T.heap.size).category = 1 := rfl
  have hcellA : T1.heap[T.heap.size]? = some (freshCell cX kX) := by rw [← hT1]; exact State.heap_pushCell_size _ _
  have d3' : decode c.code (pc + 3) = .ok (.dup, 1) := by rw [hb]; exact d3
  have d4' : decode c.code (pc + 4) = .ok (.ldc is, 2) := by rw [hb]; exact d4
  have hstr' : vk_R own is text sa s' := vk_R.warm hW0 hstr
  obtain ⟨U, hsteps, hrun, hend, hW, hsame, ce, hce, hOv, hOc⟩ := zx_ctor X₁ hexec htr (own := own) (ic := ic) hown' h (fun x hx => nomatch hx) hfX hkX hcellA (by rw [hhp, hT]; exact Nat.le_refl _) (msg := .ref sa) rfl
    (g := { method := m, pc := pc + 6, locals := ls, stack := .ref sa :: .ref T.heap.size :: .ref T.heap.size :: rest, locked := none }) rfl hsize rfl rfl (rest := rest) rfl
    (by rw [hb]; exact d6) (by rw [hb]; exact d9) hout hRframes (by simp only [List.map_cons, List.sum_cons, hcat]; omega) hlocks
  obtain ⟨f1, f2⟩ := vx_frame hsame
  rw [hhp] at f1 f2
  have hWs : s.WarmedH U.vm := State.WarmedH.trans hW0 hW
  have hcl : s.vm.findClass Bundle.nN = some ce.cls := by
    rw [hvm] at hOc
    exact hOc
  have hall : s.sameButNew ({ U with vm := s.vm } : State) locs mc ms := by
    subst hA
    obtain ⟨e1, e2⟩ := hsame
    rw [State.setFrames_setFrames] at e1
    have h2 : (T.setVm s.vm).sameButNew ({ U with vm := s.vm } : State) [] (0 + 1) (0 + 8) := ⟨e1, e2⟩
    have h3 := X.same.trans h2
    rw [List.append_nil] at h3
    exact h3.mono hc hs
  refine ⟨U, ?_, .threw T.heap.size, hrun, hend, Or.inr ⟨T.heap.size, rfl, Bundle.nN, ce, locs, hx U hWs.alike f1 (fun q hq => f2 q hq (fun z hz => nomatch hz)), hce, hOv, hcl, hWs, hall, hf⟩⟩
  refine st1 _ ?_
  show Steps p.tables e below (T1.setTop { method := m, pc := pc + 3, locals := ls, stack := .ref T.heap.size :: rest, locked := none }) _
  jvm_step X₁.here [X₁.here.top, hexec, d3', Value.category]
  exact X₁.ldcString hexec (own := own) (text := text) (index := is) (a := sa) hown' hstr'.1 hstr'.2
    (g := { method := m, pc := pc + 4, locals := ls, stack := .ref T.heap.size :: .ref T.heap.size :: rest, locked := none }) rfl d4' _ hsteps
end ZX1
def zw_face : List Cond := lw_tbl.filter (fun w => w.onTables && w.keepsFace)
theorem zw_faceAt {args a' : Array Value} {s U : State} {w : Cond} (hW : s.WarmedH U.vm) (hm : w ∈ zw_face) (h : w.before args s = true) : w.before a' U = true := by
  have h2 := (List.mem_filter.mp hm).2
  simp only [Bool.and_eq_true] at h2
  have h3 := Cond.before_shiftedFace (State.Shifted.of_warmed hW) w h2.2 h
  rw [Cond.onTables_vm (A' := a') (U' := U) U.vm w h2.1, State.setVm_self] at h3
  exact h3
/-- what a throw needs of the state beside the cells -/
def zXt (b0 : Nat) (U : State) : Prop := (∀ w ∈ zw_face, w.before #[] U = true) ∧ vx_Zq Bundle.tN "UNASSIGNED_STACK" Bundle.steD (fun q => b0 ≤ q) U U.heap ∧ vx_Zq Bundle.tN "SUPPRESSED_SENTINEL" Bundle.listD (fun q => b0 ≤ q) U U.heap ∧
  (∃ sa, vk_R RX4 154 "no such part, or the place is not 0 .. 39" sa U) ∧ (∃ sa, vk_R RX4 161 "no row is there" sa U) ∧ ∃ sa, vk_R RX4 176 "no task reads the part" sa U
theorem zXt.go {b0 : Nat} {s U : State} {H : Heap} (hW : s.WarmedH U.vm) (hq : ∀ a : Nat, a < s.heap.size → ¬ b0 ≤ a → H[a]? = s.heap[a]?) (hU : U.heap = H) (h : zXt b0 s) : zXt b0 U := by
  obtain ⟨h1, h2, h3, ⟨a4, h4⟩, ⟨a5, h5⟩, ⟨a6, h6⟩⟩ := h
  subst hU
  exact ⟨fun w hw => zw_faceAt hW hw (h1 w hw), vx_Zq.moved hW.alike (h2.kept hq), vx_Zq.moved hW.alike (h3.kept hq), ⟨a4, vk_R.warm hW h4⟩, ⟨a5, vk_R.warm hW h5⟩, ⟨a6, vk_R.warm hW h6⟩⟩
def PwX (D : va_G) (Y : YT) (b0 : Nat) (G : GT) (Z : ZT) (U : State) : Prop := Pw D Y G Z U ∧ zXt b0 U
theorem PwX.blind {D : va_G} {Y : YT} {b0 : Nat} {G : GT} {Z : ZT} {As : List Value} : FrameBlind (va_Pc As (PwX D Y b0 G Z)) := fun a U g mk q => ⟨q.1, (Pw.blind (As := As) a U g mk ⟨q.1, q.2.1⟩).2, zXt.go (U := U.calling g mk a) (H := U.heap) (State.WarmedH.refl U) (fun _ _ _ => rfl) rfl q.2.2⟩
def rmX (n : Nat) : Room := { frames := n, cells := 1, slots := 8, locals := 40 * n }
def CX (l : Launch) (D : va_G) (Y : YT) (b0 : Nat) (G : GT) (y : MethodName) (bytes : ByteArray) (maxL : Nat) (lev : Nat) (As : List Value) (Z : ZT) (post : Int32 → ZT → Prop) (px : String → Prop) : Prop :=
  vx_Met l y (Cond.code y bytes maxL (some .int) :: zw_good) (rmX lev) (va_Pc As (PwX D Y b0 G Z)) (va_Qi post (fun Z' t => va_P D zcl (zc G Y Z') t.heap) (fun q => b0 ≤ q)) (vx_X px (fun Ex (u : String) t => Ex = u ∧ va_P D zcl (zc G Y Z) t.heap) (fun q => b0 ≤ q)) 1 8 (fun q => b0 ≤ q)
def CrX (E : ET) (G : GT) (Z0 : ZT) (post : Int32 → ZT → Prop) (px : String → Prop) : Prop :=
  (eMe E).sig.returnType = some .int ∧ (eMe E).locks = false ∧ eQ E = vx_MQ (eB E) (va_Qi post (fun Z' t => va_P (eD E) zcl (zc G (eY E) Z') t.heap) (fun q => e0 E ≤ q)) (vx_X px (fun Ex (u : String) t => Ex = u ∧ va_P (eD E) zcl (zc G (eY E) Z0) t.heap) (fun q => e0 E ≤ q)) (eA E) (eS E) 1 8 (fun q => e0 E ≤ q) ∧
  (∀ x ∈ (eC E).exceptionTable.toList, False) ∧ zXt (e0 E) (eS E) ∧ (eL E).stackTraces = false
theorem cx_start {l : Launch} {D : va_G} {Y : YT} {b0 : Nat} {G : GT} {y : MethodName} {bytes : ByteArray} {maxL lev : Nat} {As : List Value} {Z : ZT} {post : Int32 → ZT → Prop} {px : String → Prop} (hl0 : l.stackTraces = false) (hD : GD b0 G) (hy : plainName y.cls = true) (hn : (lg_sl As).length ≤ maxL) {lv0 : List (Nat × Value)} (hl : lv_args 0 As = lv0)
    (body : ∀ E : ET, Cb E y.cls bytes → CrX E G Z post px → eR E = rmX lev → GD (e0 E) G → eN E = maxL → J E 0 0 G 0 lv0 [] Z) : CX l D Y b0 G y bytes maxL lev As Z post px := by
  refine vx_ofW (cc := bytes) (maxL := maxL) (ret := some .int) hy rfl ?_
  intro p e s m args below meth c s₁ B hml htb hv
  obtain ⟨rfl, ⟨hP, hK, hN⟩, hXt⟩ := hv
  have hts := atoms_spec (ws := Cond.code y bytes maxL (some .int) :: zw_good) B.pre
  have hlh := lv_entry As (n := maxL) hn
  rw [lg_entry_eq]
  rw [hl] at hlh
  exact body ((p, l, e, rmX lev, s, m, As.toArray, below, meth, c), D, Y, b0, maxL, vx_MQ below (va_Qi post (fun Z' t => va_P D zcl (zc G Y Z') t.heap) (fun q => b0 ≤ q)) (vx_X px (fun Ex (u : String) t => Ex = u ∧ va_P D zcl (zc G Y Z) t.heap) (fun q => b0 ≤ q)) As.toArray s 1 8 (fun q => b0 ≤ q))
    ⟨B.exec, B.bytes, hml, findClass_of_methodNamed B.named, fun w hw => hts w (List.mem_cons_of_mem _ hw), hN, hK⟩ ⟨B.returns, B.notSynchronized, rfl, htb, hXt, hl0⟩ rfl hD rfl s.heap [] _ hP va_S.rf hlh
/-- the names of the one, the words of the other -/
abbrev zxA : String := "java/lang/ArrayIndexOutOfBoundsException"
abbrev zxA3 : List String := ["java/lang/IndexOutOfBoundsException", "java/lang/RuntimeException", "java/lang/Exception"]
def zx_two (w : Cond) : Bool := decide (w ∈ zw_good) || decide (w ∈ zw_face)
set_option maxRecDepth 100000 in
theorem zxA_ws : ∀ w ∈ vx_atS RX4 156 zxA zxA3, zx_two w = true := by decide +kernel
set_option maxRecDepth 100000 in
theorem zxA_ot : ∀ w ∈ Cond.classLink RX4 152 zxA :: Cond.initialized zxA :: vx_atS RX4 156 zxA zxA3, vx_ot w = true := by decide +kernel
set_option maxRecDepth 100000 in
theorem zxN_ws : ∀ w ∈ (zx_atoms RX4 163).filter vx_no, zx_two w = true := by decide +kernel
set_option maxRecDepth 100000 in
theorem zxN_ot : ∀ w ∈ Cond.classLink RX4 159 Bundle.nN :: Cond.initialized Bundle.nN :: (zx_atoms RX4 163).filter vx_no, vx_ot w = true := by decide +kernel
set_option maxRecDepth 100000 in
theorem zxA_k : Cond.classLink RX4 152 zxA ∈ zw_good ∧ Cond.initialized zxA ∈ zw_good := ⟨zw_in (by decide +kernel) (by decide +kernel), zw_in (by decide +kernel) (by decide +kernel)⟩
set_option maxRecDepth 100000 in
theorem zxN_k : Cond.classLink RX4 159 Bundle.nN ∈ zw_good ∧ Cond.initialized Bundle.nN ∈ zw_good := ⟨zw_in (by decide +kernel) (by decide +kernel), zw_in (by decide +kernel) (by decide +kernel)⟩
def rOK (E : ET) (lev ce sl : Nat) : Prop := lev ≤ (eR E).frames ∧ 40 * lev ≤ (eR E).locals ∧ ce ≤ (eR E).cells ∧ sl ≤ (eR E).slots
theorem rOK.X {E : ET} {lev : Nat} (h : eR E = rmX lev) : rOK E lev 0 0 := by
  unfold rOK
  rw [h]
  exact ⟨Nat.le_refl _, Nat.le_refl _, Nat.zero_le _, Nat.zero_le _⟩
theorem rOK.rm {E : ET} {lev lev' maxL ce sl : Nat} (hR : rOK E lev ce sl) (hlev : lev' + 1 ≤ lev) (hm : maxL ≤ 21) : (rmL lev').frames + 1 ≤ (eR E).frames ∧ 8 + (maxL + 11) + (rmL lev').locals ≤ (eR E).locals :=
  ⟨Nat.le_trans hlev hR.1, by have := hR.2.1; show 8 + (maxL + 11) + 40 * lev' ≤ _; omega⟩
section ZX2
variable {E : ET} {own : String} {cc : ByteArray} {ce sl : Nat} {G : GT} {pc : Nat} {lv : List (Nat × Value)} {st : List Value} {Z : ZT}
theorem zx_two.at (C : Cb E own cc) (h : zXt (e0 E) (eS E)) {w : Cond} (hw : zx_two w = true) : w.before (eA E) (eS E) = true := by
  unfold zx_two at hw
  rcases Bool.or_eq_true_iff.mp hw with q | q
  · exact C.hts w (of_decide_eq_true q)
  · exact zw_faceAt (State.WarmedH.refl _) (of_decide_eq_true q) (h.1 w (of_decide_eq_true q))
theorem zx_ext {D : va_G} {H H1 : Heap} {ws : va_W} (hP : va_P D zcl ws H) (h : ∀ q : Nat, q < H.size → H1[q]? = H[q]?) : va_P D zcl ws H1 := hP.kept (fun k q hk => h q.1 (vx_lt hP hk))
theorem j_xret {post : Int32 → ZT → Prop} {px : String → Prop} {Z0 : ZT} (C : Cb E own cc) (R : CrX E G Z0 post px) {v : Int32} (hd : decode cc pc = .ok (.ireturn, 1)) (h9 : post v Z) : J E 0 0 G pc lv [.int v] Z := fun H locs ls hP hS h => by
  rw [R.2.2.1]
  exact W.widen (Nat.zero_le 1) (Nat.zero_le 8) (vx_ret (W.iret C.hx C.hb R.1 (fun t ht hW => ⟨⟨v, Z, rfl, h9, by show va_P _ _ _ t.heap; rw [ht]; exact hP⟩, hS.F ht⟩) hS.2.2 hd R.2.1))
theorem zx_XC {px : String → Prop} {H : Heap} {locs : List Loc} {nm : String} (hP : va_P (eD E) zcl (zc G (eY E) Z) H) (hS : va_S (fun q => e0 E ≤ q) (eS E).heap H locs) (hpx : px nm) (t : State) (h1 : H.size ≤ t.heap.size) (h2 : ∀ q : Nat, q < H.size → t.heap[q]? = H[q]?) :
    vx_X px (fun Ex (u : String) t => Ex = u ∧ va_P (eD E) zcl (zc G (eY E) Z) t.heap) (fun q => e0 E ≤ q) nm (eS E) t :=
  ⟨nm, hpx, ⟨rfl, zx_ext hP h2⟩, Nat.le_trans hS.1 h1, fun q hq hn => by rw [h2 q (Nat.lt_of_lt_of_le hq hS.1)]; exact hS.2.1 q hq hn⟩
theorem j_throwA {post : Int32 → ZT → Prop} {px : String → Prop} {lev : Nat} (C : Cb E RX4 cc) (R : CrX E G Z post px) (hR : eR E = rmX lev) (hlev : 7 ≤ lev) (hpx : px zxA)
    (d0 : decode cc pc = .ok (.new 152, 3)) (d3 : decode cc (pc + 3) = .ok (.dup, 1)) (d4 : decode cc (pc + 4) = .ok (.ldc 154, 2)) (d6 : decode cc (pc + 6) = .ok (.invokespecial 156, 3)) (d9 : decode cc (pc + 9) = .ok (.athrow, 1)) : J E 0 0 G pc lv [] Z := fun H locs ls hP hS h => by
  obtain ⟨r1, r2, r3, r4, r5, r6⟩ := R
  obtain ⟨sa, x4⟩ := r5.2.2.2.1
  rw [r3]
  exact vx_throwS (own := RX4) (cls := zxA) (names := zxA3) (ik := 152) (is := 154) (ic := 156) (sa := sa) (A := fun q => e0 E ≤ q) C.hx C.hb r6 C.ho (by decide +kernel) (by decide +kernel) (C.hts _ zxA_k.1) (C.hts _ zxA_k.2) x4 (fun w hw => zx_two.at C r5 (zxA_ws w hw)) zxA_ot r5.2.1 r5.2.2.1 hS (h.1.trans C.hml.symm) d0 d3 d4 d6 d9 (fun x hx => (r4 x hx).elim)
    (by rw [hR]; show 3 + 3 < lev; omega) (by rw [hR]; show 0 + (13 * (3 + 1) + 43) ≤ 40 * lev; omega) (by rw [hR]; exact Nat.le_refl 1) (by rw [hR]; show 0 + 6 ≤ 8; omega) r2 (fun t _ h1 h2 => zx_XC hP hS hpx t h1 h2) hS.2.2 (Nat.le_refl 1) (by omega)
theorem j_throwN {post : Int32 → ZT → Prop} {px : String → Prop} {lev is : Nat} {text : String} (C : Cb E RX4 cc) (R : CrX E G Z post px) (hR : eR E = rmX lev) (hlev : 7 ≤ lev) (hpx : px Bundle.nN) (hstr : zXt (e0 E) (eS E) → ∃ sa, vk_R RX4 is text sa (eS E))
    (d0 : decode cc pc = .ok (.new 159, 3)) (d3 : decode cc (pc + 3) = .ok (.dup, 1)) (d4 : decode cc (pc + 4) = .ok (.ldc is, 2)) (d6 : decode cc (pc + 6) = .ok (.invokespecial 163, 3)) (d9 : decode cc (pc + 9) = .ok (.athrow, 1)) : J E 0 0 G pc lv [] Z := fun H locs ls hP hS h => by
  obtain ⟨r1, r2, r3, r4, r5, r6⟩ := R
  obtain ⟨sa, x4⟩ := hstr r5
  rw [r3]
  exact zx_throw (own := RX4) (ik := 159) (is := is) (ic := 163) (sa := sa) (A := fun q => e0 E ≤ q) C.hx C.hb r6 C.ho (C.hts _ zxN_k.1) (C.hts _ zxN_k.2) x4 (fun w hw => zx_two.at C r5 (zxN_ws w hw)) zxN_ot r5.2.1 r5.2.2.1 hS (h.1.trans C.hml.symm) d0 d3 d4 d6 d9 (fun x hx => (r4 x hx).elim)
    (by rw [hR]; show 6 < lev; omega) (by rw [hR]; show 0 + 96 ≤ 40 * lev; omega) (by rw [hR]; exact Nat.le_refl 1) (by rw [hR]; exact Nat.le_refl 8) r2 (fun t _ h1 h2 => zx_XC hP hS hpx t h1 h2) hS.2.2 (Nat.le_refl 1) (by omega)
section
variable {lev lev' maxL n index c k N : Nat} {y : MethodName} {bytes : ByteArray} {ret : Option FieldType} {As rest : List Value} {T : u_T} {ty : Nat → FieldType} {host : String}
theorem j_callIX {post : Int32 → ZT → Prop} (C : Cb E own cc) (hR : rOK E lev ce sl) (hM : CI (eL E) (eD E) (eY E) (e0 E) G y bytes maxL ret lev' (.ref (G.2.1 c) :: As) Z post) (rest : List Value) (hz : zmV y bytes maxL ret n) (hlink : Cond.methodLink own index y ∈ zw_good) (hk : zK k y.cls T N ty) (hc : c < G.1) (hs : G.2.2.1 c = k) (hlev : lev' + 1 ≤ lev)
    (hn : As.length = n) (hst : st = As.reverse ++ .ref (G.2.1 c) :: rest) (hw : (rest.map fun v => v.category).sum ≤ 8) (hd : decode cc pc = .ok (.invokevirtual index, 3)) (kk : ∀ r Z', post r Z' → J E ce sl G (pc + 3) lv (.int r :: rest) Z') : J E ce sl G pc lv st Z := fun H locs ls hP hS h =>
  va_calli (va_runV (As := As) (rest := rest) (Ts := zw_good) ⟨C.hx, C.hb, C.hml, C.ho, C.hts⟩ hM (cwV n C.hts (zw_V hz hlink) rfl rfl rfl ⟨rfl, hz.2.1⟩ (hR.rm hlev hz.2.2.1)) ⟨Pw.blind, va_recv C.hK hP hk.1 (by rw [zc_at hc, ze_obj hs hk.2.2.2.1]), zpre (locs := locs) C hP⟩ rfl hn h.1 hst (lv_room hw) hd ⟨hR.2.2.1, hR.2.2.2⟩) hS (fun q _ h => h) (fun q h => h)
    (fun r u t H1 locs1 ht _ hw hB _ _ hS1 => kk r u hw H1 locs1 ls (by rw [← ht]; exact hB) hS1 h)
theorem j_callINX {post : Int32 → ZT → Prop} (C : Cb E own cc) (hR : rOK E lev ce sl) (hM : CI (eL E) (eD E) (eY E) (e0 E) G y bytes maxL ret lev' (.ref (G.2.1 c) :: As) Z post) (rest : List Value) (hz : zmV y bytes maxL ret n) (hlink : Cond.methodLinkNest own index y host ∈ zw_nest) (hk : zK k y.cls T N ty) (hc : c < G.1) (hs : G.2.2.1 c = k) (hlev : lev' + 1 ≤ lev)
    (hn : As.length = n) (hst : st = As.reverse ++ .ref (G.2.1 c) :: rest) (hw : (rest.map fun v => v.category).sum ≤ 8) (hd : decode cc pc = .ok (.invokevirtual index, 3)) (kk : ∀ r Z', post r Z' → J E ce sl G (pc + 3) lv (.int r :: rest) Z') : J E ce sl G pc lv st Z := fun H locs ls hP hS h =>
  va_calli (va_runVN (As := As) (rest := rest) (Ts := zw_good) (C := y.cls) ⟨C.hx, C.hb, C.hml, C.ho, C.hts⟩ hM ⟨va_cnB n C.hts (zw_C hz.1) rfl rfl rfl (C.hnw _ hlink) (C.hts _ hz.2.2.2.2.2) hz.2.1 (hR.rm hlev hz.2.2.1), C.hts _ hz.2.2.2.1, C.hts _ hz.2.2.2.2.1⟩ ⟨Pw.blind, va_recv C.hK hP hk.1 (by rw [zc_at hc, ze_obj hs hk.2.2.2.1]), zpre (locs := locs) C hP⟩ rfl hn h.1 hst (lv_room hw) hd ⟨hR.2.2.1, hR.2.2.2⟩) hS (fun q _ h => h) (fun q h => h)
    (fun r u t H1 locs1 ht _ hw hB _ _ hS1 => kk r u hw H1 locs1 ls (by rw [← ht]; exact hB) hS1 h)
theorem j_callVX {post : ZT → Prop} (C : Cb E own cc) (hR : rOK E lev ce sl) (hM : CV (eL E) (eD E) (eY E) (e0 E) G y bytes maxL lev' (.ref (G.2.1 c) :: As) Z post) (rest : List Value) (hz : zmV y bytes maxL none n) (hlink : Cond.methodLink own index y ∈ zw_good) (hk : zK k y.cls T N ty) (hc : c < G.1) (hs : G.2.2.1 c = k) (hlev : lev' + 1 ≤ lev)
    (hn : As.length = n) (hst : st = As.reverse ++ .ref (G.2.1 c) :: rest) (hw : (rest.map fun v => v.category).sum ≤ 8) (hd : decode cc pc = .ok (.invokevirtual index, 3)) (kk : ∀ Z', post Z' → J E ce sl G (pc + 3) lv rest Z') : J E ce sl G pc lv st Z := fun H locs ls hP hS h =>
  va_callv (va_runV (As := As) (rest := rest) (Ts := zw_good) ⟨C.hx, C.hb, C.hml, C.ho, C.hts⟩ hM (cwV n C.hts (zw_V hz hlink) rfl rfl rfl ⟨rfl, hz.2.1⟩ (hR.rm hlev hz.2.2.1)) ⟨Pw.blind, va_recv C.hK hP hk.1 (by rw [zc_at hc, ze_obj hs hk.2.2.2.1]), zpre (locs := locs) C hP⟩ rfl hn h.1 hst (lv_room hw) hd ⟨hR.2.2.1, hR.2.2.2⟩) hS (fun q _ h => h) (fun q h => h)
    (fun u t H1 locs1 ht _ hw hB _ _ hS1 => kk u hw H1 locs1 ls (by rw [← ht]; exact hB) hS1 h)
/-- a call that may throw: two ways on -/
theorem j_callX {post : Int32 → ZT → Prop} {px : String → Prop} (C : Cb E own cc) (hR : rOK E lev (ce + 1) (sl + 8)) (hXt : zXt (e0 E) (eS E)) (hM : CX (eL E) (eD E) (eY E) (e0 E) G y bytes maxL lev' (.ref (G.2.1 c) :: As) Z post px) (rest : List Value) (hz : zmV y bytes maxL (some .int) n) (hlink : Cond.methodLink own index y ∈ zw_good) (hk : zK k y.cls T N ty) (hc : c < G.1) (hs : G.2.2.1 c = k) (hlev : lev' + 1 ≤ lev)
    (hn : As.length = n) (hst : st = As.reverse ++ .ref (G.2.1 c) :: rest) (hw : (rest.map fun v => v.category).sum ≤ 8) (hd : decode cc pc = .ok (.invokevirtual index, 3))
    (kx : ∀ (nm : String) (cx : Cell) (q9 : Addr) (H1 : Heap) (locs1 : List Loc) (ls : Array Slot), px nm → va_P (eD E) zcl (zc G (eY E) Z) H1 → va_S (fun q => e0 E ≤ q) (eS E).heap H1 locs1 → lv_has ls (eN E) lv → H1[q9]? = some cx → cx.vm = .none → (eS E).vm.findClass nm = some cx.cls →
      vx_W (eP E) (eL E) (eE E) (eR E) (eS E) (eM E) (eA E) (eB E) (eMe E) (eC E) H1 locs1 (ce + 1) (sl + 8) (eQ E) (F0 (eM E) pc ls rest) q9)
    (kk : ∀ r Z', post r Z' → J E (ce + 1) (sl + 8) G (pc + 3) lv (.int r :: rest) Z') : J E ce sl G pc lv st Z := fun H locs ls hP hS h =>
  vx_calli (vx_runV (As := As) (rest := rest) (Ts := zw_good) ⟨C.hx, C.hb, C.hml, C.ho, C.hts⟩ hM (cwV n C.hts (zw_V hz hlink) rfl rfl rfl ⟨rfl, hz.2.1⟩ (hR.rm (ce := ce + 1) (sl := sl + 8) hlev hz.2.2.1)) ⟨PwX.blind, va_recv C.hK hP hk.1 (by rw [zc_at hc, ze_obj hs hk.2.2.2.1]), fun U hU hW => ⟨rfl, (zpre (locs := locs) C hP (As := As) U hU hW).2, zXt.go hW (fun a h1 h2 => hS.2.1 a h1 h2) hU hXt⟩⟩ rfl hn h.1 hst (lv_room hw) hd ⟨hR.2.2.1, hR.2.2.2⟩) hS (fun q _ h => h) (fun q h => h) (fun q _ h => h)
    (fun nm cx q9 u t H1 locs1 ht _ hp hB _ _ hS1 h1 h2 h3 => kx nm cx q9 H1 locs1 ls (by rw [hB.1]; exact hp) (by rw [← ht]; exact hB.2) hS1 h h1 h2 h3)
    (fun r u t H1 locs1 ht _ hw hB _ _ hS1 => kk r u hw H1 locs1 ls (by rw [← ht]; exact hB) hS1 h)
end
end ZX2
