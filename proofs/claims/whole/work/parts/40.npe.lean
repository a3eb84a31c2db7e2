/-! 'throw new NullPointerException("text")', no traces: its own synchronized fillInStackTrace inside Throwable's constructor. -/
section NPE
variable {self : Addr}
set_option maxHeartbeats 1000000 in
theorem zx_rooms {e : Env} {X : State} {g : JFrame} (htop : X.topJava?.isSome) (T : ThrowableC) (N : NpeC) (cell : Cell) {t : ThreadId}
    {lim : Nat × Nat} (hlim : e.platform.stackLimits X.me = lim) (hframes : X.frames.length + 2 < lim.1) (hwords : (stackUse (.java g :: X.frames.tail)).2 + 43 ≤ lim.2) :
    e.platform.stackFull (((X.setTop g).threads[(X.setTop g).cur]?).getD { frames := [] }) (X.setTop g).frames (1 + 2) = false ∧
    e.platform.stackFull ((((npeInside X g N.toNpeT self cell).setTop (fillJ N.fill self 37 [])).threads[((npeInside X g N.toNpeT self cell).setTop (fillJ N.fill self 37 [])).cur]?).getD { frames := [] }) ((npeInside X g N.toNpeT self cell).setTop (fillJ N.fill self 37 [])).frames (1 + 2) = false ∧
    e.platform.stackFull ((((fillInside (npeInside X g N.toNpeT self cell) (fillJ N.fill self 37 []) T.fill self (npeCell N.toNpeT cell t)).setTop (fillJ T.fill self 16 [])).threads[((fillInside (npeInside X g N.toNpeT self cell) (fillJ N.fill self 37 []) T.fill self (npeCell N.toNpeT cell t)).setTop (fillJ T.fill self 16 [])).cur]?).getD { frames := [] }) ((fillInside (npeInside X g N.toNpeT self cell) (fillJ N.fill self 37 []) T.fill self (npeCell N.toNpeT cell t)).setTop (fillJ T.fill self 16 [])).frames (nativeFrameWords "java/lang/Throwable" "fillInStackTrace" 2) = false := by
  obtain ⟨g₀, hg⟩ := Option.isSome_iff_exists.mp htop
  obtain ⟨tl, htl⟩ := State.topJava?_eq_some.mp hg
  have hlen : X.frames.length = (Frame.java g :: X.frames.tail).length := by rw [htl]; rfl
  have hfg : (X.setTop g).frames = .java g :: X.frames.tail := by rw [State.frames_setTop _ htl, htl]; rfl
  have hlimg : e.platform.stackLimits (X.setTop g).me = lim := by rw [State.stackLimits_setTop _ htop]; exact hlim
  have hroom : e.platform.stackFull (((X.setTop g).threads[(X.setTop g).cur]?).getD { frames := [] }) (X.setTop g).frames (1 + 2) = false :=
    roomAbove (pushed := []) (base := .java g :: X.frames.tail) (free := 43) (lim := lim) hfg hlimg (by rw [← hlen]; simp only [List.length_nil]; omega) hwords (by simp only [stackUse_nil]; omega)
  have htopE : (X.setCell self (cell.withEntry X.cur)).topJava?.isSome := by rw [State.topJava?_setCell]; exact htop
  have hfN : (npeInside X g N.toNpeT self cell).frames = .java (entryFrameSync N.fill #[.ref self] 1 self) :: .java g :: X.frames.tail := frames_entered (g := g) htopE _
  have htopN : (npeInside X g N.toNpeT self cell).topJava?.isSome := by rw [State.topJava?_of_frames hfN]; rfl
  have hlimN : e.platform.stackLimits (npeInside X g N.toNpeT self cell).me = lim := by
    show e.platform.stackLimits (fillInside X g N.fill self cell).me = lim
    rw [State.stackLimits_pushFrame, State.stackLimits_setTop _ htopE]; exact hlim
  have hw14 : (stackUse [Frame.java (fillJ N.fill self 37 [])]).2 = 14 := by
    rw [stackUse_java, stackUse_nil]
    simp [operandWords]
  have hroom2 := roomAbove (pl := e.platform) (u := (npeInside X g N.toNpeT self cell).setTop (fillJ N.fill self 37 [])) (vars := 1 + 2)
      (pushed := [.java (fillJ N.fill self 37 [])]) (base := .java g :: X.frames.tail) (free := 43) (lim := lim) (State.frames_setTop _ hfN) (by rw [State.stackLimits_setTop _ htopN]; exact hlimN)
      (by rw [← hlen]; simp only [List.length_cons, List.length_nil]; omega) hwords (by rw [hw14]; omega)
  have htopE2 : ((npeInside X g N.toNpeT self cell).setCell self ((npeCell N.toNpeT cell t).withEntry (npeInside X g N.toNpeT self cell).cur)).topJava?.isSome := by rw [State.topJava?_setCell]; exact htopN
  have hfF2 : (fillInside (npeInside X g N.toNpeT self cell) (fillJ N.fill self 37 []) T.fill self (npeCell N.toNpeT cell t)).frames = .java (entryFrameSync T.fill #[.ref self] 1 self) :: .java (fillJ N.fill self 37 []) :: .java g :: X.frames.tail := by
    rw [show (fillInside (npeInside X g N.toNpeT self cell) (fillJ N.fill self 37 []) T.fill self (npeCell N.toNpeT cell t)).frames = _ from frames_entered (g := (fillJ N.fill self 37 [])) htopE2 _]
    show _ :: _ :: ((npeInside X g N.toNpeT self cell).frames).tail = _
    rw [hfN]; rfl
  have htopF2 : (fillInside (npeInside X g N.toNpeT self cell) (fillJ N.fill self 37 []) T.fill self (npeCell N.toNpeT cell t)).topJava?.isSome := by rw [State.topJava?_of_frames hfF2]; rfl
  have hlimF2 : e.platform.stackLimits (fillInside (npeInside X g N.toNpeT self cell) (fillJ N.fill self 37 []) T.fill self (npeCell N.toNpeT cell t)).me = lim := by
    rw [State.stackLimits_pushFrame, State.stackLimits_setTop _ htopE2]; exact hlimN
  have hw28 : (stackUse [Frame.java (fillJ T.fill self 16 []), Frame.java (fillJ N.fill self 37 [])]).2 = 28 := by
    rw [stackUse_java, hw14]
    simp [operandWords]
  have hroomN := roomAbove (pl := e.platform) (u := (fillInside (npeInside X g N.toNpeT self cell) (fillJ N.fill self 37 []) T.fill self (npeCell N.toNpeT cell t)).setTop (fillJ T.fill self 16 [])) (vars := (nativeFrameWords "java/lang/Throwable" "fillInStackTrace" 2))
      (pushed := [.java (fillJ T.fill self 16 []), .java (fillJ N.fill self 37 [])]) (base := .java g :: X.frames.tail) (free := 43) (lim := lim) (State.frames_setTop _ hfF2) (by rw [State.stackLimits_setTop _ htopF2]; exact hlimF2)
      (by rw [← hlen]; simp only [List.length_cons, List.length_nil]; omega) hwords (by rw [hw28]; decide)
  exact ⟨hroom, hroom2, hroomN⟩
/-- the cell behind the fill -/
abbrev zx_cF (T : ThrowableC) (N : NpeC) (cell : Cell) (t : ThreadId) (u0 : RefV) : Cell := (((npeCell N.toNpeT cell t).withEntry t).setSlot T.fStack.slot u0.v).left.left
set_option maxHeartbeats 1000000 in
theorem zx_fill (p : Program) {e : Env} {below : List Frame} {s₀ X : State} {g : JFrame} {c : Code} (hA : At X g.method c below) (hexec : p.tables.exec = Jvm.exec) (htr : e.platform.stackTraces = false)
    (T : ThrowableC) (L : T.Links e.platform s₀) (N : NpeC) (LN : N.Links T e.platform s₀) (hW : s₀.WarmedH X.vm) {t : ThreadId} (ht : X.cur = t)
    {u0 : RefV} {cell cellS : Cell} {kcell : Class} {ig : Instr} {len : Nat}
    (hcell : X.heap[self]? = some cell) (hobj : ∀ k, cell.vm ≠ .statics k) (hknown : cell.vm ≠ .unknown) (hfree : cell.monitor.owner = none)
    (hkcell : s₀.vm.classes[cell.cls]? = some kcell) (hsel0 : selectMethod e.platform s₀.vm cell.cls T.fill0 = .method T.fill0)
    (hcellS : X.heap[T.aS]? = some cellS) (hneS : T.aS ≠ self) (hknownS : cellS.vm ≠ .unknown) (hvU : cellS.slots[T.fUnassigned.slot]? = some u0.v)
    (hvS : cell.slots[T.fStack.slot]? = some u0.v) (hv0 : cell.slots[N.fState.slot]? = some (.int 0)) (hneSt : T.fStack.slot ≠ N.fState.slot)
    (htS : Takes s₀ cell T.fStack u0.v) (ht1 : Takes s₀ cell N.fState (.int 1))
    (hskip : SkipFacts T e.platform s₀ (fun u => u) u0 ((npeCell N.toNpeT cell t).withEntry t))
    (hdg : decode c.code g.pc = .ok (ig, len))
    {lim : Nat × Nat} (hlim : e.platform.stackLimits X.me = lim) (hframes : X.frames.length + 2 < lim.1) (hwords : (stackUse (.java g :: X.frames.tail)).2 + 43 ≤ lim.2) :
    ∃ vm2, s₀.WarmedH vm2 ∧ ∀ t' : State, Steps p.tables e below (((X.setVm vm2).setCell self (zx_cF T N cell t u0)).setTop { g with pc := g.pc + len, stack := .ref self :: g.stack }) t' →
      Steps p.tables e below (doInvoke e (X.setTop g) [] N.fill #[.ref self]).1 t' := by
  subst ht
  have hlt : self < X.heap.size := (Array.getElem?_eq_some_iff.mp hcell).1
  obtain ⟨r1, -, -⟩ := zx_rooms (e := e) (self := self) (g := g) (t := X.cur) hA.top T N cell hlim hframes hwords
  have hheld : ((npeCell N.toNpeT cell X.cur).withEntry X.cur).left = npeCell N.toNpeT cell X.cur := Cell.left_withEntry_held _ rfl (by show 0 < cell.monitor.count + 1; omega)
  have hFmon : ((((npeCell N.toNpeT cell X.cur).withEntry X.cur).setSlot T.fStack.slot u0.v).left).monitor = (npeCell N.toNpeT cell X.cur).monitor := by
    rw [Cell.left_monitor_congr (y := (npeCell N.toNpeT cell X.cur).withEntry X.cur) (show (((npeCell N.toNpeT cell X.cur).withEntry X.cur).setSlot T.fStack.slot u0.v).monitor = _ from rfl), hheld]
  have hinner : ∀ vm1, s₀.WarmedH vm1 → At (npeInside (X.setVm vm1) g N.toNpeT self cell) N.fill N.codeFill below → ∃ vm2, s₀.WarmedH vm2 ∧ ∀ t' : State,
      Steps p.tables e below (((npeInside (X.setVm vm2) g N.toNpeT self cell).setCell self (((npeCell N.toNpeT cell X.cur).withEntry X.cur).setSlot T.fStack.slot u0.v).left).setTop (fillJ N.fill self 40 [.ref self])) t' →
      Steps p.tables e below (doInvoke e ((npeInside (X.setVm vm1) g N.toNpeT self cell).setTop (fillJ N.fill self 37 [])) [] T.fill #[.ref self]).1 t' := fun vm1 hW1 hB => by
    obtain ⟨-, r2, -⟩ := zx_rooms (e := e) (X := X.setVm vm1) (self := self) (g := g) (t := X.cur) hA.top T N cell hlim hframes hwords
    have hc1 : (npeInside (X.setVm vm1) g N.toNpeT self cell).heap[self]? = some (npeCell N.toNpeT cell X.cur) := heapAt_setCell_self _ (by show self < (X.heap.setIfInBounds self _).size; simpa using hlt)
    have hc2 : (npeInside (X.setVm vm1) g N.toNpeT self cell).heap[T.aS]? = some cellS := by
      rw [heapAt_setCell_ne _ (Ne.symm hneS)]
      show (X.heap.setIfInBounds self _)[T.aS]? = _
      rw [Array.getElem?_setIfInBounds_ne (Ne.symm hneS)]
      exact hcellS
    have hvSN : (npeCell N.toNpeT cell X.cur).slots[T.fStack.slot]? = some u0.v := by
      simp [npeCell, Cell.setSlot, Cell.withEntry, Ne.symm hneSt, hvS]
    have tk2 : Takes s₀ (npeCell N.toNpeT cell X.cur) T.fStack u0.v := ⟨by simpa [npeCell, Cell.setSlot, Cell.withEntry] using htS.1, htS.2⟩
    have hXcur : (npeInside (X.setVm vm1) g N.toNpeT self cell).cur = X.cur := rfl
    have hXvm : ∀ vm, (npeInside (X.setVm vm1) g N.toNpeT self cell).setVm vm = npeInside (X.setVm vm) g N.toNpeT self cell := fun vm => by rw [npeInside_setVm, State.setVm_twice]
    have hroomN : ∀ vm, e.platform.stackFull ((((fillInside ((npeInside (X.setVm vm1) g N.toNpeT self cell).setVm vm) (fillJ N.fill self 37 []) T.fill self (npeCell N.toNpeT cell X.cur)).setTop (fillJ T.fill self 16 [])).threads[((fillInside ((npeInside (X.setVm vm1) g N.toNpeT self cell).setVm vm) (fillJ N.fill self 37 []) T.fill self (npeCell N.toNpeT cell X.cur)).setTop (fillJ T.fill self 16 [])).cur]?).getD { frames := [] }) ((fillInside ((npeInside (X.setVm vm1) g N.toNpeT self cell).setVm vm) (fillJ N.fill self 37 []) T.fill self (npeCell N.toNpeT cell X.cur)).setTop (fillJ T.fill self 16 [])).frames (nativeFrameWords "java/lang/Throwable" "fillInStackTrace" 2) = false := fun vm => by
      rw [hXvm]
      exact (zx_rooms (e := e) (X := X.setVm vm) (self := self) (g := g) (t := X.cur) hA.top T N cell hlim hframes hwords).2.2
    have hXW : s₀.WarmedH (npeInside (X.setVm vm1) g N.toNpeT self cell).vm := hW1
    generalize npeInside (X.setVm vm1) g N.toNpeT self cell = Y at hB r2 hc1 hc2 hXvm hXcur hXW hroomN ⊢
    have hltY : self < Y.heap.size := (Array.getElem?_eq_some_iff.mp hc1).1
    obtain ⟨vm2, hW2, st⟩ := Steps.fillColdAnyV p (V := Y) (g := (fillJ N.fill self 37 [])) (c := N.codeFill) (self := self) hB hexec T L hXW (Nn := fun u => u) heapOnly_id (fun _ _ => rfl) (fun _ => rfl) (fun u x y => setCell_twice _ _ _ _) (cell := npeCell N.toNpeT cell X.cur) (cellS := cellS) (cN := (npeCell N.toNpeT cell X.cur).withEntry X.cur)
      (u0 := u0) (ig := .invokespecial 24) (len := 3) [] hc1 hobj hknown (Or.inr (by rw [hXcur]; rfl)) hvSN hsel0 hc2 hneS hknownS hvU (by rw [hXcur]; exact fun _ hu => hu) (fun _ hu => hu) rfl rfl (by rw [hXcur]) rfl tk2
      (by rw [LN.fillBytes]; exact LibCode.NullPointerException.Fill.at_37) (fun hne vm2 hW2 hAt t' hs => L.nativeOff p htr hAt hW2 (hroomN vm2) hs) r2 (by rw [hXcur]; exact hskip)
    refine ⟨vm2, hW2, fun t' hs => st t' ?_⟩
    rw [hXvm]
    exact hs
  obtain ⟨vm2, hW2, st⟩ := Steps.npeFillColdBy p (V := X) (g := g) (c := c) (self := self) hA hexec T L N LN hW (Fi := fun u => u.setCell self (((npeCell N.toNpeT cell X.cur).withEntry X.cur).setSlot T.fStack.slot u0.v).left) (heapOnly_id.thenSetCell self _)
    (fun u => rfl) (fun u x y => by rw [setCell_twice, setCell_twice, setCell_twice]) (cell := cell) (cFi := (((npeCell N.toNpeT cell X.cur).withEntry X.cur).setSlot T.fStack.slot u0.v).left) (kcell := kcell) (ig := ig) (len := len) []
    hcell hobj hknown hfree hkcell hv0 ht1 (fun u hu => heapAt_setCell_self _ (Array.getElem?_eq_some_iff.mp hu).1) hFmon hdg hinner r1
  refine ⟨vm2, hW2, fun t' hs => st t' ?_⟩
  show Steps p.tables e below (((((X.setVm vm2).setCell self _).setCell self _)).setTop _) t'
  rw [setCell_twice]
  exact hs
end NPE
