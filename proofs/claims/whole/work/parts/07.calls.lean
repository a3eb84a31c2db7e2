/-! CONTRACTS over the one list of cells: CI (an int or a boolean comes back), CV (nothing comes back). -/
def Pw (D : va_G) (Y : YT) (G : GT) (Z : ZT) (U : State) : Prop := va_P D zcl (zc G Y Z) U.heap ∧ va_K D zcl (zty Y) U ∧ ∀ w ∈ zw_nest, va_Nw w U
def CI (l : Launch) (D : va_G) (Y : YT) (b0 : Nat) (G : GT) (y : MethodName) (bytes : ByteArray) (maxL : Nat) (ret : Option FieldType) (lev : Nat) (As : List Value) (Z : ZT) (post : Int32 → ZT → Prop) : Prop :=
  Met l y (Cond.code y bytes maxL ret :: zw_good) (rmL lev) (va_Pc As (Pw D Y G Z)) (va_Qi post (fun Z' t => va_P D zcl (zc G Y Z') t.heap) (fun q => b0 ≤ q)) 0 0 (fun q => b0 ≤ q)
def CV (l : Launch) (D : va_G) (Y : YT) (b0 : Nat) (G : GT) (y : MethodName) (bytes : ByteArray) (maxL : Nat) (lev : Nat) (As : List Value) (Z : ZT) (post : ZT → Prop) : Prop :=
  Met l y (Cond.code y bytes maxL none :: zw_good) (rmL lev) (va_Pc As (Pw D Y G Z)) (va_Qv post (fun Z' t => va_P D zcl (zc G Y Z') t.heap) (fun q => b0 ≤ q)) 0 0 (fun q => b0 ≤ q)
def CrI (E : ET) (G : GT) (ty : FieldType) (post : Int32 → ZT → Prop) : Prop := (eMe E).sig.returnType = some ty ∧ (eMe E).locks = false ∧ eQ E = MQ (eB E) (va_Qi post (fun Z' t => va_P (eD E) zcl (zc G (eY E) Z') t.heap) (fun q => e0 E ≤ q)) (eA E) (eS E) 0 0 (fun q => e0 E ≤ q)
def CrV (E : ET) (G : GT) (post : ZT → Prop) : Prop := (eMe E).sig.returnType = none ∧ (eMe E).locks = false ∧ eQ E = MQ (eB E) (va_Qv post (fun Z' t => va_P (eD E) zcl (zc G (eY E) Z') t.heap) (fun q => e0 E ≤ q)) (eA E) (eS E) 0 0 (fun q => e0 E ≤ q)
theorem Pw.blind {D : va_G} {Y : YT} {G : GT} {Z : ZT} {As : List Value} : FrameBlind (va_Pc As (Pw D Y G Z)) := fun a U g mk q => ⟨q.1, q.2.1, va_K.moved (u := U) (U := U.calling g mk a) (Vm.Alike.refl U.vm) q.2.2.1, fun w hw => va_Nw.same (u := U) (zw_on hw) rfl (q.2.2.2 w hw)⟩
section CS
variable {l : Launch} {D : va_G} {Y : YT} {b0 : Nat} {G : GT} {y : MethodName} {bytes : ByteArray} {maxL lev : Nat} {ret : Option FieldType} {As : List Value} {Z : ZT}
theorem ci_start {ty : FieldType} {post : Int32 → ZT → Prop} (hD : GD b0 G) (hret : ret = some ty) (hy : plainName y.cls = true) (hn : (lg_sl As).length ≤ maxL) {lv0 : List (Nat × Value)} (hl : lv_args 0 As = lv0)
    (body : ∀ E : ET, Cb E y.cls bytes → CrI E G ty post → eR E = rmL lev → GD (e0 E) G → eN E = maxL → J E 0 0 G 0 lv0 [] Z) : CI l D Y b0 G y bytes maxL ret lev As Z post := by
  subst hret
  refine Met.ofW (cc := bytes) (maxL := maxL) (ret := some ty) hy rfl ?_
  intro p e s m args below meth c s₁ B hml hv
  obtain ⟨rfl, hP, hK, hN⟩ := hv
  have hts := atoms_spec (ws := Cond.code y bytes maxL (some ty) :: zw_good) B.pre
  have hlh := lv_entry As (n := maxL) hn
  rw [lg_entry_eq]
  rw [hl] at hlh
  exact body ((p, l, e, rmL lev, s, m, As.toArray, below, meth, c), D, Y, b0, maxL, MQ below (va_Qi post (fun Z' t => va_P D zcl (zc G Y Z') t.heap) (fun q => b0 ≤ q)) As.toArray s 0 0 (fun q => b0 ≤ q))
    ⟨B.exec, B.bytes, hml, findClass_of_methodNamed B.named, fun w hw => hts w (List.mem_cons_of_mem _ hw), hN, hK⟩ ⟨B.returns, B.notSynchronized, rfl⟩ rfl hD rfl s.heap [] _ hP va_S.rf hlh
theorem cv_start {post : ZT → Prop} (hD : GD b0 G) (hy : plainName y.cls = true) (hn : (lg_sl As).length ≤ maxL) {lv0 : List (Nat × Value)} (hl : lv_args 0 As = lv0)
    (body : ∀ E : ET, Cb E y.cls bytes → CrV E G post → eR E = rmL lev → GD (e0 E) G → eN E = maxL → J E 0 0 G 0 lv0 [] Z) : CV l D Y b0 G y bytes maxL lev As Z post := by
  refine Met.ofW (cc := bytes) (maxL := maxL) (ret := none) hy rfl ?_
  intro p e s m args below meth c s₁ B hml hv
  obtain ⟨rfl, hP, hK, hN⟩ := hv
  have hts := atoms_spec (ws := Cond.code y bytes maxL none :: zw_good) B.pre
  have hlh := lv_entry As (n := maxL) hn
  rw [lg_entry_eq]
  rw [hl] at hlh
  exact body ((p, l, e, rmL lev, s, m, As.toArray, below, meth, c), D, Y, b0, maxL, MQ below (va_Qv post (fun Z' t => va_P D zcl (zc G Y Z') t.heap) (fun q => b0 ≤ q)) As.toArray s 0 0 (fun q => b0 ≤ q))
    ⟨B.exec, B.bytes, hml, findClass_of_methodNamed B.named, fun w hw => hts w (List.mem_cons_of_mem _ hw), hN, hK⟩ ⟨B.returns, B.notSynchronized, rfl⟩ rfl hD rfl s.heap [] _ hP va_S.rf hlh
theorem CI.weak {post post' : Int32 → ZT → Prop} (h : CI l D Y b0 G y bytes maxL ret lev As Z post) (hp : ∀ r Z', post r Z' → post' r Z') : CI l D Y b0 G y bytes maxL ret lev As Z post' := by
  intro p e ha hc hk s m args below hf hpre hP hT
  obtain ⟨k, o, h1, h2, h3, ⟨⟨r, u, e1, e2, e3⟩, e4⟩, e5⟩ := h p e ha hc hk s m args below hf hpre hP hT
  exact ⟨k, o, h1, h2, h3, ⟨⟨r, u, e1, hp r u e2, e3⟩, e4⟩, e5⟩
theorem CV.weak {post post' : ZT → Prop} (h : CV l D Y b0 G y bytes maxL lev As Z post) (hp : ∀ Z', post Z' → post' Z') : CV l D Y b0 G y bytes maxL lev As Z post' := by
  intro p e ha hc hk s m args below hf hpre hP hT
  obtain ⟨k, o, h1, h2, h3, ⟨⟨u, e1, e2, e3⟩, e4⟩, e5⟩ := h p e ha hc hk s m args below hf hpre hP hT
  exact ⟨k, o, h1, h2, h3, ⟨⟨u, e1, hp u e2, e3⟩, e4⟩, e5⟩
end CS
/-- what a call needs of its callee, wherever it is called from -/
def zmV (y : MethodName) (bytes : ByteArray) (maxL : Nat) (ret : Option FieldType) (n : Nat) : Prop :=
  Cond.code y bytes maxL ret ∈ zw_good ∧ (y.cls ≠ "java/lang/invoke/MethodHandle" ∧ y.cls ≠ "java/lang/invoke/VarHandle" ∧ (parseMethodDescriptor y.desc).map (fun d => d.parameters.length) = some n) ∧ maxL ≤ 21 ∧ Cond.instanceMethod y ∈ zw_good ∧ Cond.selects y.cls y y ∈ zw_good ∧ Cond.initialized y.cls ∈ zw_good
def zmS (y : MethodName) (bytes : ByteArray) (maxL : Nat) (ret : Option FieldType) (n : Nat) : Prop :=
  Cond.code y bytes maxL ret ∈ zw_good ∧ (y.cls ≠ "java/lang/invoke/MethodHandle" ∧ y.cls ≠ "java/lang/invoke/VarHandle" ∧ (parseMethodDescriptor y.desc).map (fun d => d.parameters.length) = some n) ∧ maxL ≤ 21 ∧ Cond.static y ∈ zw_good ∧ Cond.initialized y.cls ∈ zw_good
section JC
variable {E : ET} {own : String} {cc : ByteArray} {ce sl : Nat} {G : GT} {pc : Nat} {lv : List (Nat × Value)} {st : List Value} {Z : ZT}
theorem j_iret {post : Int32 → ZT → Prop} (C : Cb E own cc) (R : CrI E G .int post) {v : Int32} (hd : decode cc pc = .ok (.ireturn, 1)) (h9 : post v Z) : J E 0 0 G pc lv [.int v] Z := fun H locs ls hP hS h => by
  rw [R.2.2]
  exact W.iret C.hx C.hb R.1 (fun t ht hW => ⟨⟨v, Z, rfl, h9, by show va_P _ _ _ t.heap; rw [ht]; exact hP⟩, hS.F ht⟩) hS.2.2 hd R.2.1
theorem j_zret {post : Int32 → ZT → Prop} (C : Cb E own cc) (R : CrI E G .boolean post) {v : Int32} (hz : v = 0 ∨ v = 1) (hd : decode cc pc = .ok (.ireturn, 1)) (h9 : post v Z) : J E 0 0 G pc lv [.int v] Z := fun H locs ls hP hS h => by
  rw [R.2.2]
  exact W.zret C.hx C.hb R.1 (zb_nr hz) (fun t ht hW => ⟨⟨v, Z, rfl, h9, by show va_P _ _ _ t.heap; rw [ht]; exact hP⟩, hS.F ht⟩) hS.2.2 hd R.2.1
theorem j_ret {post : ZT → Prop} (C : Cb E own cc) (R : CrV E G post) (hd : decode cc pc = .ok (.return_, 1)) (h9 : post Z) : J E 0 0 G pc lv [] Z := fun H locs ls hP hS h => by
  rw [R.2.2]
  exact W.vret C.hx C.hb R.1 (fun t ht hW => ⟨⟨Z, rfl, h9, by show va_P _ _ _ t.heap; rw [ht]; exact hP⟩, hS.F ht⟩) hS.2.2 hd R.2.1
theorem zw_V {y : MethodName} {bytes : ByteArray} {maxL n index : Nat} {ret : Option FieldType} (hz : zmV y bytes maxL ret n) (hl : Cond.methodLink own index y ∈ zw_good) : GoodIn zw_good (wsV own index y.cls y (Cond.code y bytes maxL ret :: zw_good)) := zw_gi (fun w hw => by
  rcases List.mem_append.mp hw with h | h
  · rcases List.mem_cons.mp h with h | h
    · rw [h]; exact hl
    · rcases List.mem_cons.mp h with h | h
      · rw [h]; exact hz.2.2.2.1
      · rcases List.mem_cons.mp h with h | h
        · rw [h]; exact hz.2.2.2.2.1
        · rcases List.mem_cons.mp h with h | h
          · rw [h]; exact hz.2.2.2.2.2
          · cases h
  · rcases List.mem_cons.mp h with h | h
    · rw [h]; exact hz.1
    · exact h)
theorem zw_C {y : MethodName} {bytes : ByteArray} {maxL : Nat} {ret : Option FieldType} (hz : Cond.code y bytes maxL ret ∈ zw_good) : GoodIn zw_good (Cond.code y bytes maxL ret :: zw_good) := zw_gi (fun w hw => by
  rcases List.mem_cons.mp hw with h | h
  · rw [h]; exact hz
  · exact h)
theorem zw_S {y : MethodName} {bytes : ByteArray} {maxL n index : Nat} {ret : Option FieldType} (hz : zmS y bytes maxL ret n) (ho : y.cls = own) (hl : Cond.methodLink own index y ∈ zw_good) : GoodIn zw_good (wsS own index y (Cond.code y bytes maxL ret :: zw_good)) := zw_gi (fun w hw => by
  rcases List.mem_append.mp hw with h | h
  · rcases List.mem_cons.mp h with h | h
    · rw [h]; exact hl
    · rcases List.mem_cons.mp h with h | h
      · rw [h]; exact hz.2.2.2.1
      · rcases List.mem_cons.mp h with h | h
        · rw [h, ← ho]; exact hz.2.2.2.2
        · cases h
  · rcases List.mem_cons.mp h with h | h
    · rw [h]; exact hz.1
    · exact h)
theorem zpre {H : Heap} {locs : List Loc} (C : Cb E own cc) (hP : va_P (eD E) zcl (zc G (eY E) Z) H) {As : List Value} : ∀ U : State, U.heap = H → (eS E).WarmedH U.vm → va_Pc As (Pw (eD E) (eY E) G Z) As.toArray U := fun U hU hW => ⟨rfl, by rw [hU]; exact hP, va_K.moved hW.alike C.hK, fun w hw => zw_warm hw hW (C.hnw w hw)⟩
theorem zrm {lev lev' maxL : Nat} {R : Room} (hR : R = rmL lev) (hlev : lev' + 1 ≤ lev) (hm : maxL ≤ 21) : (rmL lev').frames + 1 ≤ R.frames ∧ 8 + (maxL + 11) + (rmL lev').locals ≤ R.locals := by
  rw [hR]
  exact ⟨hlev, by show 8 + (maxL + 11) + 40 * lev' ≤ 40 * lev; omega⟩
theorem zce {R : Room} {lev : Nat} (hR : R = rmL lev) : 0 + 0 ≤ R.cells ∧ 0 + 0 ≤ R.slots := ⟨Nat.zero_le _, Nat.zero_le _⟩
section
variable {lev lev' maxL n index c k N : Nat} {y : MethodName} {bytes : ByteArray} {ret : Option FieldType} {As rest : List Value} {T : u_T} {ty : Nat → FieldType} {host : String}
theorem j_callI {post : Int32 → ZT → Prop} (C : Cb E own cc) (hR : eR E = rmL lev) (hM : CI (eL E) (eD E) (eY E) (e0 E) G y bytes maxL ret lev' (.ref (G.2.1 c) :: As) Z post) (rest : List Value) (hz : zmV y bytes maxL ret n) (hlink : Cond.methodLink own index y ∈ zw_good) (hk : zK k y.cls T N ty) (hc : c < G.1) (hs : G.2.2.1 c = k) (hlev : lev' + 1 ≤ lev)
    (hn : As.length = n) (hst : st = As.reverse ++ .ref (G.2.1 c) :: rest) (hw : (rest.map fun v => v.category).sum ≤ 8) (hd : decode cc pc = .ok (.invokevirtual index, 3)) (kk : ∀ r Z', post r Z' → J E 0 0 G (pc + 3) lv (.int r :: rest) Z') : J E 0 0 G pc lv st Z := fun H locs ls hP hS h =>
  va_calli (va_runV (As := As) (rest := rest) (Ts := zw_good) ⟨C.hx, C.hb, C.hml, C.ho, C.hts⟩ hM (cwV n C.hts (zw_V hz hlink) rfl rfl rfl ⟨rfl, hz.2.1⟩ (zrm hR hlev hz.2.2.1)) ⟨Pw.blind, va_recv C.hK hP hk.1 (by rw [zc_at hc, ze_obj hs hk.2.2.2.1]), zpre (locs := locs) C hP⟩ rfl hn h.1 hst (lv_room hw) hd (zce hR)) hS (fun q _ h => h) (fun q h => h)
    (fun r u t H1 locs1 ht _ hw hB _ _ hS1 => kk r u hw H1 locs1 ls (by rw [← ht]; exact hB) hS1 h)
theorem j_callIN {post : Int32 → ZT → Prop} (C : Cb E own cc) (hR : eR E = rmL lev) (hM : CI (eL E) (eD E) (eY E) (e0 E) G y bytes maxL ret lev' (.ref (G.2.1 c) :: As) Z post) (rest : List Value) (hz : zmV y bytes maxL ret n) (hlink : Cond.methodLinkNest own index y host ∈ zw_nest) (hk : zK k y.cls T N ty) (hc : c < G.1) (hs : G.2.2.1 c = k) (hlev : lev' + 1 ≤ lev)
    (hn : As.length = n) (hst : st = As.reverse ++ .ref (G.2.1 c) :: rest) (hw : (rest.map fun v => v.category).sum ≤ 8) (hd : decode cc pc = .ok (.invokevirtual index, 3)) (kk : ∀ r Z', post r Z' → J E 0 0 G (pc + 3) lv (.int r :: rest) Z') : J E 0 0 G pc lv st Z := fun H locs ls hP hS h =>
  va_calli (va_runVN (As := As) (rest := rest) (Ts := zw_good) (C := y.cls) ⟨C.hx, C.hb, C.hml, C.ho, C.hts⟩ hM ⟨va_cnB n C.hts (zw_C hz.1) rfl rfl rfl (C.hnw _ hlink) (C.hts _ hz.2.2.2.2.2) hz.2.1 (zrm hR hlev hz.2.2.1), C.hts _ hz.2.2.2.1, C.hts _ hz.2.2.2.2.1⟩ ⟨Pw.blind, va_recv C.hK hP hk.1 (by rw [zc_at hc, ze_obj hs hk.2.2.2.1]), zpre (locs := locs) C hP⟩ rfl hn h.1 hst (lv_room hw) hd (zce hR)) hS (fun q _ h => h) (fun q h => h)
    (fun r u t H1 locs1 ht _ hw hB _ _ hS1 => kk r u hw H1 locs1 ls (by rw [← ht]; exact hB) hS1 h)
theorem j_callV {post : ZT → Prop} (C : Cb E own cc) (hR : eR E = rmL lev) (hM : CV (eL E) (eD E) (eY E) (e0 E) G y bytes maxL lev' (.ref (G.2.1 c) :: As) Z post) (rest : List Value) (hz : zmV y bytes maxL none n) (hlink : Cond.methodLink own index y ∈ zw_good) (hk : zK k y.cls T N ty) (hc : c < G.1) (hs : G.2.2.1 c = k) (hlev : lev' + 1 ≤ lev)
    (hn : As.length = n) (hst : st = As.reverse ++ .ref (G.2.1 c) :: rest) (hw : (rest.map fun v => v.category).sum ≤ 8) (hd : decode cc pc = .ok (.invokevirtual index, 3)) (kk : ∀ Z', post Z' → J E 0 0 G (pc + 3) lv rest Z') : J E 0 0 G pc lv st Z := fun H locs ls hP hS h =>
  va_callv (va_runV (As := As) (rest := rest) (Ts := zw_good) ⟨C.hx, C.hb, C.hml, C.ho, C.hts⟩ hM (cwV n C.hts (zw_V hz hlink) rfl rfl rfl ⟨rfl, hz.2.1⟩ (zrm hR hlev hz.2.2.1)) ⟨Pw.blind, va_recv C.hK hP hk.1 (by rw [zc_at hc, ze_obj hs hk.2.2.2.1]), zpre (locs := locs) C hP⟩ rfl hn h.1 hst (lv_room hw) hd (zce hR)) hS (fun q _ h => h) (fun q h => h)
    (fun u t H1 locs1 ht _ hw hB _ _ hS1 => kk u hw H1 locs1 ls (by rw [← ht]; exact hB) hS1 h)
theorem j_callVN {post : ZT → Prop} (C : Cb E own cc) (hR : eR E = rmL lev) (hM : CV (eL E) (eD E) (eY E) (e0 E) G y bytes maxL lev' (.ref (G.2.1 c) :: As) Z post) (rest : List Value) (hz : zmV y bytes maxL none n) (hlink : Cond.methodLinkNest own index y host ∈ zw_nest) (hk : zK k y.cls T N ty) (hc : c < G.1) (hs : G.2.2.1 c = k) (hlev : lev' + 1 ≤ lev)
    (hn : As.length = n) (hst : st = As.reverse ++ .ref (G.2.1 c) :: rest) (hw : (rest.map fun v => v.category).sum ≤ 8) (hd : decode cc pc = .ok (.invokevirtual index, 3)) (kk : ∀ Z', post Z' → J E 0 0 G (pc + 3) lv rest Z') : J E 0 0 G pc lv st Z := fun H locs ls hP hS h =>
  va_callv (va_runVN (As := As) (rest := rest) (Ts := zw_good) (C := y.cls) ⟨C.hx, C.hb, C.hml, C.ho, C.hts⟩ hM ⟨va_cnB n C.hts (zw_C hz.1) rfl rfl rfl (C.hnw _ hlink) (C.hts _ hz.2.2.2.2.2) hz.2.1 (zrm hR hlev hz.2.2.1), C.hts _ hz.2.2.2.1, C.hts _ hz.2.2.2.2.1⟩ ⟨Pw.blind, va_recv C.hK hP hk.1 (by rw [zc_at hc, ze_obj hs hk.2.2.2.1]), zpre (locs := locs) C hP⟩ rfl hn h.1 hst (lv_room hw) hd (zce hR)) hS (fun q _ h => h) (fun q h => h)
    (fun u t H1 locs1 ht _ hw hB _ _ hS1 => kk u hw H1 locs1 ls (by rw [← ht]; exact hB) hS1 h)
theorem j_callS {post : Int32 → ZT → Prop} (C : Cb E own cc) (hR : eR E = rmL lev) (hM : CI (eL E) (eD E) (eY E) (e0 E) G y bytes maxL ret lev' As Z post) (rest : List Value) (hz : zmS y bytes maxL ret n) (ho : y.cls = own) (hlink : Cond.methodLink own index y ∈ zw_good) (hlev : lev' + 1 ≤ lev)
    (hn : As.length = n) (hst : st = As.reverse ++ rest) (hw : (rest.map fun v => v.category).sum ≤ 8) (hd : decode cc pc = .ok (.invokestatic index, 3)) (kk : ∀ r Z', post r Z' → J E 0 0 G (pc + 3) lv (.int r :: rest) Z') : J E 0 0 G pc lv st Z := fun H locs ls hP hS h =>
  va_calli (va_runS (As := As) (rest := rest) (Ts := zw_good) ⟨C.hx, C.hb, C.hml, C.ho, C.hts⟩ hM (cwS n C.hts (zw_S hz ho hlink) rfl rfl rfl ⟨ho, hz.2.1⟩ (zrm hR hlev hz.2.2.1)) ⟨Pw.blind, zpre (locs := locs) C hP⟩ rfl hn h.1 hst (lv_room hw) hd (zce hR)) hS (fun q _ h => h) (fun q h => h)
    (fun r u t H1 locs1 ht _ hw hB _ _ hS1 => kk r u hw H1 locs1 ls (by rw [← ht]; exact hB) hS1 h)
theorem j_callSN {post : Int32 → ZT → Prop} (C : Cb E own cc) (hR : eR E = rmL lev) (hM : CI (eL E) (eD E) (eY E) (e0 E) G y bytes maxL ret lev' As Z post) (rest : List Value) (hz : zmS y bytes maxL ret n) (hlink : Cond.methodLinkNest own index y host ∈ zw_nest) (hlev : lev' + 1 ≤ lev)
    (hn : As.length = n) (hst : st = As.reverse ++ rest) (hw : (rest.map fun v => v.category).sum ≤ 8) (hd : decode cc pc = .ok (.invokestatic index, 3)) (kk : ∀ r Z', post r Z' → J E 0 0 G (pc + 3) lv (.int r :: rest) Z') : J E 0 0 G pc lv st Z := fun H locs ls hP hS h =>
  va_calli (va_runSN (As := As) (rest := rest) (Ts := zw_good) ⟨C.hx, C.hb, C.hml, C.ho, C.hts⟩ hM ⟨va_cnB n C.hts (zw_C hz.1) rfl rfl rfl (C.hnw _ hlink) (C.hts _ hz.2.2.2.2) hz.2.1 (zrm hR hlev hz.2.2.1), C.hts _ hz.2.2.2.1, trivial⟩ ⟨Pw.blind, zpre (locs := locs) C hP⟩ rfl hn h.1 hst (lv_room hw) hd (zce hR)) hS (fun q _ h => h) (fun q h => h)
    (fun r u t H1 locs1 ht _ hw hB _ _ hS1 => kk r u hw H1 locs1 ls (by rw [← ht]; exact hB) hS1 h)
end
end JC
