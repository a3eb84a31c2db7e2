/-! CONSTRUCTORS: contracts over a graph that grows. -/
def rmN (lev mc ms : Nat) : Room := { frames := lev, cells := mc, slots := ms, locals := 40 * lev }
def PwN (D : va_G) (Y : YT) (b0 : Nat) (G : GT) (Z : ZT) (U : State) : Prop := Pw D Y G Z U ∧ b0 ≤ U.heap.size ∧ va_AO RX3 U ∧ va_AO RX2 U
theorem PwN.blind {D : va_G} {Y : YT} {b0 : Nat} {G : GT} {Z : ZT} {As : List Value} : FrameBlind (va_Pc As (PwN D Y b0 G Z)) := fun a U g mk q => ⟨q.1, (Pw.blind (As := As) a U g mk ⟨q.1, q.2.1⟩).2, q.2.2.1, va_AO.moved (u := U) (U := U.calling g mk a) (Vm.Alike.refl U.vm) q.2.2.2.1, va_AO.moved (u := U) (U := U.calling g mk a) (Vm.Alike.refl U.vm) q.2.2.2.2⟩
def CN (l : Launch) (D : va_G) (Y : YT) (b0 : Nat) (G : GT) (y : MethodName) (bytes : ByteArray) (maxL lev mc ms : Nat) (As : List Value) (Z : ZT) (post : GT → ZT → Prop) : Prop :=
  Met l y (Cond.code y bytes maxL none :: zw_good) (rmN lev mc ms) (va_Pc As (PwN D Y b0 G Z)) (va_Qv (fun u : GT × ZT => post u.1 u.2) (fun u t => va_P D zcl (zc u.1 Y u.2) t.heap) (fun q => b0 ≤ q)) mc ms (fun q => b0 ≤ q)
def CrN (E : ET) (post : GT → ZT → Prop) (mc ms : Nat) : Prop := (eMe E).sig.returnType = none ∧ (eMe E).locks = false ∧ eQ E = MQ (eB E) (va_Qv (fun u : GT × ZT => post u.1 u.2) (fun u t => va_P (eD E) zcl (zc u.1 (eY E) u.2) t.heap) (fun q => e0 E ≤ q)) (eA E) (eS E) mc ms (fun q => e0 E ≤ q)
def EN (E : ET) : Prop := (eMe E).name = "<init>" ∧ e0 E ≤ (eS E).heap.size ∧ va_AO RX3 (eS E) ∧ va_AO RX2 (eS E)
theorem cn_start {l : Launch} {D : va_G} {Y : YT} {b0 : Nat} {G : GT} {y : MethodName} {bytes : ByteArray} {maxL lev mc ms : Nat} {As : List Value} {Z : ZT} {post : GT → ZT → Prop} (hy : plainName y.cls = true) (hy1 : y.name = "<init>") (hn : (lg_sl As).length ≤ maxL) {lv0 : List (Nat × Value)} (hl : lv_args 0 As = lv0)
    (body : ∀ E : ET, Cb E y.cls bytes → CrN E post mc ms → eR E = rmN lev mc ms → EN E → e0 E = b0 → eN E = maxL → J E 0 0 G 0 lv0 [] Z) : CN l D Y b0 G y bytes maxL lev mc ms As Z post := by
  refine Met.ofW (cc := bytes) (maxL := maxL) (ret := none) hy rfl ?_
  intro p e s m args below meth c s₁ B hml hv
  obtain ⟨rfl, ⟨hP, hK, hN⟩, h0, hA1, hA2⟩ := hv
  have hts := atoms_spec (ws := Cond.code y bytes maxL none :: zw_good) B.pre
  have hlh := lv_entry As (n := maxL) hn
  rw [lg_entry_eq]
  rw [hl] at hlh
  exact body ((p, l, e, rmN lev mc ms, s, m, As.toArray, below, meth, c), D, Y, b0, maxL, MQ below (va_Qv (fun u : GT × ZT => post u.1 u.2) (fun u t => va_P D zcl (zc u.1 Y u.2) t.heap) (fun q => b0 ≤ q)) As.toArray s mc ms (fun q => b0 ≤ q))
    ⟨B.exec, B.bytes, hml, findClass_of_methodNamed B.named, fun w hw => hts w (List.mem_cons_of_mem _ hw), hN, hK⟩ ⟨B.returns, B.notSynchronized, rfl⟩ rfl ⟨(name_of_methodNamed B.named B.method).1.trans hy1, h0, hA1, hA2⟩ rfl rfl s.heap [] _ hP va_S.rf hlh
set_option maxRecDepth 100000 in
theorem zw_oi : Cond.instanceMethod Lib.objectInit ∈ zw_good ∧ Cond.code Lib.objectInit ⟨#[0xb1]⟩ 1 none ∈ zw_good := ⟨zw_in (by decide +kernel) (by decide +kernel), zw_in (by decide +kernel) (by decide +kernel)⟩
section JN
variable {E : ET} {own : String} {cc : ByteArray} {ce sl : Nat} {G : GT} {pc : Nat} {lv : List (Nat × Value)} {st : List Value} {Z : ZT}
theorem j_nret {post : GT → ZT → Prop} (C : Cb E own cc) (R : CrN E post ce sl) (hd : decode cc pc = .ok (.return_, 1)) (h9 : post G Z) : J E ce sl G pc lv [] Z := fun H locs ls hP hS h => by
  rw [R.2.2]
  exact W.vret C.hx C.hb R.1 (fun t ht hW => ⟨⟨(G, Z), rfl, h9, by show va_P _ _ _ t.heap; rw [ht]; exact hP⟩, hS.F ht⟩) hS.2.2 hd R.2.1
theorem j_objInit {index lev mc ms a : Nat} (C : Cb E own cc) (hR : eR E = rmN lev mc ms) (hlev : 1 ≤ lev) (hl : Cond.methodLink own index Lib.objectInit ∈ zw_good) (hd : decode cc pc = .ok (.invokespecial index, 3)) (kk : J E ce sl G (pc + 3) lv [] Z) : J E ce sl G pc lv [.ref a] Z := fun H locs ls hP hS h =>
  W.objInit C.hx C.hb C.ho (C.hts _ hl) (C.hts _ zw_oi.1) (C.hts _ zw_oi.2) (g := F0 (eM E) pc ls [.ref a]) rfl (h.1.trans C.hml.symm) rfl hd (by rw [hR]; exact hlev) (by rw [hR]; show 2 * 0 + 0 + 12 ≤ 40 * lev; omega) (kk H locs ls hP hS h)
theorem j_callNN {post : GT → ZT → Prop} {lev lev' mc ms mcE msE maxL index c : Nat} {y : MethodName} {bytes : ByteArray} {host : String} (C : Cb E own cc) (hR : eR E = rmN lev mcE msE) (hE : EN E) (hM : CN (eL E) (eD E) (eY E) (e0 E) G y bytes maxL lev' mc ms [.ref (G.2.1 c)] Z post) (rest : List Value) (hz : Cond.code y bytes maxL none ∈ zw_good ∧ Cond.instanceMethod y ∈ zw_good ∧ Cond.initialized y.cls ∈ zw_good)
    (hzd : y.cls ≠ "java/lang/invoke/MethodHandle" ∧ y.cls ≠ "java/lang/invoke/VarHandle" ∧ (parseMethodDescriptor y.desc).map (fun d => d.parameters.length) = some 0) (hy1 : y.name = "<init>") (hlink : Cond.methodLinkNest own index y host ∈ zw_nest) (hml : maxL ≤ 21) (hlev : lev' + 1 ≤ lev) (hce : ce + mc ≤ mcE) (hsl : sl + ms ≤ msE)
    (hst : st = .ref (G.2.1 c) :: rest) (hw : (rest.map fun v => v.category).sum ≤ 8) (hd : decode cc pc = .ok (.invokespecial index, 3)) (kk : ∀ G' Z', post G' Z' → J E (ce + mc) (sl + ms) G' (pc + 3) lv rest Z') : J E ce sl G pc lv st Z := fun H locs ls hP hS h =>
  va_callv (va_runIN (As := []) (rest := rest) (Ts := zw_good) ⟨C.hx, C.hb, C.hml, C.ho, C.hts⟩ hM ⟨va_cnB 0 C.hts (zw_C hz.1) rfl rfl rfl (C.hnw _ hlink) (C.hts _ hz.2.2) hzd (by rw [hR]; exact ⟨hlev, by show 8 + (maxL + 11) + 40 * lev' ≤ 40 * lev; omega⟩), hy1, C.hts _ hz.2.1⟩ ⟨PwN.blind, fun U hU hW => ⟨rfl, (zpre (locs := locs) C hP (As := []) U hU hW).2, by rw [hU]; exact Nat.le_trans hE.2.1 hS.1, va_AO.moved hW.alike hE.2.2.1, va_AO.moved hW.alike hE.2.2.2⟩⟩ rfl rfl h.1 hst (lv_room hw) hd (by rw [hR]; exact ⟨hce, hsl⟩)) hS (fun q _ h => h) (fun q h => h)
    (fun u t H1 locs1 ht _ hw hB _ _ hS1 => kk u.1 u.2 hw H1 locs1 ls (by rw [← ht]; exact hB) hS1 h)
theorem j_callNL {post : GT → ZT → Prop} {lev' mc ms maxL index c : Nat} {y : MethodName} {bytes : ByteArray} (C : Cb E own cc) (h0 : e0 E ≤ (eS E).heap.size ∧ va_AO RX3 (eS E) ∧ va_AO RX2 (eS E)) (hM : CN (eL E) (eD E) (eY E) (e0 E) G y bytes maxL lev' mc ms [.ref (G.2.1 c)] Z post) (rest : List Value) (hz : Cond.code y bytes maxL none ∈ zw_good ∧ Cond.instanceMethod y ∈ zw_good ∧ Cond.initialized y.cls ∈ zw_good)
    (hzd : y.cls ≠ "java/lang/invoke/MethodHandle" ∧ y.cls ≠ "java/lang/invoke/VarHandle" ∧ (parseMethodDescriptor y.desc).map (fun d => d.parameters.length) = some 0) (hy1 : y.name = "<init>") (hlink : Cond.methodLink own index y ∈ zw_good) (hml : maxL ≤ 21) (hlev : lev' + 1 ≤ (eR E).frames ∧ 8 + (maxL + 11) + 40 * lev' ≤ (eR E).locals) (hce : ce + mc ≤ (eR E).cells) (hsl : sl + ms ≤ (eR E).slots)
    (hst : st = .ref (G.2.1 c) :: rest) (hw : (rest.map fun v => v.category).sum ≤ 8) (hd : decode cc pc = .ok (.invokespecial index, 3)) (kk : ∀ G' Z', post G' Z' → J E (ce + mc) (sl + ms) G' (pc + 3) lv rest Z') : J E ce sl G pc lv st Z := fun H locs ls hP hS h =>
  va_callv (va_runI (As := []) (rest := rest) (Ts := zw_good) ⟨C.hx, C.hb, C.hml, C.ho, C.hts⟩ hM (cwI 0 C.hts (zw_C hz.1) rfl rfl rfl (C.hts _ hz.2.2) (C.hts _ hlink) (C.hts _ hz.2.1) hy1 hzd hlev) ⟨PwN.blind, fun U hU hW => ⟨rfl, (zpre (locs := locs) C hP (As := []) U hU hW).2, by rw [hU]; exact Nat.le_trans h0.1 hS.1, va_AO.moved hW.alike h0.2.1, va_AO.moved hW.alike h0.2.2⟩⟩ rfl rfl h.1 hst (lv_room hw) hd ⟨hce, hsl⟩) hS (fun q _ h => h) (fun q h => h)
    (fun u t H1 locs1 ht _ hw hB _ _ hS1 => kk u.1 u.2 hw H1 locs1 ls (by rw [← ht]; exact hB) hS1 h)
end JN
theorem va_up_up {v : Nat → Nat} {c x y : Nat} : va_up (va_up v c x) c y = va_up v c y := by
  funext j
  by_cases h : j = c <;> simp [va_up, h]
/-- shapes and lengths of the cells from c on -/
def SH (c : Nat) (l : List (Nat × Nat)) : Prop := ∀ i, i < l.length → sh0 (c + i) = (l.getD i (0, 0)).1 ∧ ln0 (c + i) = (l.getD i (0, 0)).2
def RF (c n : Nat) : Prop := ∀ f, f < n → rf0 c f = some (c + 1 + f)
set_option maxRecDepth 100000 in
theorem zo_X0 : Cond.methodLink RX0 3 Lib.objectInit ∈ zw_good := zw_in (by decide +kernel) rfl
set_option maxRecDepth 100000 in
theorem zi_X0 : Cond.instantiable RX0 6 ∈ zw_good ∧ Cond.initialized RX0 ∈ zw_good := ⟨zw_in (by decide +kernel) rfl, zw_in (by decide +kernel) rfl⟩
theorem zd_X0 : ∀ j, j < 6 → defaultValue (tyX0 j) = vp_V (zdf 0) j := by
  intro j hj
  match j with
  | 0 => rfl
  | 1 => rfl
  | 2 => rfl
  | 3 => rfl
  | 4 => rfl
  | 5 => rfl
  | j + 6 => exact absurd hj (by omega)
theorem zq_X0 : yX0_init.cls ≠ "java/lang/invoke/MethodHandle" ∧ yX0_init.cls ≠ "java/lang/invoke/VarHandle" ∧ (parseMethodDescriptor yX0_init.desc).map (fun d => d.parameters.length) = some 0 := by decide +kernel
set_option maxRecDepth 100000 in
theorem zo_X1 : Cond.methodLink RX1 3 Lib.objectInit ∈ zw_good := zw_in (by decide +kernel) rfl
set_option maxRecDepth 100000 in
theorem zi_X1 : Cond.instantiable RX1 5 ∈ zw_good ∧ Cond.initialized RX1 ∈ zw_good := ⟨zw_in (by decide +kernel) rfl, zw_in (by decide +kernel) rfl⟩
theorem zd_X1 : ∀ j, j < 5 → defaultValue (tyX1 j) = vp_V (zdf 1) j := by
  intro j hj
  match j with
  | 0 => rfl
  | 1 => rfl
  | 2 => rfl
  | 3 => rfl
  | 4 => rfl
  | j + 5 => exact absurd hj (by omega)
theorem zq_X1 : yX1_init.cls ≠ "java/lang/invoke/MethodHandle" ∧ yX1_init.cls ≠ "java/lang/invoke/VarHandle" ∧ (parseMethodDescriptor yX1_init.desc).map (fun d => d.parameters.length) = some 0 := by decide +kernel
set_option maxRecDepth 100000 in
theorem zo_X2 : Cond.methodLink RX2 3 Lib.objectInit ∈ zw_good := zw_in (by decide +kernel) rfl
set_option maxRecDepth 100000 in
theorem zi_X2 : Cond.instantiable RX2 6 ∈ zw_good ∧ Cond.initialized RX2 ∈ zw_good := ⟨zw_in (by decide +kernel) rfl, zw_in (by decide +kernel) rfl⟩
theorem zd_X2 : ∀ j, j < 6 → defaultValue (tyX2 j) = vp_V (zdf 2) j := by
  intro j hj
  match j with
  | 0 => rfl
  | 1 => rfl
  | 2 => rfl
  | 3 => rfl
  | 4 => rfl
  | 5 => rfl
  | j + 6 => exact absurd hj (by omega)
theorem zq_X2 : yX2_init.cls ≠ "java/lang/invoke/MethodHandle" ∧ yX2_init.cls ≠ "java/lang/invoke/VarHandle" ∧ (parseMethodDescriptor yX2_init.desc).map (fun d => d.parameters.length) = some 0 := by decide +kernel
set_option maxRecDepth 100000 in
theorem zo_X3 : Cond.methodLink RX3 3 Lib.objectInit ∈ zw_good := zw_in (by decide +kernel) rfl
set_option maxRecDepth 100000 in
theorem zi_X3 : Cond.instantiable RX3 11 ∈ zw_good ∧ Cond.initialized RX3 ∈ zw_good := ⟨zw_in (by decide +kernel) rfl, zw_in (by decide +kernel) rfl⟩
theorem zd_X3 : ∀ j, j < 11 → defaultValue (tyX3 j) = vp_V (zdf 3) j := by
  intro j hj
  match j with
  | 0 => rfl
  | 1 => rfl
  | 2 => rfl
  | 3 => rfl
  | 4 => rfl
  | 5 => rfl
  | 6 => rfl
  | 7 => rfl
  | 8 => rfl
  | 9 => rfl
  | 10 => rfl
  | j + 11 => exact absurd hj (by omega)
theorem zq_X3 : yX3_init.cls ≠ "java/lang/invoke/MethodHandle" ∧ yX3_init.cls ≠ "java/lang/invoke/VarHandle" ∧ (parseMethodDescriptor yX3_init.desc).map (fun d => d.parameters.length) = some 0 := by decide +kernel
set_option maxRecDepth 100000 in
theorem zo_X4 : Cond.methodLink RX4 1 Lib.objectInit ∈ zw_good := zw_in (by decide +kernel) rfl
set_option maxRecDepth 100000 in
theorem zi_X4 : Cond.instantiable RX4 8 ∈ zw_good ∧ Cond.initialized RX4 ∈ zw_good := ⟨zw_in (by decide +kernel) rfl, zw_in (by decide +kernel) rfl⟩
theorem zd_X4 : ∀ j, j < 8 → defaultValue (tyX4 j) = vp_V (zdf 4) j := by
  intro j hj
  match j with
  | 0 => rfl
  | 1 => rfl
  | 2 => rfl
  | 3 => rfl
  | 4 => rfl
  | 5 => rfl
  | 6 => rfl
  | 7 => rfl
  | j + 8 => exact absurd hj (by omega)
theorem zq_X4 : yX4_init.cls ≠ "java/lang/invoke/MethodHandle" ∧ yX4_init.cls ≠ "java/lang/invoke/VarHandle" ∧ (parseMethodDescriptor yX4_init.desc).map (fun d => d.parameters.length) = some 0 := by decide +kernel
set_option maxRecDepth 100000 in
theorem zo_X5 : Cond.methodLink RX5 1 Lib.objectInit ∈ zw_good := zw_in (by decide +kernel) rfl
set_option maxRecDepth 100000 in
theorem zi_X5 : Cond.instantiable RX5 26 ∈ zw_good ∧ Cond.initialized RX5 ∈ zw_good := ⟨zw_in (by decide +kernel) rfl, zw_in (by decide +kernel) rfl⟩
theorem zd_X5 : ∀ j, j < 26 → defaultValue (tyX5 j) = vp_V (zdf 5) j := by
  intro j hj
  match j with
  | 0 => rfl
  | 1 => rfl
  | 2 => rfl
  | 3 => rfl
  | 4 => rfl
  | 5 => rfl
  | 6 => rfl
  | 7 => rfl
  | 8 => rfl
  | 9 => rfl
  | 10 => rfl
  | 11 => rfl
  | 12 => rfl
  | 13 => rfl
  | 14 => rfl
  | 15 => rfl
  | 16 => rfl
  | 17 => rfl
  | 18 => rfl
  | 19 => rfl
  | 20 => rfl
  | 21 => rfl
  | 22 => rfl
  | 23 => rfl
  | 24 => rfl
  | 25 => rfl
  | j + 26 => exact absurd hj (by omega)
theorem zq_X5 : yX5_init.cls ≠ "java/lang/invoke/MethodHandle" ∧ yX5_init.cls ≠ "java/lang/invoke/VarHandle" ∧ (parseMethodDescriptor yX5_init.desc).map (fun d => d.parameters.length) = some 0 := by decide +kernel
set_option maxRecDepth 100000 in
set_option maxHeartbeats 4000000 in
theorem kX0_init {l : Launch} {D : va_G} {Y : YT} {b0 : Nat} {G : GT} {Z : ZT} {c : Nat} {v : Nat → Nat} (hB : GB b0 (c + 1) v G) (hv : ∀ i, c ≤ i → v i = 0) (hSH : SH c [(0, 6), (7, 64), (7, 64)]) (hRF : RF c 2) (hZ : ∀ i, c < i → ∀ f, Z i f = 0) : CN l D Y b0 G yX0_init cX0_init 1 1 2 128 [.ref (G.2.1 c)] Z (fun G' Z' => Z' = Z ∧ GB b0 (c + 3) (va_up v c 2) G' ∧ ∀ i, i < c + 1 → G'.2.1 i = G.2.1 i) := by
  refine cn_start (lv0 := [(0, .ref (G.2.1 c))]) rfl rfl (Nat.le_of_ble_eq_true rfl) rfl ?_
  intro E C R hR hE hb hN
  subst hb
  have hs0 : sh0 c = 0 := (hSH 0 (by decide)).1
  obtain ⟨G0, hG0⟩ : ∃ g, g = G := ⟨_, rfl⟩
  rw [← hG0] at R
  obtain ⟨a, ha⟩ : ∃ a, G.2.1 c = a := ⟨_, rfl⟩
  rw [ha]
  have hA : ∀ i, i < c + 1 → G.2.1 i = G0.2.1 i := fun i _ => by rw [hG0]
  clear hG0
  refine j_aload_n C 0 dX0_init_0 rfl rfl ?_
  refine j_objInit C hR (by decide) zo_X0 dX0_init_1 ?_
  refine j_aload_n C 0 dX0_init_4 rfl rfl ?_
  refine j_bipush C (nI 64) dX0_init_5 (by decide) ?_
  refine j_newZ (n := 64) C hB hE.2.1 (hv _ (by omega)) (hSH 1 (by decide)).1 (hSH 1 (by decide)).2 (hZ _ (by omega)) (by decide) (by rw [hR]; show 0 + 1 ≤ 2; decide) (by rw [hR]; show 0 + 64 ≤ 128; decide) dX0_init_7 ?_
  intro G1 hB1 hA1
  have ha1 : G1.2.1 c = a := (hA1 _ (by omega)).trans ha
  refine j_putR (c := c) (f := 0) C hE.1 zK0 hB1 (by omega) ha1 hs0 (by decide) (by decide) rfl zk_X0_9 rfl rfl (fun _ => rfl) (fun _ => rfl) (Nat.le_of_eq (hv _ (Nat.le_refl _))) (hRF 0 (by decide)) (by omega) (fun g _ h2 => absurd h2 (Nat.not_lt_zero g)) dX0_init_9 ?_
  intro G2 hB2 hA2
  have ha2 : G2.2.1 c = a := (hA2 _).trans ha1
  have hA3 : ∀ i, i < c + 1 → G2.2.1 i = G0.2.1 i := fun i hi => (hA2 i).trans ((hA1 i (by omega)).trans (hA i hi))
  clear hA hA1 hA2 ha1 hB1 hB ha
  revert hB2 ha2 hA3
  generalize G2 = G
  intro hB ha hA
  refine j_aload_n C 0 dX0_init_12 rfl rfl ?_
  refine j_bipush C (nI 64) dX0_init_13 (by decide) ?_
  refine j_newZ (n := 64) C hB hE.2.1 (by rw [va_up_ne _ _ (by omega)]; exact hv _ (by omega)) (hSH 2 (by decide)).1 (hSH 2 (by decide)).2 (hZ _ (by omega)) (by decide) (by rw [hR]; show 1 + 1 ≤ 2; decide) (by rw [hR]; show 64 + 64 ≤ 128; decide) dX0_init_15 ?_
  intro G1 hB1 hA1
  have ha1 : G1.2.1 c = a := (hA1 _ (by omega)).trans ha
  refine j_putR (c := c) (f := 1) C hE.1 zK0 hB1 (by omega) ha1 hs0 (by decide) (by decide) rfl zk_X0_15 rfl rfl (fun _ => rfl) (fun _ => rfl) (Nat.le_trans (Nat.le_of_eq (va_up_self _ _ _)) (by decide)) (hRF 1 (by decide)) (by omega) (fun g h1 h2 => absurd h1 (by rw [va_up_self]; omega)) dX0_init_17 ?_
  intro G2 hB2 hA2
  have ha2 : G2.2.1 c = a := (hA2 _).trans ha1
  rw [va_up_up] at hB2
  have hA3 : ∀ i, i < c + 1 → G2.2.1 i = G0.2.1 i := fun i hi => (hA2 i).trans ((hA1 i (by omega)).trans (hA i hi))
  clear hA hA1 hA2 ha1 hB1 hB ha
  revert hB2 ha2 hA3
  generalize G2 = G
  intro hB ha hA
  exact j_nret C R dX0_init_20 ⟨rfl, hB, hA⟩
set_option maxRecDepth 100000 in
set_option maxHeartbeats 4000000 in
theorem kX1_init {l : Launch} {D : va_G} {Y : YT} {b0 : Nat} {G : GT} {Z : ZT} {c : Nat} {v : Nat → Nat} (hB : GB b0 (c + 1) v G) (hv : ∀ i, c ≤ i → v i = 0) (hSH : SH c [(1, 5), (7, 256), (6, 100), (6, 100)]) (hRF : RF c 3) (hZ : ∀ i, c < i → ∀ f, Z i f = 0) : CN l D Y b0 G yX1_init cX1_init 1 1 3 456 [.ref (G.2.1 c)] Z (fun G' Z' => Z' = Z ∧ GB b0 (c + 4) (va_up v c 3) G' ∧ ∀ i, i < c + 1 → G'.2.1 i = G.2.1 i) := by
  refine cn_start (lv0 := [(0, .ref (G.2.1 c))]) rfl rfl (Nat.le_of_ble_eq_true rfl) rfl ?_
  intro E C R hR hE hb hN
  subst hb
  have hs0 : sh0 c = 1 := (hSH 0 (by decide)).1
  obtain ⟨G0, hG0⟩ : ∃ g, g = G := ⟨_, rfl⟩
  rw [← hG0] at R
  obtain ⟨a, ha⟩ : ∃ a, G.2.1 c = a := ⟨_, rfl⟩
  rw [ha]
  have hA : ∀ i, i < c + 1 → G.2.1 i = G0.2.1 i := fun i _ => by rw [hG0]
  clear hG0
  refine j_aload_n C 0 dX1_init_0 rfl rfl ?_
  refine j_objInit C hR (by decide) zo_X1 dX1_init_1 ?_
  refine j_aload_n C 0 dX1_init_4 rfl rfl ?_
  refine j_sipush C (nI 256) dX1_init_5 (by decide) ?_
  refine j_newZ (n := 256) C hB hE.2.1 (hv _ (by omega)) (hSH 1 (by decide)).1 (hSH 1 (by decide)).2 (hZ _ (by omega)) (by decide) (by rw [hR]; show 0 + 1 ≤ 3; decide) (by rw [hR]; show 0 + 256 ≤ 456; decide) dX1_init_8 ?_
  intro G1 hB1 hA1
  have ha1 : G1.2.1 c = a := (hA1 _ (by omega)).trans ha
  refine j_putR (c := c) (f := 0) C hE.1 zK1 hB1 (by omega) ha1 hs0 (by decide) (by decide) rfl zk_X1_9 rfl rfl (fun _ => rfl) (fun _ => rfl) (Nat.le_of_eq (hv _ (Nat.le_refl _))) (hRF 0 (by decide)) (by omega) (fun g _ h2 => absurd h2 (Nat.not_lt_zero g)) dX1_init_10 ?_
  intro G2 hB2 hA2
  have ha2 : G2.2.1 c = a := (hA2 _).trans ha1
  have hA3 : ∀ i, i < c + 1 → G2.2.1 i = G0.2.1 i := fun i hi => (hA2 i).trans ((hA1 i (by omega)).trans (hA i hi))
  clear hA hA1 hA2 ha1 hB1 hB ha
  revert hB2 ha2 hA3
  generalize G2 = G
  intro hB ha hA
  refine j_aload_n C 0 dX1_init_13 rfl rfl ?_
  refine j_bipush C (nI 100) dX1_init_14 (by decide) ?_
  refine j_newI (n := 100) C hB hE.2.1 (by rw [va_up_ne _ _ (by omega)]; exact hv _ (by omega)) (hSH 2 (by decide)).1 (hSH 2 (by decide)).2 (hZ _ (by omega)) (by decide) (by rw [hR]; show 1 + 1 ≤ 3; decide) (by rw [hR]; show 256 + 100 ≤ 456; decide) dX1_init_16 ?_
  intro G1 hB1 hA1
  have ha1 : G1.2.1 c = a := (hA1 _ (by omega)).trans ha
  refine j_putR (c := c) (f := 1) C hE.1 zK1 hB1 (by omega) ha1 hs0 (by decide) (by decide) rfl zk_X1_15 rfl rfl (fun _ => rfl) (fun _ => rfl) (Nat.le_trans (Nat.le_of_eq (va_up_self _ _ _)) (by decide)) (hRF 1 (by decide)) (by omega) (fun g h1 h2 => absurd h1 (by rw [va_up_self]; omega)) dX1_init_18 ?_
  intro G2 hB2 hA2
  have ha2 : G2.2.1 c = a := (hA2 _).trans ha1
  rw [va_up_up] at hB2
  have hA3 : ∀ i, i < c + 1 → G2.2.1 i = G0.2.1 i := fun i hi => (hA2 i).trans ((hA1 i (by omega)).trans (hA i hi))
  clear hA hA1 hA2 ha1 hB1 hB ha
  revert hB2 ha2 hA3
  generalize G2 = G
  intro hB ha hA
  refine j_aload_n C 0 dX1_init_21 rfl rfl ?_
  refine j_bipush C (nI 100) dX1_init_22 (by decide) ?_
  refine j_newI (n := 100) C hB hE.2.1 (by rw [va_up_ne _ _ (by omega)]; exact hv _ (by omega)) (hSH 3 (by decide)).1 (hSH 3 (by decide)).2 (hZ _ (by omega)) (by decide) (by rw [hR]; show 2 + 1 ≤ 3; decide) (by rw [hR]; show 356 + 100 ≤ 456; decide) dX1_init_24 ?_
  intro G1 hB1 hA1
  have ha1 : G1.2.1 c = a := (hA1 _ (by omega)).trans ha
  refine j_putR (c := c) (f := 2) C hE.1 zK1 hB1 (by omega) ha1 hs0 (by decide) (by decide) rfl zk_X1_19 rfl rfl (fun _ => rfl) (fun _ => rfl) (Nat.le_trans (Nat.le_of_eq (va_up_self _ _ _)) (by decide)) (hRF 2 (by decide)) (by omega) (fun g h1 h2 => absurd h1 (by rw [va_up_self]; omega)) dX1_init_26 ?_
  intro G2 hB2 hA2
  have ha2 : G2.2.1 c = a := (hA2 _).trans ha1
  rw [va_up_up] at hB2
  have hA3 : ∀ i, i < c + 1 → G2.2.1 i = G0.2.1 i := fun i hi => (hA2 i).trans ((hA1 i (by omega)).trans (hA i hi))
  clear hA hA1 hA2 ha1 hB1 hB ha
  revert hB2 ha2 hA3
  generalize G2 = G
  intro hB ha hA
  exact j_nret C R dX1_init_29 ⟨rfl, hB, hA⟩
set_option maxRecDepth 100000 in
set_option maxHeartbeats 4000000 in
theorem kX3_init {l : Launch} {D : va_G} {Y : YT} {b0 : Nat} {G : GT} {Z : ZT} {c : Nat} {v : Nat → Nat} (hB : GB b0 (c + 1) v G) (hv : ∀ i, c ≤ i → v i = 0) (hSH : SH c [(3, 11), (6, 40), (6, 40), (7, 40)]) (hRF : RF c 3) (hZ : ∀ i, c < i → ∀ f, Z i f = 0) : CN l D Y b0 G yX3_init cX3_init 1 1 3 120 [.ref (G.2.1 c)] Z (fun G' Z' => Z' = Z ∧ GB b0 (c + 4) (va_up v c 3) G' ∧ ∀ i, i < c + 1 → G'.2.1 i = G.2.1 i) := by
  refine cn_start (lv0 := [(0, .ref (G.2.1 c))]) rfl rfl (Nat.le_of_ble_eq_true rfl) rfl ?_
  intro E C R hR hE hb hN
  subst hb
  have hs0 : sh0 c = 3 := (hSH 0 (by decide)).1
  obtain ⟨G0, hG0⟩ : ∃ g, g = G := ⟨_, rfl⟩
  rw [← hG0] at R
  obtain ⟨a, ha⟩ : ∃ a, G.2.1 c = a := ⟨_, rfl⟩
  rw [ha]
  have hA : ∀ i, i < c + 1 → G.2.1 i = G0.2.1 i := fun i _ => by rw [hG0]
  clear hG0
  refine j_aload_n C 0 dX3_init_0 rfl rfl ?_
  refine j_objInit C hR (by decide) zo_X3 dX3_init_1 ?_
  refine j_aload_n C 0 dX3_init_4 rfl rfl ?_
  refine j_bipush C (nI 40) dX3_init_5 (by decide) ?_
  refine j_newI (n := 40) C hB hE.2.1 (hv _ (by omega)) (hSH 1 (by decide)).1 (hSH 1 (by decide)).2 (hZ _ (by omega)) (by decide) (by rw [hR]; show 0 + 1 ≤ 3; decide) (by rw [hR]; show 0 + 40 ≤ 120; decide) dX3_init_7 ?_
  intro G1 hB1 hA1
  have ha1 : G1.2.1 c = a := (hA1 _ (by omega)).trans ha
  refine j_putR (c := c) (f := 0) C hE.1 zK3 hB1 (by omega) ha1 hs0 (by decide) (by decide) rfl zk_X3_9 rfl rfl (fun _ => rfl) (fun _ => rfl) (Nat.le_of_eq (hv _ (Nat.le_refl _))) (hRF 0 (by decide)) (by omega) (fun g _ h2 => absurd h2 (Nat.not_lt_zero g)) dX3_init_9 ?_
  intro G2 hB2 hA2
  have ha2 : G2.2.1 c = a := (hA2 _).trans ha1
  have hA3 : ∀ i, i < c + 1 → G2.2.1 i = G0.2.1 i := fun i hi => (hA2 i).trans ((hA1 i (by omega)).trans (hA i hi))
  clear hA hA1 hA2 ha1 hB1 hB ha
  revert hB2 ha2 hA3
  generalize G2 = G
  intro hB ha hA
  refine j_aload_n C 0 dX3_init_12 rfl rfl ?_
  refine j_bipush C (nI 40) dX3_init_13 (by decide) ?_
  refine j_newI (n := 40) C hB hE.2.1 (by rw [va_up_ne _ _ (by omega)]; exact hv _ (by omega)) (hSH 2 (by decide)).1 (hSH 2 (by decide)).2 (hZ _ (by omega)) (by decide) (by rw [hR]; show 1 + 1 ≤ 3; decide) (by rw [hR]; show 40 + 40 ≤ 120; decide) dX3_init_15 ?_
  intro G1 hB1 hA1
  have ha1 : G1.2.1 c = a := (hA1 _ (by omega)).trans ha
  refine j_putR (c := c) (f := 1) C hE.1 zK3 hB1 (by omega) ha1 hs0 (by decide) (by decide) rfl zk_X3_15 rfl rfl (fun _ => rfl) (fun _ => rfl) (Nat.le_trans (Nat.le_of_eq (va_up_self _ _ _)) (by decide)) (hRF 1 (by decide)) (by omega) (fun g h1 h2 => absurd h1 (by rw [va_up_self]; omega)) dX3_init_17 ?_
  intro G2 hB2 hA2
  have ha2 : G2.2.1 c = a := (hA2 _).trans ha1
  rw [va_up_up] at hB2
  have hA3 : ∀ i, i < c + 1 → G2.2.1 i = G0.2.1 i := fun i hi => (hA2 i).trans ((hA1 i (by omega)).trans (hA i hi))
  clear hA hA1 hA2 ha1 hB1 hB ha
  revert hB2 ha2 hA3
  generalize G2 = G
  intro hB ha hA
  refine j_aload_n C 0 dX3_init_20 rfl rfl ?_
  refine j_bipush C (nI 40) dX3_init_21 (by decide) ?_
  refine j_newZ (n := 40) C hB hE.2.1 (by rw [va_up_ne _ _ (by omega)]; exact hv _ (by omega)) (hSH 3 (by decide)).1 (hSH 3 (by decide)).2 (hZ _ (by omega)) (by decide) (by rw [hR]; show 2 + 1 ≤ 3; decide) (by rw [hR]; show 80 + 40 ≤ 120; decide) dX3_init_23 ?_
  intro G1 hB1 hA1
  have ha1 : G1.2.1 c = a := (hA1 _ (by omega)).trans ha
  refine j_putR (c := c) (f := 2) C hE.1 zK3 hB1 (by omega) ha1 hs0 (by decide) (by decide) rfl zk_X3_18 rfl rfl (fun _ => rfl) (fun _ => rfl) (Nat.le_trans (Nat.le_of_eq (va_up_self _ _ _)) (by decide)) (hRF 2 (by decide)) (by omega) (fun g h1 h2 => absurd h1 (by rw [va_up_self]; omega)) dX3_init_25 ?_
  intro G2 hB2 hA2
  have ha2 : G2.2.1 c = a := (hA2 _).trans ha1
  rw [va_up_up] at hB2
  have hA3 : ∀ i, i < c + 1 → G2.2.1 i = G0.2.1 i := fun i hi => (hA2 i).trans ((hA1 i (by omega)).trans (hA i hi))
  clear hA hA1 hA2 ha1 hB1 hB ha
  revert hB2 ha2 hA3
  generalize G2 = G
  intro hB ha hA
  exact j_nret C R dX3_init_28 ⟨rfl, hB, hA⟩
