/-! THE LAW'S OWN number AND rate: they catch. -/
def PwL (D : va_G) (Y : YT) (b0 : Nat) (G : GT) (Z : ZT) (U : State) : Prop := PwX D Y b0 G Z U ∧ va_Nc Bundle.nN zxA U
theorem PwL.blind {D : va_G} {Y : YT} {b0 : Nat} {G : GT} {Z : ZT} {As : List Value} : FrameBlind (va_Pc As (PwL D Y b0 G Z)) := fun a U g mk q => ⟨q.1, (PwX.blind (As := As) a U g mk ⟨q.1, q.2.1⟩).2, va_Nc.moved (u := U) (U := U.calling g mk a) (Vm.Alike.refl U.vm) q.2.2⟩
def CL (l : Launch) (D : va_G) (Y : YT) (b0 : Nat) (G : GT) (y : MethodName) (bytes : ByteArray) (maxL : Nat) (hh : List (Nat × Nat × Nat × Nat)) (lev : Nat) (As : List Value) (Z : ZT) (post : Int32 → ZT → Prop) : Prop :=
  Met l y (Cond.codeWith y bytes maxL (some .int) hh :: zw_good) (rmX lev) (va_Pc As (PwL D Y b0 G Z)) (va_Qi post (fun Z' t => va_P D zcl (zc G Y Z') t.heap) (fun q => b0 ≤ q)) 1 8 (fun q => b0 ≤ q)
def CrL (E : ET) (G : GT) (hh : List (Nat × Nat × Nat × Nat)) (post : Int32 → ZT → Prop) : Prop :=
  (eMe E).sig.returnType = some .int ∧ (eMe E).locks = false ∧ eQ E = MQ (eB E) (va_Qi post (fun Z' t => va_P (eD E) zcl (zc G (eY E) Z') t.heap) (fun q => e0 E ≤ q)) (eA E) (eS E) 1 8 (fun q => e0 E ≤ q) ∧ (eC E).exceptionTable.toList = tableOf hh ∧ zXt (e0 E) (eS E) ∧ va_Nc Bundle.nN zxA (eS E)
theorem cl_start {l : Launch} {D : va_G} {Y : YT} {b0 : Nat} {G : GT} {y : MethodName} {bytes : ByteArray} {maxL lev : Nat} {hh : List (Nat × Nat × Nat × Nat)} {As : List Value} {Z : ZT} {post : Int32 → ZT → Prop} (hD : GD b0 G) (hy : plainName y.cls = true) (hn : (lg_sl As).length ≤ maxL) {lv0 : List (Nat × Value)} (hl : lv_args 0 As = lv0)
    (body : ∀ E : ET, Cb E y.cls bytes → CrL E G hh post → eR E = rmX lev → GD (e0 E) G → eN E = maxL → eL E = l → J E 0 0 G 0 lv0 [] Z) : CL l D Y b0 G y bytes maxL hh lev As Z post := by
  refine va_MetW (cc := bytes) (maxL := maxL) (ret := some .int) (hh := hh) hy rfl ?_
  intro p e s m args below meth c s₁ B hml hv
  obtain ⟨rfl, ⟨⟨hP, hK, hN⟩, hXt⟩, hNc⟩ := hv
  have hts := atoms_spec (ws := Cond.codeWith y bytes maxL (some .int) hh :: zw_good) B.pre
  have hlh := lv_entry As (n := maxL) hn
  rw [lg_entry_eq]
  rw [hl] at hlh
  exact body ((p, l, e, rmX lev, s, m, As.toArray, below, meth, c), D, Y, b0, maxL, MQ below (va_Qi post (fun Z' t => va_P D zcl (zc G Y Z') t.heap) (fun q => b0 ≤ q)) As.toArray s 1 8 (fun q => b0 ≤ q))
    ⟨B.exec, B.bytes, hml, findClass_of_methodNamed B.named, fun w hw => hts w (List.mem_cons_of_mem _ hw), hN, hK⟩ ⟨B.returns, B.notSynchronized, rfl, vx_table (x := y) B (hts _ List.mem_cons_self), hXt, hNc⟩ rfl hD rfl rfl s.heap [] _ hP va_S.rf hlh
theorem j_lret {E : ET} {own : String} {cc : ByteArray} {G : GT} {hh : List (Nat × Nat × Nat × Nat)} {pc : Nat} {lv : List (Nat × Value)} {Z : ZT} {post : Int32 → ZT → Prop} (C : Cb E own cc) (R : CrL E G hh post) {v : Int32} (hd : decode cc pc = .ok (.ireturn, 1)) (h9 : post v Z) : J E 1 8 G pc lv [.int v] Z := fun H locs ls hP hS h => by
  rw [R.2.2.1]
  exact W.iret C.hx C.hb R.1 (fun t ht hW => ⟨⟨v, Z, rfl, h9, by show va_P _ _ _ t.heap; rw [ht]; exact hP⟩, hS.F ht⟩) hS.2.2 hd R.2.1
set_option maxRecDepth 100000 in
theorem zw_LA : Cond.classLink RL 13 zxA ∈ zw_good := zw_in (by decide +kernel) (by decide +kernel)
set_option maxRecDepth 100000 in
theorem zw_LN : Cond.classLink RL 15 Bundle.nN ∈ zw_good := zw_in (by decide +kernel) (by decide +kernel)
set_option maxRecDepth 100000 in
theorem zw_cA : Cond.castable zxA zxA ∈ zw_face := List.mem_filter.mpr ⟨by decide +kernel, by decide +kernel⟩
set_option maxRecDepth 100000 in
theorem zw_cN : Cond.castable Bundle.nN Bundle.nN ∈ zw_face := List.mem_filter.mpr ⟨by decide +kernel, by decide +kernel⟩
abbrev hhN : List (Nat × Nat × Nat × Nat) := [(0, 10, 13, 13), (0, 10, 17, 15)]
abbrev hhR : List (Nat × Nat × Nat × Nat) := [(0, 9, 12, 15)]
/-- the call's answer is laid, or the exception's number comes back -/
theorem kL_number {l : Launch} (hl0 : l.stackTraces = false) {D : va_G} {Y : YT} {b0 : Nat} {G : GT} (hD : GD b0 G) (hG : Gok 133 G) {Z : ZT} (p0 p1 : Int32) {post : Int32 → ZT → Prop} {px : String → Prop}
    (hM : ∀ (D1 : va_G) (Y1 : YT) (b1 : Nat), GD b1 G → CX l D1 Y1 b1 G yX4_number cX4_number 3 7 [.ref (G.2.1 0), .int p0, .int p1] Z post px) (hpx : ∀ nm, px nm → nm = zxA ∨ nm = Bundle.nN) :
    CL l D Y b0 G yL_number cL_number 5 hhN 8 [.ref (G.2.1 0), .int p0, .int p1, .ref (G.2.1 132)] Z (fun r Z' => (∃ v Z1, post v Z1 ∧ r = nI 0 ∧ Z' = zu Z1 132 0 v) ∨ (px zxA ∧ r = nI 1 ∧ Z' = Z) ∨ (px Bundle.nN ∧ r = nI 2 ∧ Z' = Z)) := by
  refine cl_start (lv0 := [(0, .ref (G.2.1 0)), (1, .int p0), (2, .int p1), (3, .ref (G.2.1 132))]) hD rfl (Nat.le_of_ble_eq_true rfl) rfl ?_
  intro E C R hR hD hN hL
  refine j_aload_n C 3 dL_number_0 rfl rfl ?_
  refine j_iconst C (nI 0) dL_number_1 (by decide) ?_
  refine j_aload_n C 0 dL_number_2 rfl rfl ?_
  refine j_iload_n C 1 dL_number_3 rfl rfl ?_
  refine j_iload_n C 2 dL_number_4 rfl rfl ?_
  refine j_callX (lev := 8) (lev' := 7) (post := post) (px := px) (As := [.int p0, .int p1]) C (by rw [rOK, hR]; exact ⟨Nat.le_refl _, Nat.le_refl _, Nat.le_refl _, Nat.le_refl _⟩) R.2.2.2.2.1 (by rw [hL]; exact hM (eD E) (eY E) (e0 E) hD) [.int (nI 0), .ref (G.2.1 132)] zmX4_number zk_L_7 zK4 (zb_X (hG.mono (by decide))) (zs_X (hG.mono (by decide))) (by decide) rfl rfl (Nat.le_of_ble_eq_true rfl) dL_number_5 ?_ ?_
  · intro nm cx q9 H1 locs1 ls hp hP hS h h1 h2 h3
    rcases hpx nm hp with rfl | rfl
    · refine vx_catch (own := RL) (name := zxA) C.ho [] ⟨0, 10, 13, 13⟩ [⟨0, 10, 17, 15⟩] (by rw [R.2.2.2.1]; rfl) (fun z hz => nomatch hz) rfl (by decide) (C.hts _ zw_LA) (zw_faceAt (State.WarmedH.refl _) zw_cA (R.2.2.2.2.1.1 _ zw_cA)) h1 h2 h3 ?_
      have K : J E 1 8 G 13 [(0, .ref (G.2.1 0)), (1, .int p0), (2, .int p1), (3, .ref (G.2.1 132))] [.ref q9] Z := by
        refine j_astore (lv' := [(4, .ref q9), (0, .ref (G.2.1 0)), (1, .int p0), (2, .int p1), (3, .ref (G.2.1 132))]) C dL_number_13 (by rw [hN]; decide) rfl ?_
        refine j_iconst C (nI 1) dL_number_15 (by decide) ?_
        exact j_lret C R dL_number_16 (Or.inr (Or.inl ⟨hp, rfl, rfl⟩))
      exact K H1 locs1 ls hP hS h
    · refine vx_catch (own := RL) (name := Bundle.nN) C.ho [⟨0, 10, 13, 13⟩] ⟨0, 10, 17, 15⟩ [] (by rw [R.2.2.2.1]; rfl) (fun z hz => Or.inr ?_) rfl (by decide) (C.hts _ zw_LN) (zw_faceAt (State.WarmedH.refl _) zw_cN (R.2.2.2.2.1.1 _ zw_cN)) h1 h2 h3 ?_
      · rcases List.mem_singleton.mp hz with rfl
        exact ⟨by decide, zxA, C.hts _ zw_LA, R.2.2.2.2.2⟩
      have K : J E 1 8 G 17 [(0, .ref (G.2.1 0)), (1, .int p0), (2, .int p1), (3, .ref (G.2.1 132))] [.ref q9] Z := by
        refine j_astore (lv' := [(4, .ref q9), (0, .ref (G.2.1 0)), (1, .int p0), (2, .int p1), (3, .ref (G.2.1 132))]) C dL_number_17 (by rw [hN]; decide) rfl ?_
        refine j_iconst C (nI 2) dL_number_19 (by decide) ?_
        exact j_lret C R dL_number_20 (Or.inr (Or.inr ⟨hp, rfl, rfl⟩))
      exact K H1 locs1 ls hP hS h
  · intro v Z1 h9
    refine j_i2l C dL_number_8 ?_
    refine j_last C hD (zb_Out hG) (zs_Out hG) (zl_Out hG) rfl (by decide) (by decide) dL_number_9 ?_
    refine j_goto (tgt := 21) C dL_number_10 (by decide) ?_
    refine j_iconst C (nI 0) dL_number_21 (by decide) ?_
    exact j_lret C R dL_number_22 (Or.inl ⟨v, Z1, h9, rfl, rfl⟩)
theorem kL_rate {l : Launch} (hl0 : l.stackTraces = false) {D : va_G} {Y : YT} {b0 : Nat} {G : GT} (hD : GD b0 G) (hG : Gok 133 G) {Z : ZT} (p0 : Int32) {post : Int32 → ZT → Prop} {px : String → Prop}
    (hM : ∀ (D1 : va_G) (Y1 : YT) (b1 : Nat), GD b1 G → CX l D1 Y1 b1 G yX4_rate cX4_rate 5 7 [.ref (G.2.1 0), .int p0] Z post px) (hpx : ∀ nm, px nm → nm = Bundle.nN) :
    CL l D Y b0 G yL_rate cL_rate 4 hhR 8 [.ref (G.2.1 0), .int p0, .ref (G.2.1 132)] Z (fun r Z' => (∃ v Z1, post v Z1 ∧ r = nI 0 ∧ Z' = zu Z1 132 0 v) ∨ (px Bundle.nN ∧ r = nI 1 ∧ Z' = Z)) := by
  refine cl_start (lv0 := [(0, .ref (G.2.1 0)), (1, .int p0), (2, .ref (G.2.1 132))]) hD rfl (Nat.le_of_ble_eq_true rfl) rfl ?_
  intro E C R hR hD hN hL
  refine j_aload_n C 2 dL_rate_0 rfl rfl ?_
  refine j_iconst C (nI 0) dL_rate_1 (by decide) ?_
  refine j_aload_n C 0 dL_rate_2 rfl rfl ?_
  refine j_iload_n C 1 dL_rate_3 rfl rfl ?_
  refine j_callX (lev := 8) (lev' := 7) (post := post) (px := px) (As := [.int p0]) C (by rw [rOK, hR]; exact ⟨Nat.le_refl _, Nat.le_refl _, Nat.le_refl _, Nat.le_refl _⟩) R.2.2.2.2.1 (by rw [hL]; exact hM (eD E) (eY E) (e0 E) hD) [.int (nI 0), .ref (G.2.1 132)] zmX4_rate zk_L_17 zK4 (zb_X (hG.mono (by decide))) (zs_X (hG.mono (by decide))) (by decide) rfl rfl (Nat.le_of_ble_eq_true rfl) dL_rate_4 ?_ ?_
  · intro nm cx q9 H1 locs1 ls hp hP hS h h1 h2 h3
    have e9 := hpx nm hp
    subst e9
    refine vx_catch (own := RL) (name := Bundle.nN) C.ho [] ⟨0, 9, 12, 15⟩ [] (by rw [R.2.2.2.1]; rfl) (fun z hz => nomatch hz) rfl (by decide) (C.hts _ zw_LN) (zw_faceAt (State.WarmedH.refl _) zw_cN (R.2.2.2.2.1.1 _ zw_cN)) h1 h2 h3 ?_
    have K : J E 1 8 G 12 [(0, .ref (G.2.1 0)), (1, .int p0), (2, .ref (G.2.1 132))] [.ref q9] Z := by
      refine j_astore_n (lv' := [(3, .ref q9), (0, .ref (G.2.1 0)), (1, .int p0), (2, .ref (G.2.1 132))]) C dL_rate_12 rfl (by rw [hN]; decide) rfl ?_
      refine j_iconst C (nI 1) dL_rate_13 (by decide) ?_
      exact j_lret C R dL_rate_14 (Or.inr ⟨hp, rfl, rfl⟩)
    exact K H1 locs1 ls hP hS h
  · intro v Z1 h9
    refine j_i2l C dL_rate_7 ?_
    refine j_last C hD (zb_Out hG) (zs_Out hG) (zl_Out hG) rfl (by decide) (by decide) dL_rate_8 ?_
    refine j_goto (tgt := 15) C dL_rate_9 (by decide) ?_
    refine j_iconst C (nI 0) dL_rate_15 (by decide) ?_
    exact j_lret C R dL_rate_16 (Or.inl ⟨v, Z1, h9, rfl, rfl⟩)
