/-! THE CLAIM OUT OF ONE WALK OF THE LAW'S BODY. Your part is whole_start (and what it stands on); all else here is the same for every law, but numbers. -/
def R_law : String := "SourcePositionsLaw"
def lw_P (b : Addr) (xs : List Int32) (args : Array Value) (s : State) : Prop := args = #[.ref b] ∧ s.IntsAt b xs ∧ xs.length ≤ 2560 ∧ (Jvm.Cond.and given_1 narrow_1).before args s = true
def lw_Q (_ : Array Value) (s : State) (o : Outcome) (t : State) : Prop := o = .returned (some (.int 1)) ∧ Framed s o t [] 603072 7182441
def lw_Z (below : List Frame) (a : Array Value) (s : State) : State → Prop := fun t => ∃ o, t.status = .running ∧ Ended t below o ∧ lw_Q a s o t
/-- the law's own end, with 1 on the stack, nothing written that was there before, its room as the claim has it -/
theorem lw_ret {p : Program} {l : Launch} {e : Env} {s : State} {m : MethodId} {below : List Frame} {meth : Method} {c : Code} {b : Nat} (hx : p.tables.exec = Jvm.exec) (hb : c.code = code) (hr : meth.sig.returnType = ret) (hlocks : meth.locks = false) {pc : Nat} {H : Heap} {ls : Array Slot} (hdg : decode code pc = .ok (.ireturn, 1)) : W p l e room_1 s m #[Value.ref b] below meth c H [] 603072 7182441 (lw_Z below #[Value.ref b] s) (F0 m pc ls [.int 1]) := by
  intro T hT X
  obtain ⟨fs, hret, hrun, hended, hW, hframe⟩ := X.leave (v := some (.int 1)) (hlocks := hlocks) (fun h => by rw [hr] at h; cases h)
  have hmeth' : T.vm.method? m = some meth := X.method'
  refine ⟨T.setFrames fs, ?_, .returned (some (.int 1)), hrun, hended, rfl, ⟨_, rfl⟩, hW, hframe⟩
  jvm_step X.here [X.here.top, hx, hb, hdg, hmeth', hr, ret, narrow_b1]
  (try refine ⟨rfl, ?_⟩); (try refine ⟨rfl, ?_⟩)
  first | (intro acts; rw [hret _ acts rfl rfl rfl]) | rw [hret _ _ rfl rfl rfl]
  exact Steps.refl _
/-- what holds at the law's entry: the machine, the code, the tables' words (any of lw_tbl by 'hts w (by decide +kernel)'), the script of L ints xs at the cell b, what the Statement gives of the start (any of its parts by flat_of_before) -/
def lw_At (p : Program) (s : State) (m : MethodId) (meth : Method) (c : Code) (b L : Nat) (xs : Nat → Int32) : Prop :=
  p.tables.exec = Jvm.exec ∧ c.code = code ∧ meth.sig.returnType = ret ∧ c.maxLocals = 7 ∧ s.vm.findClass R_law = some m.cls ∧ (∀ w ∈ lw_tbl, w.before #[Value.ref b] s = true) ∧ va_X b L xs s s.heap ∧ b < s.heap.size ∧ meth.locks = false ∧ (Jvm.Cond.and given_1 narrow_1).before #[Value.ref b] s = true
/-! ROWS OF THE LAW'S OWN BODY -/
/-- what holds of the law as it runs -/
def LE (E : ET) (b L : Nat) (xs : Nat → Int32) : Prop := Cb E RL code ∧ eR E = room_1 ∧ (eA E = #[Value.ref b] ∧ eQ E = lw_Z (eB E) #[Value.ref b] (eS E) ∧ e0 E = (eS E).heap.size ∧ eN E = 7) ∧ (va_X b L xs (eS E) (eS E).heap ∧ b < (eS E).heap.size ∧ L ≤ 2560) ∧ ((eMe E).sig.returnType = ret ∧ (eMe E).locks = false) ∧ (zXt (e0 E) (eS E) ∧ va_Nc Bundle.nN zxA (eS E)) ∧ (eL E).stackTraces = false ∧ va_AO RX3 (eS E) ∧ va_AO RX2 (eS E)
section LR
variable {E : ET} {b L : Nat} {xs : Nat → Int32} {ce sl : Nat} {G : GT} {pc : Nat} {lv : List (Nat × Value)} {st : List Value} {Z : ZT}
theorem LE.nb (h : LE E b L xs) : ¬ e0 E ≤ b := by
  rw [h.2.2.1.2.2.1]
  exact Nat.not_le.mpr h.2.2.2.1.2.1
theorem j_sld (h9 : LE E b L xs) {j : Nat} (hj : j < L) (hd : decode code pc = .ok (.iaload, 1)) (kk : J E ce sl G (pc + 1) lv (.int (xs j) :: st) Z) : J E ce sl G pc lv (.int (nI j) :: .ref b :: st) Z := fun H locs ls hP hS h => by
  have hL := h9.2.2.2.1.2.2
  refine va_sld h9.1.hx h9.1.hb h9.2.2.2.1.1 h9.2.2.2.1.2.1 h9.nb hS (vp_in_nI hj (by omega)) hd ?_
  rw [nI_clamp (by omega)]
  exact kk H locs ls hP hS h
theorem j_slen (h9 : LE E b L xs) (hd : decode code pc = .ok (.arraylength, 1)) (kk : J E ce sl G (pc + 1) lv (.int (nI L) :: st) Z) : J E ce sl G pc lv (.ref b :: st) Z := fun H locs ls hP hS h =>
  va_slen h9.1.hx h9.1.hb h9.2.2.2.1.1 h9.2.2.2.1.2.1 h9.nb hS hd (kk H locs ls hP hS h)
theorem j_end (h9 : LE E b L xs) (hce : ce ≤ 603072) (hsl : sl ≤ 7182441) (hd : decode code pc = .ok (.ireturn, 1)) : J E ce sl G pc lv [.int 1] Z := fun H locs ls hP hS h => by
  rw [h9.2.2.1.2.1, h9.2.2.1.1, h9.2.1]
  refine va_forget (fun q hq => ?_) (W.widen hce hsl (lw_ret h9.1.hx h9.1.hb h9.2.2.2.2.1.1 h9.2.2.2.2.1.2 hd))
  have h1 := hS.2.2 q hq
  rw [h9.2.2.1.2.2.1] at h1
  exact h1
theorem LE.ok (h : LE E b L xs) (hce : ce ≤ 603072) (hsl : sl ≤ 7182441) : rOK E 20 ce sl := by
  unfold rOK
  rw [h.2.1]
  exact ⟨Nat.le_refl _, by decide, hce, hsl⟩
theorem j_callSL {own : String} {cc : ByteArray} {post : Int32 → ZT → Prop} {lev maxL n index : Nat} {y : MethodName} {bytes : ByteArray} {hh : List (Nat × Nat × Nat × Nat)} {As : List Value} (C : Cb E own cc) (hR : rOK E lev (ce + 1) (sl + 8)) (hXt : zXt (e0 E) (eS E)) (hNc : va_Nc Bundle.nN zxA (eS E)) (hM : CL (eL E) (eD E) (eY E) (e0 E) G y bytes maxL hh 8 As Z post) (rest : List Value)
    (hcw : Cond.codeWith y bytes maxL (some .int) hh ∈ zw_good) (hstat : Cond.static y ∈ zw_good) (hini : Cond.initialized y.cls ∈ zw_good) (hlink : Cond.methodLink own index y ∈ zw_good) (hzd : y.cls ≠ "java/lang/invoke/MethodHandle" ∧ y.cls ≠ "java/lang/invoke/VarHandle" ∧ (parseMethodDescriptor y.desc).map (fun d => d.parameters.length) = some n) (hml : maxL ≤ 21) (hlev : 9 ≤ lev)
    (hn : As.length = n) (hst : st = As.reverse ++ rest) (hw : (rest.map fun v => v.category).sum ≤ 8) (hd : decode cc pc = .ok (.invokestatic index, 3)) (kk : ∀ r Z', post r Z' → J E (ce + 1) (sl + 8) G (pc + 3) lv (.int r :: rest) Z') : J E ce sl G pc lv st Z := fun H locs ls hP hS h =>
  va_calli (vx_runSW (As := As) (rest := rest) (Ts := zw_good) ⟨C.hx, C.hb, C.hml, C.ho, C.hts⟩ hM (vx_cwSW n C.hts (zw_gi (fun w hw => by
      rcases List.mem_append.mp hw with q | q
      · rcases List.mem_cons.mp q with q | q
        · rw [q]; exact hlink
        · rcases List.mem_cons.mp q with q | q
          · rw [q]; exact hstat
          · rcases List.mem_cons.mp q with q | q
            · rw [q]; exact hini
            · cases q
      · rcases List.mem_cons.mp q with q | q
        · rw [q]; exact hcw
        · exact q)) rfl rfl rfl hzd ⟨Nat.le_trans hlev hR.1, by have := hR.2.1; show 8 + (maxL + 11) + 40 * 8 ≤ _; omega⟩) ⟨PwL.blind, fun U hU hW => ⟨rfl, ⟨(zpre (locs := locs) C hP (As := As) U hU hW).2, zXt.go hW (fun a h1 h2 => hS.2.1 a h1 h2) hU hXt⟩, va_Nc.moved hW.alike hNc⟩⟩ rfl hn h.1 hst (lv_room hw) hd ⟨hR.2.2.1, hR.2.2.2⟩) hS (fun q _ h => h) (fun q h => h)
    (fun r u t H1 locs1 ht _ hw hB _ _ hS1 => kk r u hw H1 locs1 ls (by rw [← ht]; exact hB) hS1 h)
end LR
set_option maxRecDepth 100000 in
theorem zl_num : Cond.codeWith yL_number cL_number 5 (some .int) hhN ∈ zw_good ∧ Cond.static yL_number ∈ zw_good ∧ Cond.initialized yL_number.cls ∈ zw_good := ⟨zw_in (by decide +kernel) (by decide +kernel), zw_in (by decide +kernel) (by decide +kernel), zw_in (by decide +kernel) (by decide +kernel)⟩
set_option maxRecDepth 100000 in
theorem zl_rat : Cond.codeWith yL_rate cL_rate 4 (some .int) hhR ∈ zw_good ∧ Cond.static yL_rate ∈ zw_good ∧ Cond.initialized yL_rate.cls ∈ zw_good := ⟨zw_in (by decide +kernel) (by decide +kernel), zw_in (by decide +kernel) (by decide +kernel), zw_in (by decide +kernel) (by decide +kernel)⟩
theorem zl_numd : yL_number.cls ≠ "java/lang/invoke/MethodHandle" ∧ yL_number.cls ≠ "java/lang/invoke/VarHandle" ∧ (parseMethodDescriptor yL_number.desc).map (fun d => d.parameters.length) = some 4 := by decide +kernel
theorem zl_ratd : yL_rate.cls ≠ "java/lang/invoke/MethodHandle" ∧ yL_rate.cls ≠ "java/lang/invoke/VarHandle" ∧ (parseMethodDescriptor yL_rate.desc).map (fun d => d.parameters.length) = some 3 := by decide +kernel
theorem lg_self (x : Int64) : lg_cmp x x = 0 := by
  unfold lg_cmp
  rw [if_neg (by simp), if_pos rfl]
theorem zt20 (x : Int32) : x = nI 0 ∨ x = nI 1 ∨ x = nI 2 ∨ x = nI 3 ∨ x = nI 4 ∨ x = nI 5 ∨ x = nI 6 ∨ x = nI 7 ∨ x = nI 8 ∨ x = nI 9 ∨ x = nI 10 ∨ x = nI 11 ∨ x = nI 12 ∨ x = nI 13 ∨ x = nI 14 ∨ x = nI 15 ∨ x = nI 16 ∨ x = nI 17 ∨ x = nI 18 ∨ x = nI 19 ∨ (x.toInt < 0 ∨ 19 < x.toInt) := by
  by_cases h : x.toInt < 0 ∨ 19 < x.toInt
  · exact Or.inr (Or.inr (Or.inr (Or.inr (Or.inr (Or.inr (Or.inr (Or.inr (Or.inr (Or.inr (Or.inr (Or.inr (Or.inr (Or.inr (Or.inr (Or.inr (Or.inr (Or.inr (Or.inr (Or.inr (h))))))))))))))))))))
  · obtain ⟨j, hj, e⟩ := zi_nat (x := x) (n := 20) (by omega) (by omega)
    subst e
    match j, hj with
    | 0, _ => exact Or.inl rfl
    | 1, _ => exact Or.inr (Or.inl rfl)
    | 2, _ => exact Or.inr (Or.inr (Or.inl rfl))
    | 3, _ => exact Or.inr (Or.inr (Or.inr (Or.inl rfl)))
    | 4, _ => exact Or.inr (Or.inr (Or.inr (Or.inr (Or.inl rfl))))
    | 5, _ => exact Or.inr (Or.inr (Or.inr (Or.inr (Or.inr (Or.inl rfl)))))
    | 6, _ => exact Or.inr (Or.inr (Or.inr (Or.inr (Or.inr (Or.inr (Or.inl rfl))))))
    | 7, _ => exact Or.inr (Or.inr (Or.inr (Or.inr (Or.inr (Or.inr (Or.inr (Or.inl rfl)))))))
    | 8, _ => exact Or.inr (Or.inr (Or.inr (Or.inr (Or.inr (Or.inr (Or.inr (Or.inr (Or.inl rfl))))))))
    | 9, _ => exact Or.inr (Or.inr (Or.inr (Or.inr (Or.inr (Or.inr (Or.inr (Or.inr (Or.inr (Or.inl rfl)))))))))
    | 10, _ => exact Or.inr (Or.inr (Or.inr (Or.inr (Or.inr (Or.inr (Or.inr (Or.inr (Or.inr (Or.inr (Or.inl rfl))))))))))
    | 11, _ => exact Or.inr (Or.inr (Or.inr (Or.inr (Or.inr (Or.inr (Or.inr (Or.inr (Or.inr (Or.inr (Or.inr (Or.inl rfl)))))))))))
    | 12, _ => exact Or.inr (Or.inr (Or.inr (Or.inr (Or.inr (Or.inr (Or.inr (Or.inr (Or.inr (Or.inr (Or.inr (Or.inr (Or.inl rfl))))))))))))
    | 13, _ => exact Or.inr (Or.inr (Or.inr (Or.inr (Or.inr (Or.inr (Or.inr (Or.inr (Or.inr (Or.inr (Or.inr (Or.inr (Or.inr (Or.inl rfl)))))))))))))
    | 14, _ => exact Or.inr (Or.inr (Or.inr (Or.inr (Or.inr (Or.inr (Or.inr (Or.inr (Or.inr (Or.inr (Or.inr (Or.inr (Or.inr (Or.inr (Or.inl rfl))))))))))))))
    | 15, _ => exact Or.inr (Or.inr (Or.inr (Or.inr (Or.inr (Or.inr (Or.inr (Or.inr (Or.inr (Or.inr (Or.inr (Or.inr (Or.inr (Or.inr (Or.inr (Or.inl rfl)))))))))))))))
    | 16, _ => exact Or.inr (Or.inr (Or.inr (Or.inr (Or.inr (Or.inr (Or.inr (Or.inr (Or.inr (Or.inr (Or.inr (Or.inr (Or.inr (Or.inr (Or.inr (Or.inr (Or.inl rfl))))))))))))))))
    | 17, _ => exact Or.inr (Or.inr (Or.inr (Or.inr (Or.inr (Or.inr (Or.inr (Or.inr (Or.inr (Or.inr (Or.inr (Or.inr (Or.inr (Or.inr (Or.inr (Or.inr (Or.inr (Or.inl rfl)))))))))))))))))
    | 18, _ => exact Or.inr (Or.inr (Or.inr (Or.inr (Or.inr (Or.inr (Or.inr (Or.inr (Or.inr (Or.inr (Or.inr (Or.inr (Or.inr (Or.inr (Or.inr (Or.inr (Or.inr (Or.inr (Or.inl rfl))))))))))))))))))
    | 19, _ => exact Or.inr (Or.inr (Or.inr (Or.inr (Or.inr (Or.inr (Or.inr (Or.inr (Or.inr (Or.inr (Or.inr (Or.inr (Or.inr (Or.inr (Or.inr (Or.inr (Or.inr (Or.inr (Or.inr (Or.inl rfl)))))))))))))))))))
    | j + 20, hj => omega
set_option maxRecDepth 100000 in
set_option maxHeartbeats 8000000 in
theorem law_loop {E : ET} {b L : Nat} {xs : Nat → Int32} {G : GT} (hE : LE E b L xs) (hD : GD (e0 E) G) (hG : Gok 133 G) : ∀ (n d : Nat) (Z : ZT), 514 ≤ d + n → 5 * d ≤ L → Inv d Z → J E (133 + d) (10476 + 8 * d) G 23 [(4, .int (nI (5 * d))), (3, .ref (G.2.1 132)), (2, .ref (G.2.1 113)), (1, .ref (G.2.1 0)), (0, .ref b)] [] Z := by
  have C := hE.1
  have hN := hE.2.2.1.2.2.2
  have hL := hE.2.2.2.1.2.2
  have hG1 : Gok 113 G := hG.mono (by decide)
  have hG2 : Gok 132 G := hG.mono (by decide)
  intro n
  induction n with
  | zero => intro d Z hn hd _; exact absurd hn (by omega)
  | succ n ih =>
    intro d Z hn hd hI
    refine j_iload C 0 dL_law_23 rfl ?_
    refine j_aload_n C 4 dL_law_25 rfl rfl ?_
    refine j_slen hE dL_law_26 ?_
    refine j_iconst C (nI 5) dL_law_27 (by decide) ?_
    refine j_isub C (nI L - nI 5) dL_law_28 rfl ?_
    refine j_icmp_gt (tgt := 804) (a := ((5 * d : Nat) : Int)) (b := ((L : Nat) : Int) - ((5 : Nat) : Int)) C (nI_toInt (by omega)) (pk_sub_toInt (by omega) (by omega)) dL_law_29 (by decide) (fun _ => ?_) (fun cg => ?_)
    · refine j_iconst C 1 dL_law_804 (by decide) ?_
      exact j_end hE (by omega) (by omega) dL_law_805
    have hback : ∀ (ce sl : Nat), ce ≤ 133 + (d + 1) → sl ≤ 10476 + 8 * (d + 1) → ∀ Z2, Inv (d + 1) Z2 → J E ce sl G 798 [(4, .int (nI (5 * d))), (3, .ref (G.2.1 132)), (2, .ref (G.2.1 113)), (1, .ref (G.2.1 0)), (0, .ref b)] [] Z2 := by
      intro ce sl h1 h2 Z2 hI2
      refine j_iinc (v := nI (5 * (d + 1))) (lv' := [(4, .int (nI (5 * (d + 1)))), (3, .ref (G.2.1 132)), (2, .ref (G.2.1 113)), (1, .ref (G.2.1 0)), (0, .ref b)]) C 0 dL_law_798 rfl (nI_add (5 * d) 5) (by rw [hN]; decide) rfl ?_
      refine j_goto (tgt := 23) C dL_law_801 (by decide) ?_
      refine j_wid h1 h2 ?_
      exact ih (d + 1) Z2 (by omega) (by omega) hI2
    refine j_aload_n C 4 dL_law_32 rfl rfl ?_
    refine j_iload C 0 dL_law_33 rfl ?_
    refine j_sld hE (by omega) dL_law_35 ?_
    refine j_bipush C (nI 31) dL_law_36 (by decide) ?_
    refine j_iand C (xs (5 * d) &&& nI 31) dL_law_38 rfl ?_
    rcases zt20 (xs (5 * d) &&& nI 31) with e39 | e39 | e39 | e39 | e39 | e39 | e39 | e39 | e39 | e39 | e39 | e39 | e39 | e39 | e39 | e39 | e39 | e39 | e39 | e39 | c39
    · refine j_top e39 ?_
      refine j_tableIn (tgt := 132) C dL_law_39 (by decide) (by decide) rfl (by decide) ?_
      refine j_aload_n C 3 dL_law_132 rfl rfl ?_
      refine j_aload_n C 4 dL_law_133 rfl rfl ?_
      refine j_iload C 0 dL_law_134 rfl ?_
      refine j_iconst C (nI 1) dL_law_136 (by decide) ?_
      refine j_iadd C (nI (5 * d + 1)) dL_law_137 (nI_add (5 * d) 1) ?_
      refine j_sld hE (by omega) dL_law_138 ?_
      obtain ⟨P, hM1, hP1⟩ := op_part hI (xs (5 * d + 1))
      refine j_callIX (lev := 20) (As := [.int (xs (5 * d + 1))]) (post := P) C (hE.ok (by omega) (by omega)) (hM1 _ _ _ _ G hD hG1) [] zmX4_part zk_L_25 zK4 (zb_X hG1) (zs_X hG1) (by decide) rfl rfl (Nat.le_of_ble_eq_true rfl) dL_law_139 (fun r1 Z1 h1 => ?_)
      obtain ⟨Q, hM2, hQ⟩ := hP1 r1 Z1 h1
      refine j_aload_n C 2 dL_law_142 rfl rfl ?_
      refine j_aload_n C 4 dL_law_143 rfl rfl ?_
      refine j_iload C 0 dL_law_144 rfl ?_
      refine j_iconst C (nI 1) dL_law_146 (by decide) ?_
      refine j_iadd C (nI (5 * d + 1)) dL_law_147 (nI_add (5 * d) 1) ?_
      refine j_sld hE (by omega) dL_law_148 ?_
      refine j_callIX (lev := 20) (As := [.int (xs (5 * d + 1))]) (post := Q) C (hE.ok (by omega) (by omega)) (hM2 _ _ _ _ G hD hG2) [.int r1] zmX5_part zk_L_28 zK5 (zb_M hG2) (zs_M hG2) (by decide) rfl rfl (Nat.le_of_ble_eq_true rfl) dL_law_149 (fun r2 Z2 h2 => ?_)
      obtain ⟨rfl, hI2⟩ := hQ r2 Z2 h2
      refine j_icmp_eq (tgt := 798) (a := r1.toInt) (b := r1.toInt) C rfl rfl dL_law_152 (by decide) (fun _ => ?_) (fun c => absurd rfl c)
      exact hback _ _ (by omega) (by omega) Z2 hI2
    · refine j_top e39 ?_
      refine j_tableIn (tgt := 157) C dL_law_39 (by decide) (by decide) rfl (by decide) ?_
      by_cases hb0 : (xs (5 * d + 4)).toInt = 0
      · refine j_aload_n C 3 dL_law_157 rfl rfl ?_
        refine j_aload_n C 4 dL_law_158 rfl rfl ?_
        refine j_iload C 0 dL_law_159 rfl ?_
        refine j_iconst C (nI 1) dL_law_161 (by decide) ?_
        refine j_iadd C (nI (5 * d + 1)) dL_law_162 (nI_add (5 * d) 1) ?_
        refine j_sld hE (by omega) dL_law_163 ?_
        refine j_aload_n C 4 dL_law_164 rfl rfl ?_
        refine j_iload C 0 dL_law_165 rfl ?_
        refine j_iconst C (nI 2) dL_law_167 (by decide) ?_
        refine j_iadd C (nI (5 * d + 2)) dL_law_168 (nI_add (5 * d) 2) ?_
        refine j_sld hE (by omega) dL_law_169 ?_
        refine j_aload_n C 4 dL_law_170 rfl rfl ?_
        refine j_iload C 0 dL_law_171 rfl ?_
        refine j_iconst C (nI 3) dL_law_173 (by decide) ?_
        refine j_iadd C (nI (5 * d + 3)) dL_law_174 (nI_add (5 * d) 3) ?_
        refine j_sld hE (by omega) dL_law_175 ?_
        refine j_aload_n C 4 dL_law_176 rfl rfl ?_
        refine j_iload C 0 dL_law_177 rfl ?_
        refine j_iconst C (nI 4) dL_law_179 (by decide) ?_
        refine j_iadd C (nI (5 * d + 4)) dL_law_180 (nI_add (5 * d) 4) ?_
        refine j_sld hE (by omega) dL_law_181 ?_
        refine j_if_eq (tgt := 189) (a := (xs (5 * d + 4)).toInt) C rfl dL_law_182 (by decide) (fun _ => ?_) (fun c => absurd hb0 c)
        refine j_iconst C (nI 0) dL_law_189 (by decide) ?_
        obtain ⟨P, hM1, hP1⟩ := op_row hI (xs (5 * d + 1)) (xs (5 * d + 2)) (xs (5 * d + 3)) (p3 := (nI 0)) (by decide)
        refine j_callIX (lev := 20) (As := [.int (xs (5 * d + 1)), .int (xs (5 * d + 2)), .int (xs (5 * d + 3)), .int (nI 0)]) (post := P) C (hE.ok (by omega) (by omega)) (hM1 _ _ _ _ G hD hG1) [] zmX4_row zk_L_29 zK4 (zb_X hG1) (zs_X hG1) (by decide) rfl rfl (Nat.le_of_ble_eq_true rfl) dL_law_190 (fun r1 Z1 h1 => ?_)
        obtain ⟨Q, hM2, hQ⟩ := hP1 r1 Z1 h1
        refine j_aload_n C 2 dL_law_193 rfl rfl ?_
        refine j_aload_n C 4 dL_law_194 rfl rfl ?_
        refine j_iload C 0 dL_law_195 rfl ?_
        refine j_iconst C (nI 1) dL_law_197 (by decide) ?_
        refine j_iadd C (nI (5 * d + 1)) dL_law_198 (nI_add (5 * d) 1) ?_
        refine j_sld hE (by omega) dL_law_199 ?_
        refine j_aload_n C 4 dL_law_200 rfl rfl ?_
        refine j_iload C 0 dL_law_201 rfl ?_
        refine j_iconst C (nI 2) dL_law_203 (by decide) ?_
        refine j_iadd C (nI (5 * d + 2)) dL_law_204 (nI_add (5 * d) 2) ?_
        refine j_sld hE (by omega) dL_law_205 ?_
        refine j_aload_n C 4 dL_law_206 rfl rfl ?_
        refine j_iload C 0 dL_law_207 rfl ?_
        refine j_iconst C (nI 3) dL_law_209 (by decide) ?_
        refine j_iadd C (nI (5 * d + 3)) dL_law_210 (nI_add (5 * d) 3) ?_
        refine j_sld hE (by omega) dL_law_211 ?_
        refine j_aload_n C 4 dL_law_212 rfl rfl ?_
        refine j_iload C 0 dL_law_213 rfl ?_
        refine j_iconst C (nI 4) dL_law_215 (by decide) ?_
        refine j_iadd C (nI (5 * d + 4)) dL_law_216 (nI_add (5 * d) 4) ?_
        refine j_sld hE (by omega) dL_law_217 ?_
        refine j_if_eq (tgt := 225) (a := (xs (5 * d + 4)).toInt) C rfl dL_law_218 (by decide) (fun _ => ?_) (fun c => absurd hb0 c)
        refine j_iconst C (nI 0) dL_law_225 (by decide) ?_
        refine j_callIX (lev := 20) (As := [.int (xs (5 * d + 1)), .int (xs (5 * d + 2)), .int (xs (5 * d + 3)), .int (nI 0)]) (post := Q) C (hE.ok (by omega) (by omega)) (hM2 _ _ _ _ G hD hG2) [.int r1] zmX5_row zk_L_33 zK5 (zb_M hG2) (zs_M hG2) (by decide) rfl rfl (Nat.le_of_ble_eq_true rfl) dL_law_226 (fun r2 Z2 h2 => ?_)
        obtain ⟨rfl, hI2⟩ := hQ r2 Z2 h2
        refine j_icmp_eq (tgt := 798) (a := r1.toInt) (b := r1.toInt) C rfl rfl dL_law_229 (by decide) (fun _ => ?_) (fun c => absurd rfl c)
        exact hback _ _ (by omega) (by omega) Z2 hI2
      · refine j_aload_n C 3 dL_law_157 rfl rfl ?_
        refine j_aload_n C 4 dL_law_158 rfl rfl ?_
        refine j_iload C 0 dL_law_159 rfl ?_
        refine j_iconst C (nI 1) dL_law_161 (by decide) ?_
        refine j_iadd C (nI (5 * d + 1)) dL_law_162 (nI_add (5 * d) 1) ?_
        refine j_sld hE (by omega) dL_law_163 ?_
        refine j_aload_n C 4 dL_law_164 rfl rfl ?_
        refine j_iload C 0 dL_law_165 rfl ?_
        refine j_iconst C (nI 2) dL_law_167 (by decide) ?_
        refine j_iadd C (nI (5 * d + 2)) dL_law_168 (nI_add (5 * d) 2) ?_
        refine j_sld hE (by omega) dL_law_169 ?_
        refine j_aload_n C 4 dL_law_170 rfl rfl ?_
        refine j_iload C 0 dL_law_171 rfl ?_
        refine j_iconst C (nI 3) dL_law_173 (by decide) ?_
        refine j_iadd C (nI (5 * d + 3)) dL_law_174 (nI_add (5 * d) 3) ?_
        refine j_sld hE (by omega) dL_law_175 ?_
        refine j_aload_n C 4 dL_law_176 rfl rfl ?_
        refine j_iload C 0 dL_law_177 rfl ?_
        refine j_iconst C (nI 4) dL_law_179 (by decide) ?_
        refine j_iadd C (nI (5 * d + 4)) dL_law_180 (nI_add (5 * d) 4) ?_
        refine j_sld hE (by omega) dL_law_181 ?_
        refine j_if_eq (tgt := 189) (a := (xs (5 * d + 4)).toInt) C rfl dL_law_182 (by decide) (fun c => absurd c hb0) (fun _ => ?_)
        refine j_iconst C (nI 1) dL_law_185 (by decide) ?_
        refine j_goto (tgt := 190) C dL_law_186 (by decide) ?_
        obtain ⟨P, hM1, hP1⟩ := op_row hI (xs (5 * d + 1)) (xs (5 * d + 2)) (xs (5 * d + 3)) (p3 := (nI 1)) (by decide)
        refine j_callIX (lev := 20) (As := [.int (xs (5 * d + 1)), .int (xs (5 * d + 2)), .int (xs (5 * d + 3)), .int (nI 1)]) (post := P) C (hE.ok (by omega) (by omega)) (hM1 _ _ _ _ G hD hG1) [] zmX4_row zk_L_29 zK4 (zb_X hG1) (zs_X hG1) (by decide) rfl rfl (Nat.le_of_ble_eq_true rfl) dL_law_190 (fun r1 Z1 h1 => ?_)
        obtain ⟨Q, hM2, hQ⟩ := hP1 r1 Z1 h1
        refine j_aload_n C 2 dL_law_193 rfl rfl ?_
        refine j_aload_n C 4 dL_law_194 rfl rfl ?_
        refine j_iload C 0 dL_law_195 rfl ?_
        refine j_iconst C (nI 1) dL_law_197 (by decide) ?_
        refine j_iadd C (nI (5 * d + 1)) dL_law_198 (nI_add (5 * d) 1) ?_
        refine j_sld hE (by omega) dL_law_199 ?_
        refine j_aload_n C 4 dL_law_200 rfl rfl ?_
        refine j_iload C 0 dL_law_201 rfl ?_
        refine j_iconst C (nI 2) dL_law_203 (by decide) ?_
        refine j_iadd C (nI (5 * d + 2)) dL_law_204 (nI_add (5 * d) 2) ?_
        refine j_sld hE (by omega) dL_law_205 ?_
        refine j_aload_n C 4 dL_law_206 rfl rfl ?_
        refine j_iload C 0 dL_law_207 rfl ?_
        refine j_iconst C (nI 3) dL_law_209 (by decide) ?_
        refine j_iadd C (nI (5 * d + 3)) dL_law_210 (nI_add (5 * d) 3) ?_
        refine j_sld hE (by omega) dL_law_211 ?_
        refine j_aload_n C 4 dL_law_212 rfl rfl ?_
        refine j_iload C 0 dL_law_213 rfl ?_
        refine j_iconst C (nI 4) dL_law_215 (by decide) ?_
        refine j_iadd C (nI (5 * d + 4)) dL_law_216 (nI_add (5 * d) 4) ?_
        refine j_sld hE (by omega) dL_law_217 ?_
        refine j_if_eq (tgt := 225) (a := (xs (5 * d + 4)).toInt) C rfl dL_law_218 (by decide) (fun c => absurd c hb0) (fun _ => ?_)
        refine j_iconst C (nI 1) dL_law_221 (by decide) ?_
        refine j_goto (tgt := 226) C dL_law_222 (by decide) ?_
        refine j_callIX (lev := 20) (As := [.int (xs (5 * d + 1)), .int (xs (5 * d + 2)), .int (xs (5 * d + 3)), .int (nI 1)]) (post := Q) C (hE.ok (by omega) (by omega)) (hM2 _ _ _ _ G hD hG2) [.int r1] zmX5_row zk_L_33 zK5 (zb_M hG2) (zs_M hG2) (by decide) rfl rfl (Nat.le_of_ble_eq_true rfl) dL_law_226 (fun r2 Z2 h2 => ?_)
        obtain ⟨rfl, hI2⟩ := hQ r2 Z2 h2
        refine j_icmp_eq (tgt := 798) (a := r1.toInt) (b := r1.toInt) C rfl rfl dL_law_229 (by decide) (fun _ => ?_) (fun c => absurd rfl c)
        exact hback _ _ (by omega) (by omega) Z2 hI2
    · refine j_top e39 ?_
      refine j_tableIn (tgt := 234) C dL_law_39 (by decide) (by decide) rfl (by decide) ?_
      refine j_aload_n C 3 dL_law_234 rfl rfl ?_
      refine j_aload_n C 4 dL_law_235 rfl rfl ?_
      refine j_iload C 0 dL_law_236 rfl ?_
      refine j_iconst C (nI 1) dL_law_238 (by decide) ?_
      refine j_iadd C (nI (5 * d + 1)) dL_law_239 (nI_add (5 * d) 1) ?_
      refine j_sld hE (by omega) dL_law_240 ?_
      obtain ⟨P, hM1, hP1⟩ := op_end hI (xs (5 * d + 1))
      refine j_callIX (lev := 20) (As := [.int (xs (5 * d + 1))]) (post := P) C (hE.ok (by omega) (by omega)) (hM1 _ _ _ _ G hD hG1) [] zmX4_end zk_L_34 zK4 (zb_X hG1) (zs_X hG1) (by decide) rfl rfl (Nat.le_of_ble_eq_true rfl) dL_law_241 (fun r1 Z1 h1 => ?_)
      obtain ⟨Q, hM2, hQ⟩ := hP1 r1 Z1 h1
      refine j_aload_n C 2 dL_law_244 rfl rfl ?_
      refine j_aload_n C 4 dL_law_245 rfl rfl ?_
      refine j_iload C 0 dL_law_246 rfl ?_
      refine j_iconst C (nI 1) dL_law_248 (by decide) ?_
      refine j_iadd C (nI (5 * d + 1)) dL_law_249 (nI_add (5 * d) 1) ?_
      refine j_sld hE (by omega) dL_law_250 ?_
      refine j_callIX (lev := 20) (As := [.int (xs (5 * d + 1))]) (post := Q) C (hE.ok (by omega) (by omega)) (hM2 _ _ _ _ G hD hG2) [.int r1] zmX5_end zk_L_37 zK5 (zb_M hG2) (zs_M hG2) (by decide) rfl rfl (Nat.le_of_ble_eq_true rfl) dL_law_251 (fun r2 Z2 h2 => ?_)
      obtain ⟨rfl, hI2⟩ := hQ r2 Z2 h2
      refine j_icmp_eq (tgt := 798) (a := r1.toInt) (b := r1.toInt) C rfl rfl dL_law_254 (by decide) (fun _ => ?_) (fun c => absurd rfl c)
      exact hback _ _ (by omega) (by omega) Z2 hI2
    · refine j_top e39 ?_
      refine j_tableIn (tgt := 259) C dL_law_39 (by decide) (by decide) rfl (by decide) ?_
      refine j_aload_n C 3 dL_law_259 rfl rfl ?_
      refine j_aload_n C 4 dL_law_260 rfl rfl ?_
      refine j_iload C 0 dL_law_261 rfl ?_
      refine j_iconst C (nI 1) dL_law_263 (by decide) ?_
      refine j_iadd C (nI (5 * d + 1)) dL_law_264 (nI_add (5 * d) 1) ?_
      refine j_sld hE (by omega) dL_law_265 ?_
      refine j_aload_n C 4 dL_law_266 rfl rfl ?_
      refine j_iload C 0 dL_law_267 rfl ?_
      refine j_iconst C (nI 2) dL_law_269 (by decide) ?_
      refine j_iadd C (nI (5 * d + 2)) dL_law_270 (nI_add (5 * d) 2) ?_
      refine j_sld hE (by omega) dL_law_271 ?_
      obtain ⟨P, hM1, hP1⟩ := op_split hI (xs (5 * d + 1)) (xs (5 * d + 2))
      refine j_callIX (lev := 20) (As := [.int (xs (5 * d + 1)), .int (xs (5 * d + 2))]) (post := P) C (hE.ok (by omega) (by omega)) (hM1 _ _ _ _ G hD hG1) [] zmX4_split zk_L_38 zK4 (zb_X hG1) (zs_X hG1) (by decide) rfl rfl (Nat.le_of_ble_eq_true rfl) dL_law_272 (fun r1 Z1 h1 => ?_)
      obtain ⟨Q, hM2, hQ⟩ := hP1 r1 Z1 h1
      refine j_aload_n C 2 dL_law_275 rfl rfl ?_
      refine j_aload_n C 4 dL_law_276 rfl rfl ?_
      refine j_iload C 0 dL_law_277 rfl ?_
      refine j_iconst C (nI 1) dL_law_279 (by decide) ?_
      refine j_iadd C (nI (5 * d + 1)) dL_law_280 (nI_add (5 * d) 1) ?_
      refine j_sld hE (by omega) dL_law_281 ?_
      refine j_aload_n C 4 dL_law_282 rfl rfl ?_
      refine j_iload C 0 dL_law_283 rfl ?_
      refine j_iconst C (nI 2) dL_law_285 (by decide) ?_
      refine j_iadd C (nI (5 * d + 2)) dL_law_286 (nI_add (5 * d) 2) ?_
      refine j_sld hE (by omega) dL_law_287 ?_
      refine j_callIX (lev := 20) (As := [.int (xs (5 * d + 1)), .int (xs (5 * d + 2))]) (post := Q) C (hE.ok (by omega) (by omega)) (hM2 _ _ _ _ G hD hG2) [.int r1] zmX5_split zk_L_41 zK5 (zb_M hG2) (zs_M hG2) (by decide) rfl rfl (Nat.le_of_ble_eq_true rfl) dL_law_288 (fun r2 Z2 h2 => ?_)
      obtain ⟨rfl, hI2⟩ := hQ r2 Z2 h2
      refine j_icmp_eq (tgt := 798) (a := r1.toInt) (b := r1.toInt) C rfl rfl dL_law_291 (by decide) (fun _ => ?_) (fun c => absurd rfl c)
      exact hback _ _ (by omega) (by omega) Z2 hI2
    · refine j_top e39 ?_
      refine j_tableIn (tgt := 296) C dL_law_39 (by decide) (by decide) rfl (by decide) ?_
      refine j_aload_n C 3 dL_law_296 rfl rfl ?_
      refine j_aload_n C 4 dL_law_297 rfl rfl ?_
      refine j_iload C 0 dL_law_298 rfl ?_
      refine j_iconst C (nI 1) dL_law_300 (by decide) ?_
      refine j_iadd C (nI (5 * d + 1)) dL_law_301 (nI_add (5 * d) 1) ?_
      refine j_sld hE (by omega) dL_law_302 ?_
      refine j_aload_n C 4 dL_law_303 rfl rfl ?_
      refine j_iload C 0 dL_law_304 rfl ?_
      refine j_iconst C (nI 2) dL_law_306 (by decide) ?_
      refine j_iadd C (nI (5 * d + 2)) dL_law_307 (nI_add (5 * d) 2) ?_
      refine j_sld hE (by omega) dL_law_308 ?_
      obtain ⟨P, hM1, hP1⟩ := op_give hI (xs (5 * d + 1)) (xs (5 * d + 2))
      refine j_callIX (lev := 20) (As := [.int (xs (5 * d + 1)), .int (xs (5 * d + 2))]) (post := P) C (hE.ok (by omega) (by omega)) (hM1 _ _ _ _ G hD hG1) [] zmX4_give zk_L_42 zK4 (zb_X hG1) (zs_X hG1) (by decide) rfl rfl (Nat.le_of_ble_eq_true rfl) dL_law_309 (fun r1 Z1 h1 => ?_)
      obtain ⟨Q, hM2, hQ⟩ := hP1 r1 Z1 h1
      refine j_aload_n C 2 dL_law_312 rfl rfl ?_
      refine j_aload_n C 4 dL_law_313 rfl rfl ?_
      refine j_iload C 0 dL_law_314 rfl ?_
      refine j_iconst C (nI 1) dL_law_316 (by decide) ?_
      refine j_iadd C (nI (5 * d + 1)) dL_law_317 (nI_add (5 * d) 1) ?_
      refine j_sld hE (by omega) dL_law_318 ?_
      refine j_aload_n C 4 dL_law_319 rfl rfl ?_
      refine j_iload C 0 dL_law_320 rfl ?_
      refine j_iconst C (nI 2) dL_law_322 (by decide) ?_
      refine j_iadd C (nI (5 * d + 2)) dL_law_323 (nI_add (5 * d) 2) ?_
      refine j_sld hE (by omega) dL_law_324 ?_
      refine j_callIX (lev := 20) (As := [.int (xs (5 * d + 1)), .int (xs (5 * d + 2))]) (post := Q) C (hE.ok (by omega) (by omega)) (hM2 _ _ _ _ G hD hG2) [.int r1] zmX5_give zk_L_45 zK5 (zb_M hG2) (zs_M hG2) (by decide) rfl rfl (Nat.le_of_ble_eq_true rfl) dL_law_325 (fun r2 Z2 h2 => ?_)
      obtain ⟨rfl, hI2⟩ := hQ r2 Z2 h2
      refine j_icmp_eq (tgt := 798) (a := r1.toInt) (b := r1.toInt) C rfl rfl dL_law_328 (by decide) (fun _ => ?_) (fun c => absurd rfl c)
      exact hback _ _ (by omega) (by omega) Z2 hI2
    · refine j_top e39 ?_
      refine j_tableIn (tgt := 333) C dL_law_39 (by decide) (by decide) rfl (by decide) ?_
      refine j_aload_n C 3 dL_law_333 rfl rfl ?_
      refine j_aload_n C 4 dL_law_334 rfl rfl ?_
      refine j_iload C 0 dL_law_335 rfl ?_
      refine j_iconst C (nI 1) dL_law_337 (by decide) ?_
      refine j_iadd C (nI (5 * d + 1)) dL_law_338 (nI_add (5 * d) 1) ?_
      refine j_sld hE (by omega) dL_law_339 ?_
      obtain ⟨P, hM1, hP1⟩ := op_read hI (by omega) (xs (5 * d + 1))
      refine j_callIX (lev := 20) (As := [.int (xs (5 * d + 1))]) (post := P) C (hE.ok (by omega) (by omega)) (hM1 _ _ _ _ G hD hG1) [] zmX4_read zk_L_46 zK4 (zb_X hG1) (zs_X hG1) (by decide) rfl rfl (Nat.le_of_ble_eq_true rfl) dL_law_340 (fun r1 Z1 h1 => ?_)
      obtain ⟨Q, hM2, hQ⟩ := hP1 r1 Z1 h1
      refine j_aload_n C 2 dL_law_343 rfl rfl ?_
      refine j_aload_n C 4 dL_law_344 rfl rfl ?_
      refine j_iload C 0 dL_law_345 rfl ?_
      refine j_iconst C (nI 1) dL_law_347 (by decide) ?_
      refine j_iadd C (nI (5 * d + 1)) dL_law_348 (nI_add (5 * d) 1) ?_
      refine j_sld hE (by omega) dL_law_349 ?_
      refine j_callIX (lev := 20) (As := [.int (xs (5 * d + 1))]) (post := Q) C (hE.ok (by omega) (by omega)) (hM2 _ _ _ _ G hD hG2) [.int r1] zmX5_read zk_L_49 zK5 (zb_M hG2) (zs_M hG2) (by decide) rfl rfl (Nat.le_of_ble_eq_true rfl) dL_law_350 (fun r2 Z2 h2 => ?_)
      obtain ⟨rfl, hI2⟩ := hQ r2 Z2 h2
      refine j_icmp_eq (tgt := 798) (a := r1.toInt) (b := r1.toInt) C rfl rfl dL_law_353 (by decide) (fun _ => ?_) (fun c => absurd rfl c)
      exact hback _ _ (by omega) (by omega) Z2 hI2
    · refine j_top e39 ?_
      refine j_tableIn (tgt := 358) C dL_law_39 (by decide) (by decide) rfl (by decide) ?_
      refine j_aload_n C 3 dL_law_358 rfl rfl ?_
      refine j_aload_n C 4 dL_law_359 rfl rfl ?_
      refine j_iload C 0 dL_law_360 rfl ?_
      refine j_iconst C (nI 1) dL_law_362 (by decide) ?_
      refine j_iadd C (nI (5 * d + 1)) dL_law_363 (nI_add (5 * d) 1) ?_
      refine j_sld hE (by omega) dL_law_364 ?_
      obtain ⟨P, hM1, hP1⟩ := op_latest hI (xs (5 * d + 1))
      refine j_callIX (lev := 20) (As := [.int (xs (5 * d + 1))]) (post := P) C (hE.ok (by omega) (by omega)) (hM1 _ _ _ _ G hD hG1) [] zmX4_latest zk_L_50 zK4 (zb_X hG1) (zs_X hG1) (by decide) rfl rfl (Nat.le_of_ble_eq_true rfl) dL_law_365 (fun r1 Z1 h1 => ?_)
      obtain ⟨Q, hM2, hQ⟩ := hP1 r1 Z1 h1
      refine j_aload_n C 2 dL_law_368 rfl rfl ?_
      refine j_aload_n C 4 dL_law_369 rfl rfl ?_
      refine j_iload C 0 dL_law_370 rfl ?_
      refine j_iconst C (nI 1) dL_law_372 (by decide) ?_
      refine j_iadd C (nI (5 * d + 1)) dL_law_373 (nI_add (5 * d) 1) ?_
      refine j_sld hE (by omega) dL_law_374 ?_
      refine j_callIX (lev := 20) (As := [.int (xs (5 * d + 1))]) (post := Q) C (hE.ok (by omega) (by omega)) (hM2 _ _ _ _ G hD hG2) [.int r1] zmX5_latest zk_L_53 zK5 (zb_M hG2) (zs_M hG2) (by decide) rfl rfl (Nat.le_of_ble_eq_true rfl) dL_law_375 (fun r2 Z2 h2 => ?_)
      obtain ⟨rfl, hI2⟩ := hQ r2 Z2 h2
      refine j_icmp_eq (tgt := 798) (a := r1.toInt) (b := r1.toInt) C rfl rfl dL_law_378 (by decide) (fun _ => ?_) (fun c => absurd rfl c)
      exact hback _ _ (by omega) (by omega) Z2 hI2
    · refine j_top e39 ?_
      refine j_tableIn (tgt := 383) C dL_law_39 (by decide) (by decide) rfl (by decide) ?_
      by_cases hb0 : (xs (5 * d + 2)).toInt = 0
      · refine j_aload_n C 3 dL_law_383 rfl rfl ?_
        refine j_aload_n C 4 dL_law_384 rfl rfl ?_
        refine j_iload C 0 dL_law_385 rfl ?_
        refine j_iconst C (nI 1) dL_law_387 (by decide) ?_
        refine j_iadd C (nI (5 * d + 1)) dL_law_388 (nI_add (5 * d) 1) ?_
        refine j_sld hE (by omega) dL_law_389 ?_
        refine j_aload_n C 4 dL_law_390 rfl rfl ?_
        refine j_iload C 0 dL_law_391 rfl ?_
        refine j_iconst C (nI 2) dL_law_393 (by decide) ?_
        refine j_iadd C (nI (5 * d + 2)) dL_law_394 (nI_add (5 * d) 2) ?_
        refine j_sld hE (by omega) dL_law_395 ?_
        refine j_if_eq (tgt := 403) (a := (xs (5 * d + 2)).toInt) C rfl dL_law_396 (by decide) (fun _ => ?_) (fun c => absurd hb0 c)
        refine j_iconst C (nI 0) dL_law_403 (by decide) ?_
        obtain ⟨P, hM1, hP1⟩ := op_lose hI (by omega) (xs (5 * d + 1)) (nI 0)
        refine j_callIX (lev := 20) (As := [.int (xs (5 * d + 1)), .int (nI 0)]) (post := P) C (hE.ok (by omega) (by omega)) (hM1 _ _ _ _ G hD hG1) [] zmX4_lose zk_L_54 zK4 (zb_X hG1) (zs_X hG1) (by decide) rfl rfl (Nat.le_of_ble_eq_true rfl) dL_law_404 (fun r1 Z1 h1 => ?_)
        obtain ⟨Q, hM2, hQ⟩ := hP1 r1 Z1 h1
        refine j_aload_n C 2 dL_law_407 rfl rfl ?_
        refine j_aload_n C 4 dL_law_408 rfl rfl ?_
        refine j_iload C 0 dL_law_409 rfl ?_
        refine j_iconst C (nI 1) dL_law_411 (by decide) ?_
        refine j_iadd C (nI (5 * d + 1)) dL_law_412 (nI_add (5 * d) 1) ?_
        refine j_sld hE (by omega) dL_law_413 ?_
        refine j_aload_n C 4 dL_law_414 rfl rfl ?_
        refine j_iload C 0 dL_law_415 rfl ?_
        refine j_iconst C (nI 2) dL_law_417 (by decide) ?_
        refine j_iadd C (nI (5 * d + 2)) dL_law_418 (nI_add (5 * d) 2) ?_
        refine j_sld hE (by omega) dL_law_419 ?_
        refine j_if_eq (tgt := 427) (a := (xs (5 * d + 2)).toInt) C rfl dL_law_420 (by decide) (fun _ => ?_) (fun c => absurd hb0 c)
        refine j_iconst C (nI 0) dL_law_427 (by decide) ?_
        refine j_callIX (lev := 20) (As := [.int (xs (5 * d + 1)), .int (nI 0)]) (post := Q) C (hE.ok (by omega) (by omega)) (hM2 _ _ _ _ G hD hG2) [.int r1] zmX5_lose zk_L_58 zK5 (zb_M hG2) (zs_M hG2) (by decide) rfl rfl (Nat.le_of_ble_eq_true rfl) dL_law_428 (fun r2 Z2 h2 => ?_)
        obtain ⟨rfl, hI2⟩ := hQ r2 Z2 h2
        refine j_icmp_eq (tgt := 798) (a := r1.toInt) (b := r1.toInt) C rfl rfl dL_law_431 (by decide) (fun _ => ?_) (fun c => absurd rfl c)
        exact hback _ _ (by omega) (by omega) Z2 hI2
      · refine j_aload_n C 3 dL_law_383 rfl rfl ?_
        refine j_aload_n C 4 dL_law_384 rfl rfl ?_
        refine j_iload C 0 dL_law_385 rfl ?_
        refine j_iconst C (nI 1) dL_law_387 (by decide) ?_
        refine j_iadd C (nI (5 * d + 1)) dL_law_388 (nI_add (5 * d) 1) ?_
        refine j_sld hE (by omega) dL_law_389 ?_
        refine j_aload_n C 4 dL_law_390 rfl rfl ?_
        refine j_iload C 0 dL_law_391 rfl ?_
        refine j_iconst C (nI 2) dL_law_393 (by decide) ?_
        refine j_iadd C (nI (5 * d + 2)) dL_law_394 (nI_add (5 * d) 2) ?_
        refine j_sld hE (by omega) dL_law_395 ?_
        refine j_if_eq (tgt := 403) (a := (xs (5 * d + 2)).toInt) C rfl dL_law_396 (by decide) (fun c => absurd c hb0) (fun _ => ?_)
        refine j_iconst C (nI 1) dL_law_399 (by decide) ?_
        refine j_goto (tgt := 404) C dL_law_400 (by decide) ?_
        obtain ⟨P, hM1, hP1⟩ := op_lose hI (by omega) (xs (5 * d + 1)) (nI 1)
        refine j_callIX (lev := 20) (As := [.int (xs (5 * d + 1)), .int (nI 1)]) (post := P) C (hE.ok (by omega) (by omega)) (hM1 _ _ _ _ G hD hG1) [] zmX4_lose zk_L_54 zK4 (zb_X hG1) (zs_X hG1) (by decide) rfl rfl (Nat.le_of_ble_eq_true rfl) dL_law_404 (fun r1 Z1 h1 => ?_)
        obtain ⟨Q, hM2, hQ⟩ := hP1 r1 Z1 h1
        refine j_aload_n C 2 dL_law_407 rfl rfl ?_
        refine j_aload_n C 4 dL_law_408 rfl rfl ?_
        refine j_iload C 0 dL_law_409 rfl ?_
        refine j_iconst C (nI 1) dL_law_411 (by decide) ?_
        refine j_iadd C (nI (5 * d + 1)) dL_law_412 (nI_add (5 * d) 1) ?_
        refine j_sld hE (by omega) dL_law_413 ?_
        refine j_aload_n C 4 dL_law_414 rfl rfl ?_
        refine j_iload C 0 dL_law_415 rfl ?_
        refine j_iconst C (nI 2) dL_law_417 (by decide) ?_
        refine j_iadd C (nI (5 * d + 2)) dL_law_418 (nI_add (5 * d) 2) ?_
        refine j_sld hE (by omega) dL_law_419 ?_
        refine j_if_eq (tgt := 427) (a := (xs (5 * d + 2)).toInt) C rfl dL_law_420 (by decide) (fun c => absurd c hb0) (fun _ => ?_)
        refine j_iconst C (nI 1) dL_law_423 (by decide) ?_
        refine j_goto (tgt := 428) C dL_law_424 (by decide) ?_
        refine j_callIX (lev := 20) (As := [.int (xs (5 * d + 1)), .int (nI 1)]) (post := Q) C (hE.ok (by omega) (by omega)) (hM2 _ _ _ _ G hD hG2) [.int r1] zmX5_lose zk_L_58 zK5 (zb_M hG2) (zs_M hG2) (by decide) rfl rfl (Nat.le_of_ble_eq_true rfl) dL_law_428 (fun r2 Z2 h2 => ?_)
        obtain ⟨rfl, hI2⟩ := hQ r2 Z2 h2
        refine j_icmp_eq (tgt := 798) (a := r1.toInt) (b := r1.toInt) C rfl rfl dL_law_431 (by decide) (fun _ => ?_) (fun c => absurd rfl c)
        exact hback _ _ (by omega) (by omega) Z2 hI2
    · refine j_top e39 ?_
      refine j_tableIn (tgt := 436) C dL_law_39 (by decide) (by decide) rfl (by decide) ?_
      refine j_aload_n C 3 dL_law_436 rfl rfl ?_
      obtain ⟨P, hM1, hP1⟩ := op_mark hI
      refine j_callIX (lev := 20) (As := []) (post := P) C (hE.ok (by omega) (by omega)) (hM1 _ _ _ _ G hD hG1) [] zmX4_mark zk_L_59 zK4 (zb_X hG1) (zs_X hG1) (by decide) rfl rfl (Nat.le_of_ble_eq_true rfl) dL_law_437 (fun r1 Z1 h1 => ?_)
      obtain ⟨Q, hM2, hQ⟩ := hP1 r1 Z1 h1
      refine j_aload_n C 2 dL_law_440 rfl rfl ?_
      refine j_callIX (lev := 20) (As := []) (post := Q) C (hE.ok (by omega) (by omega)) (hM2 _ _ _ _ G hD hG2) [.int r1] zmX5_mark zk_L_63 zK5 (zb_M hG2) (zs_M hG2) (by decide) rfl rfl (Nat.le_of_ble_eq_true rfl) dL_law_441 (fun r2 Z2 h2 => ?_)
      obtain ⟨rfl, hI2⟩ := hQ r2 Z2 h2
      refine j_icmp_eq (tgt := 798) (a := r1.toInt) (b := r1.toInt) C rfl rfl dL_law_444 (by decide) (fun _ => ?_) (fun c => absurd rfl c)
      exact hback _ _ (by omega) (by omega) Z2 hI2
    · refine j_top e39 ?_
      refine j_tableIn (tgt := 449) C dL_law_39 (by decide) (by decide) rfl (by decide) ?_
      refine j_aload_n C 3 dL_law_449 rfl rfl ?_
      refine j_aload_n C 4 dL_law_450 rfl rfl ?_
      refine j_iload C 0 dL_law_451 rfl ?_
      refine j_iconst C (nI 1) dL_law_453 (by decide) ?_
      refine j_iadd C (nI (5 * d + 1)) dL_law_454 (nI_add (5 * d) 1) ?_
      refine j_sld hE (by omega) dL_law_455 ?_
      obtain ⟨P, hM1, hP1⟩ := op_restore hI (xs (5 * d + 1))
      refine j_callIX (lev := 20) (As := [.int (xs (5 * d + 1))]) (post := P) C (hE.ok (by omega) (by omega)) (hM1 _ _ _ _ G hD hG1) [] zmX4_restore zk_L_64 zK4 (zb_X hG1) (zs_X hG1) (by decide) rfl rfl (Nat.le_of_ble_eq_true rfl) dL_law_456 (fun r1 Z1 h1 => ?_)
      obtain ⟨Q, hM2, hQ⟩ := hP1 r1 Z1 h1
      refine j_aload_n C 2 dL_law_459 rfl rfl ?_
      refine j_aload_n C 4 dL_law_460 rfl rfl ?_
      refine j_iload C 0 dL_law_461 rfl ?_
      refine j_iconst C (nI 1) dL_law_463 (by decide) ?_
      refine j_iadd C (nI (5 * d + 1)) dL_law_464 (nI_add (5 * d) 1) ?_
      refine j_sld hE (by omega) dL_law_465 ?_
      refine j_callIX (lev := 20) (As := [.int (xs (5 * d + 1))]) (post := Q) C (hE.ok (by omega) (by omega)) (hM2 _ _ _ _ G hD hG2) [.int r1] zmX5_restore zk_L_67 zK5 (zb_M hG2) (zs_M hG2) (by decide) rfl rfl (Nat.le_of_ble_eq_true rfl) dL_law_466 (fun r2 Z2 h2 => ?_)
      obtain ⟨rfl, hI2⟩ := hQ r2 Z2 h2
      refine j_icmp_eq (tgt := 798) (a := r1.toInt) (b := r1.toInt) C rfl rfl dL_law_469 (by decide) (fun _ => ?_) (fun c => absurd rfl c)
      exact hback _ _ (by omega) (by omega) Z2 hI2
    · refine j_top e39 ?_
      refine j_tableIn (tgt := 474) C dL_law_39 (by decide) (by decide) rfl (by decide) ?_
      refine j_aload_n C 3 dL_law_474 rfl rfl ?_
      refine j_aload_n C 4 dL_law_475 rfl rfl ?_
      refine j_iload C 0 dL_law_476 rfl ?_
      refine j_iconst C (nI 1) dL_law_478 (by decide) ?_
      refine j_iadd C (nI (5 * d + 1)) dL_law_479 (nI_add (5 * d) 1) ?_
      refine j_sld hE (by omega) dL_law_480 ?_
      obtain ⟨P, hM1, hP1⟩ := op_start hI (xs (5 * d + 1))
      refine j_callIX (lev := 20) (As := [.int (xs (5 * d + 1))]) (post := P) C (hE.ok (by omega) (by omega)) (hM1 _ _ _ _ G hD hG1) [] zmX4_start zk_L_68 zK4 (zb_X hG1) (zs_X hG1) (by decide) rfl rfl (Nat.le_of_ble_eq_true rfl) dL_law_481 (fun r1 Z1 h1 => ?_)
      obtain ⟨Q, hM2, hQ⟩ := hP1 r1 Z1 h1
      refine j_aload_n C 2 dL_law_484 rfl rfl ?_
      refine j_aload_n C 4 dL_law_485 rfl rfl ?_
      refine j_iload C 0 dL_law_486 rfl ?_
      refine j_iconst C (nI 1) dL_law_488 (by decide) ?_
      refine j_iadd C (nI (5 * d + 1)) dL_law_489 (nI_add (5 * d) 1) ?_
      refine j_sld hE (by omega) dL_law_490 ?_
      refine j_callIX (lev := 20) (As := [.int (xs (5 * d + 1))]) (post := Q) C (hE.ok (by omega) (by omega)) (hM2 _ _ _ _ G hD hG2) [.int r1] zmX5_start zk_L_71 zK5 (zb_M hG2) (zs_M hG2) (by decide) rfl rfl (Nat.le_of_ble_eq_true rfl) dL_law_491 (fun r2 Z2 h2 => ?_)
      obtain ⟨rfl, hI2⟩ := hQ r2 Z2 h2
      refine j_icmp_eq (tgt := 798) (a := r1.toInt) (b := r1.toInt) C rfl rfl dL_law_494 (by decide) (fun _ => ?_) (fun c => absurd rfl c)
      exact hback _ _ (by omega) (by omega) Z2 hI2
    · refine j_top e39 ?_
      refine j_tableIn (tgt := 499) C dL_law_39 (by decide) (by decide) rfl (by decide) ?_
      refine j_aload_n C 3 dL_law_499 rfl rfl ?_
      refine j_aload_n C 4 dL_law_500 rfl rfl ?_
      refine j_iload C 0 dL_law_501 rfl ?_
      refine j_iconst C (nI 1) dL_law_503 (by decide) ?_
      refine j_iadd C (nI (5 * d + 1)) dL_law_504 (nI_add (5 * d) 1) ?_
      refine j_sld hE (by omega) dL_law_505 ?_
      obtain ⟨P, hM1, hP1⟩ := op_scale hI (xs (5 * d + 1))
      refine j_callIX (lev := 20) (As := [.int (xs (5 * d + 1))]) (post := P) C (hE.ok (by omega) (by omega)) (hM1 _ _ _ _ G hD hG1) [] zmX4_scale zk_L_72 zK4 (zb_X hG1) (zs_X hG1) (by decide) rfl rfl (Nat.le_of_ble_eq_true rfl) dL_law_506 (fun r1 Z1 h1 => ?_)
      obtain ⟨Q, hM2, hQ⟩ := hP1 r1 Z1 h1
      refine j_aload_n C 2 dL_law_509 rfl rfl ?_
      refine j_aload_n C 4 dL_law_510 rfl rfl ?_
      refine j_iload C 0 dL_law_511 rfl ?_
      refine j_iconst C (nI 1) dL_law_513 (by decide) ?_
      refine j_iadd C (nI (5 * d + 1)) dL_law_514 (nI_add (5 * d) 1) ?_
      refine j_sld hE (by omega) dL_law_515 ?_
      refine j_callIX (lev := 20) (As := [.int (xs (5 * d + 1))]) (post := Q) C (hE.ok (by omega) (by omega)) (hM2 _ _ _ _ G hD hG2) [.int r1] zmX5_scale zk_L_75 zK5 (zb_M hG2) (zs_M hG2) (by decide) rfl rfl (Nat.le_of_ble_eq_true rfl) dL_law_516 (fun r2 Z2 h2 => ?_)
      obtain ⟨rfl, hI2⟩ := hQ r2 Z2 h2
      refine j_icmp_eq (tgt := 798) (a := r1.toInt) (b := r1.toInt) C rfl rfl dL_law_519 (by decide) (fun _ => ?_) (fun c => absurd rfl c)
      exact hback _ _ (by omega) (by omega) Z2 hI2
    · refine j_top e39 ?_
      refine j_tableIn (tgt := 524) C dL_law_39 (by decide) (by decide) rfl (by decide) ?_
      refine j_aload_n C 3 dL_law_524 rfl rfl ?_
      refine j_aload_n C 4 dL_law_525 rfl rfl ?_
      refine j_iload C 0 dL_law_526 rfl ?_
      refine j_iconst C (nI 1) dL_law_528 (by decide) ?_
      refine j_iadd C (nI (5 * d + 1)) dL_law_529 (nI_add (5 * d) 1) ?_
      refine j_sld hE (by omega) dL_law_530 ?_
      refine j_aload_n C 4 dL_law_531 rfl rfl ?_
      refine j_iload C 0 dL_law_532 rfl ?_
      refine j_iconst C (nI 2) dL_law_534 (by decide) ?_
      refine j_iadd C (nI (5 * d + 2)) dL_law_535 (nI_add (5 * d) 2) ?_
      refine j_sld hE (by omega) dL_law_536 ?_
      obtain ⟨P, hM1, hP1⟩ := op_told hI (xs (5 * d + 1)) (xs (5 * d + 2))
      refine j_callIX (lev := 20) (As := [.int (xs (5 * d + 1)), .int (xs (5 * d + 2))]) (post := P) C (hE.ok (by omega) (by omega)) (hM1 _ _ _ _ G hD hG1) [] zmX4_told zk_L_76 zK4 (zb_X hG1) (zs_X hG1) (by decide) rfl rfl (Nat.le_of_ble_eq_true rfl) dL_law_537 (fun r1 Z1 h1 => ?_)
      obtain ⟨Q, hM2, hQ⟩ := hP1 r1 Z1 h1
      refine j_aload_n C 2 dL_law_540 rfl rfl ?_
      refine j_aload_n C 4 dL_law_541 rfl rfl ?_
      refine j_iload C 0 dL_law_542 rfl ?_
      refine j_iconst C (nI 1) dL_law_544 (by decide) ?_
      refine j_iadd C (nI (5 * d + 1)) dL_law_545 (nI_add (5 * d) 1) ?_
      refine j_sld hE (by omega) dL_law_546 ?_
      refine j_aload_n C 4 dL_law_547 rfl rfl ?_
      refine j_iload C 0 dL_law_548 rfl ?_
      refine j_iconst C (nI 2) dL_law_550 (by decide) ?_
      refine j_iadd C (nI (5 * d + 2)) dL_law_551 (nI_add (5 * d) 2) ?_
      refine j_sld hE (by omega) dL_law_552 ?_
      refine j_callIX (lev := 20) (As := [.int (xs (5 * d + 1)), .int (xs (5 * d + 2))]) (post := Q) C (hE.ok (by omega) (by omega)) (hM2 _ _ _ _ G hD hG2) [.int r1] zmX5_told zk_L_79 zK5 (zb_M hG2) (zs_M hG2) (by decide) rfl rfl (Nat.le_of_ble_eq_true rfl) dL_law_553 (fun r2 Z2 h2 => ?_)
      obtain ⟨rfl, hI2⟩ := hQ r2 Z2 h2
      refine j_icmp_eq (tgt := 798) (a := r1.toInt) (b := r1.toInt) C rfl rfl dL_law_556 (by decide) (fun _ => ?_) (fun c => absurd rfl c)
      exact hback _ _ (by omega) (by omega) Z2 hI2
    · refine j_top e39 ?_
      refine j_tableIn (tgt := 561) C dL_law_39 (by decide) (by decide) rfl (by decide) ?_
      refine j_aload_n C 3 dL_law_561 rfl rfl ?_
      refine j_aload_n C 4 dL_law_562 rfl rfl ?_
      refine j_iload C 0 dL_law_563 rfl ?_
      refine j_iconst C (nI 1) dL_law_565 (by decide) ?_
      refine j_iadd C (nI (5 * d + 1)) dL_law_566 (nI_add (5 * d) 1) ?_
      refine j_sld hE (by omega) dL_law_567 ?_
      obtain ⟨P, hM1, hP1⟩ := op_given hI (xs (5 * d + 1))
      refine j_callIX (lev := 20) (As := [.int (xs (5 * d + 1))]) (post := P) C (hE.ok (by omega) (by omega)) (hM1 _ _ _ _ G hD hG1) [] zmX4_given zk_L_80 zK4 (zb_X hG1) (zs_X hG1) (by decide) rfl rfl (Nat.le_of_ble_eq_true rfl) dL_law_568 (fun r1 Z1 h1 => ?_)
      obtain ⟨Q, hM2, hQ⟩ := hP1 r1 Z1 h1
      refine j_aload_n C 2 dL_law_571 rfl rfl ?_
      refine j_aload_n C 4 dL_law_572 rfl rfl ?_
      refine j_iload C 0 dL_law_573 rfl ?_
      refine j_iconst C (nI 1) dL_law_575 (by decide) ?_
      refine j_iadd C (nI (5 * d + 1)) dL_law_576 (nI_add (5 * d) 1) ?_
      refine j_sld hE (by omega) dL_law_577 ?_
      refine j_callIX (lev := 20) (As := [.int (xs (5 * d + 1))]) (post := Q) C (hE.ok (by omega) (by omega)) (hM2 _ _ _ _ G hD hG2) [.int r1] zmX5_given zk_L_83 zK5 (zb_M hG2) (zs_M hG2) (by decide) rfl rfl (Nat.le_of_ble_eq_true rfl) dL_law_578 (fun r2 Z2 h2 => ?_)
      obtain ⟨rfl, hI2⟩ := hQ r2 Z2 h2
      refine j_icmp_eq (tgt := 798) (a := r1.toInt) (b := r1.toInt) C rfl rfl dL_law_581 (by decide) (fun _ => ?_) (fun c => absurd rfl c)
      exact hback _ _ (by omega) (by omega) Z2 hI2
    · refine j_top e39 ?_
      refine j_tableIn (tgt := 586) C dL_law_39 (by decide) (by decide) rfl (by decide) ?_
      refine j_aload_n C 3 dL_law_586 rfl rfl ?_
      refine j_aload_n C 4 dL_law_587 rfl rfl ?_
      refine j_iload C 0 dL_law_588 rfl ?_
      refine j_iconst C (nI 1) dL_law_590 (by decide) ?_
      refine j_iadd C (nI (5 * d + 1)) dL_law_591 (nI_add (5 * d) 1) ?_
      refine j_sld hE (by omega) dL_law_592 ?_
      refine j_aload_n C 4 dL_law_593 rfl rfl ?_
      refine j_iload C 0 dL_law_594 rfl ?_
      refine j_iconst C (nI 2) dL_law_596 (by decide) ?_
      refine j_iadd C (nI (5 * d + 2)) dL_law_597 (nI_add (5 * d) 2) ?_
      refine j_sld hE (by omega) dL_law_598 ?_
      refine j_aload_n C 1 dL_law_599 rfl rfl ?_
      obtain ⟨P, hM1, hP1⟩ := op_number hE.2.2.2.2.2.2.1 hI (xs (5 * d + 1)) (xs (5 * d + 2))
      refine j_callSL (lev := 20) (As := [.ref (G.2.1 0), .int (xs (5 * d + 1)), .int (xs (5 * d + 2)), .ref (G.2.1 132)]) (post := P) C (hE.ok (by omega) (by omega)) hE.2.2.2.2.2.1.1 hE.2.2.2.2.2.1.2 (hM1 _ _ _ G hD hG) [] zl_num.1 zl_num.2.1 zl_num.2.2 zk_L_84 zl_numd (by decide) (by decide) rfl rfl (Nat.le_of_ble_eq_true rfl) dL_law_600 (fun r1 Z1 h1 => ?_)
      obtain ⟨Q, hM2, hQ⟩ := hP1 r1 Z1 h1
      refine j_istore (lv' := [(5, .int r1), (4, .int (nI (5 * d))), (3, .ref (G.2.1 132)), (2, .ref (G.2.1 113)), (1, .ref (G.2.1 0)), (0, .ref b)]) C dL_law_603 (by rw [hN]; decide) rfl ?_
      refine j_aload_n C 3 dL_law_605 rfl rfl ?_
      refine j_aload_n C 5 dL_law_606 rfl rfl ?_
      refine j_iload C 1 dL_law_607 rfl ?_
      refine j_iconst C (nI 1) dL_law_609 (by decide) ?_
      refine j_iadd C (nI (5 * d + 1)) dL_law_610 (nI_add (5 * d) 1) ?_
      refine j_sld hE (by omega) dL_law_611 ?_
      refine j_aload_n C 5 dL_law_612 rfl rfl ?_
      refine j_iload C 1 dL_law_613 rfl ?_
      refine j_iconst C (nI 2) dL_law_615 (by decide) ?_
      refine j_iadd C (nI (5 * d + 2)) dL_law_616 (nI_add (5 * d) 2) ?_
      refine j_sld hE (by omega) dL_law_617 ?_
      refine j_callIX (lev := 20) (As := [.int (xs (5 * d + 1)), .int (xs (5 * d + 2))]) (post := Q) C (hE.ok (by omega) (by omega)) (hM2 _ _ _ G hD hG2) [] zmX5_number zk_L_89 zK5 (zb_M hG2) (zs_M hG2) (by decide) rfl rfl (Nat.le_of_ble_eq_true rfl) dL_law_618 (fun r2 Z2 h2 => ?_)
      obtain ⟨hf, ho, hI2⟩ := hQ r2 Z2 h2
      refine j_istore (lv' := [(6, .int r2), (5, .int r1), (4, .int (nI (5 * d))), (3, .ref (G.2.1 132)), (2, .ref (G.2.1 113)), (1, .ref (G.2.1 0)), (0, .ref b)]) C dL_law_621 (by rw [hN]; decide) rfl ?_
      refine j_aload_n C 4 dL_law_623 rfl rfl ?_
      refine j_callIX (lev := 20) (As := []) C (hE.ok (by omega) (by omega)) (kX5_thrown hD hG2) [] zmX5_thrown zk_L_90 zK5 (zb_M hG2) (zs_M hG2) (by decide) rfl rfl (Nat.le_of_ble_eq_true rfl) dL_law_624 (fun r3 Z3 h3 => ?_)
      obtain ⟨e3, rfl⟩ := h3
      refine j_Z e3 ?_
      refine j_iload C 1 dL_law_627 rfl ?_
      refine j_icmp_eq (tgt := 634) (a := r1.toInt) (b := r1.toInt) C (by rw [hf]) rfl dL_law_629 (by decide) (fun _ => ?_) (fun c => absurd rfl c)
      refine j_iload C 1 dL_law_634 rfl ?_
      refine j_if_ne (tgt := 651) (a := r1.toInt) C rfl dL_law_636 (by decide) (fun c => ?_) (fun c => ?_)
      · refine j_sub (lv' := [(4, .int (nI (5 * d))), (3, .ref (G.2.1 132)), (2, .ref (G.2.1 113)), (1, .ref (G.2.1 0)), (0, .ref b)]) [2, 3, 4, 5, 6] rfl ?_
        refine j_goto (tgt := 798) C dL_law_651 (by decide) ?_
        exact hback _ _ (by omega) (by omega) Z2 hI2
      · refine j_aload_n C 3 dL_law_639 rfl rfl ?_
        refine j_iconst C (nI 0) dL_law_640 (by decide) ?_
        refine j_lald C (zb_Out hG) (zs_Out hG) (zl_Out hG) rfl (by decide) (by decide) dL_law_641 ?_
        refine j_iload C 0 dL_law_642 rfl ?_
        refine j_i2l C dL_law_644 ?_
        refine j_lcmp C 0 dL_law_645 (by rw [ho (by omega)]; exact lg_self _) ?_
        refine j_if_eq (tgt := 651) (a := 0) C (by decide) dL_law_646 (by decide) (fun _ => ?_) (fun c => absurd rfl c)
        refine j_sub (lv' := [(4, .int (nI (5 * d))), (3, .ref (G.2.1 132)), (2, .ref (G.2.1 113)), (1, .ref (G.2.1 0)), (0, .ref b)]) [2, 3, 4, 5, 6] rfl ?_
        refine j_goto (tgt := 798) C dL_law_651 (by decide) ?_
        exact hback _ _ (by omega) (by omega) Z2 hI2
    · refine j_top e39 ?_
      refine j_tableIn (tgt := 654) C dL_law_39 (by decide) (by decide) rfl (by decide) ?_
      refine j_aload_n C 3 dL_law_654 rfl rfl ?_
      refine j_aload_n C 4 dL_law_655 rfl rfl ?_
      refine j_iload C 0 dL_law_656 rfl ?_
      refine j_iconst C (nI 1) dL_law_658 (by decide) ?_
      refine j_iadd C (nI (5 * d + 1)) dL_law_659 (nI_add (5 * d) 1) ?_
      refine j_sld hE (by omega) dL_law_660 ?_
      refine j_aload_n C 4 dL_law_661 rfl rfl ?_
      refine j_iload C 0 dL_law_662 rfl ?_
      refine j_iconst C (nI 2) dL_law_664 (by decide) ?_
      refine j_iadd C (nI (5 * d + 2)) dL_law_665 (nI_add (5 * d) 2) ?_
      refine j_sld hE (by omega) dL_law_666 ?_
      obtain ⟨P, hM1, hP1⟩ := op_aside hI (xs (5 * d + 1)) (xs (5 * d + 2))
      refine j_callIX (lev := 20) (As := [.int (xs (5 * d + 1)), .int (xs (5 * d + 2))]) (post := P) C (hE.ok (by omega) (by omega)) (hM1 _ _ _ _ G hD hG1) [] zmX4_aside zk_L_93 zK4 (zb_X hG1) (zs_X hG1) (by decide) rfl rfl (Nat.le_of_ble_eq_true rfl) dL_law_667 (fun r1 Z1 h1 => ?_)
      obtain ⟨Q, hM2, hQ⟩ := hP1 r1 Z1 h1
      refine j_aload_n C 2 dL_law_670 rfl rfl ?_
      refine j_aload_n C 4 dL_law_671 rfl rfl ?_
      refine j_iload C 0 dL_law_672 rfl ?_
      refine j_iconst C (nI 1) dL_law_674 (by decide) ?_
      refine j_iadd C (nI (5 * d + 1)) dL_law_675 (nI_add (5 * d) 1) ?_
      refine j_sld hE (by omega) dL_law_676 ?_
      refine j_aload_n C 4 dL_law_677 rfl rfl ?_
      refine j_iload C 0 dL_law_678 rfl ?_
      refine j_iconst C (nI 2) dL_law_680 (by decide) ?_
      refine j_iadd C (nI (5 * d + 2)) dL_law_681 (nI_add (5 * d) 2) ?_
      refine j_sld hE (by omega) dL_law_682 ?_
      refine j_callIX (lev := 20) (As := [.int (xs (5 * d + 1)), .int (xs (5 * d + 2))]) (post := Q) C (hE.ok (by omega) (by omega)) (hM2 _ _ _ _ G hD hG2) [.int r1] zmX5_aside zk_L_96 zK5 (zb_M hG2) (zs_M hG2) (by decide) rfl rfl (Nat.le_of_ble_eq_true rfl) dL_law_683 (fun r2 Z2 h2 => ?_)
      obtain ⟨rfl, hI2⟩ := hQ r2 Z2 h2
      refine j_icmp_eq (tgt := 798) (a := r1.toInt) (b := r1.toInt) C rfl rfl dL_law_686 (by decide) (fun _ => ?_) (fun c => absurd rfl c)
      exact hback _ _ (by omega) (by omega) Z2 hI2
    · refine j_top e39 ?_
      refine j_tableIn (tgt := 691) C dL_law_39 (by decide) (by decide) rfl (by decide) ?_
      refine j_aload_n C 3 dL_law_691 rfl rfl ?_
      refine j_aload_n C 4 dL_law_692 rfl rfl ?_
      refine j_iload C 0 dL_law_693 rfl ?_
      refine j_iconst C (nI 1) dL_law_695 (by decide) ?_
      refine j_iadd C (nI (5 * d + 1)) dL_law_696 (nI_add (5 * d) 1) ?_
      refine j_sld hE (by omega) dL_law_697 ?_
      refine j_aload_n C 1 dL_law_698 rfl rfl ?_
      obtain ⟨P, hM1, hP1⟩ := op_rate hE.2.2.2.2.2.2.1 hI (xs (5 * d + 1))
      refine j_callSL (lev := 20) (As := [.ref (G.2.1 0), .int (xs (5 * d + 1)), .ref (G.2.1 132)]) (post := P) C (hE.ok (by omega) (by omega)) hE.2.2.2.2.2.1.1 hE.2.2.2.2.2.1.2 (hM1 _ _ _ G hD hG) [] zl_rat.1 zl_rat.2.1 zl_rat.2.2 zk_L_97 zl_ratd (by decide) (by decide) rfl rfl (Nat.le_of_ble_eq_true rfl) dL_law_699 (fun r1 Z1 h1 => ?_)
      obtain ⟨Q, hM2, hQ⟩ := hP1 r1 Z1 h1
      refine j_istore (lv' := [(5, .int r1), (4, .int (nI (5 * d))), (3, .ref (G.2.1 132)), (2, .ref (G.2.1 113)), (1, .ref (G.2.1 0)), (0, .ref b)]) C dL_law_702 (by rw [hN]; decide) rfl ?_
      refine j_aload_n C 3 dL_law_704 rfl rfl ?_
      refine j_aload_n C 5 dL_law_705 rfl rfl ?_
      refine j_iload C 1 dL_law_706 rfl ?_
      refine j_iconst C (nI 1) dL_law_708 (by decide) ?_
      refine j_iadd C (nI (5 * d + 1)) dL_law_709 (nI_add (5 * d) 1) ?_
      refine j_sld hE (by omega) dL_law_710 ?_
      refine j_callIX (lev := 20) (As := [.int (xs (5 * d + 1))]) (post := Q) C (hE.ok (by omega) (by omega)) (hM2 _ _ _ G hD hG2) [] zmX5_rate zk_L_100 zK5 (zb_M hG2) (zs_M hG2) (by decide) rfl rfl (Nat.le_of_ble_eq_true rfl) dL_law_711 (fun r2 Z2 h2 => ?_)
      obtain ⟨hf, ho, hI2⟩ := hQ r2 Z2 h2
      refine j_istore (lv' := [(6, .int r2), (5, .int r1), (4, .int (nI (5 * d))), (3, .ref (G.2.1 132)), (2, .ref (G.2.1 113)), (1, .ref (G.2.1 0)), (0, .ref b)]) C dL_law_714 (by rw [hN]; decide) rfl ?_
      refine j_aload_n C 4 dL_law_716 rfl rfl ?_
      refine j_callIX (lev := 20) (As := []) C (hE.ok (by omega) (by omega)) (kX5_thrown hD hG2) [] zmX5_thrown zk_L_90 zK5 (zb_M hG2) (zs_M hG2) (by decide) rfl rfl (Nat.le_of_ble_eq_true rfl) dL_law_717 (fun r3 Z3 h3 => ?_)
      obtain ⟨e3, rfl⟩ := h3
      refine j_Z e3 ?_
      refine j_iload C 1 dL_law_720 rfl ?_
      refine j_icmp_eq (tgt := 727) (a := r1.toInt) (b := r1.toInt) C (by rw [hf]) rfl dL_law_722 (by decide) (fun _ => ?_) (fun c => absurd rfl c)
      refine j_iload C 1 dL_law_727 rfl ?_
      refine j_if_ne (tgt := 744) (a := r1.toInt) C rfl dL_law_729 (by decide) (fun c => ?_) (fun c => ?_)
      · refine j_sub (lv' := [(4, .int (nI (5 * d))), (3, .ref (G.2.1 132)), (2, .ref (G.2.1 113)), (1, .ref (G.2.1 0)), (0, .ref b)]) [2, 3, 4, 5, 6] rfl ?_
        refine j_goto (tgt := 798) C dL_law_744 (by decide) ?_
        exact hback _ _ (by omega) (by omega) Z2 hI2
      · refine j_aload_n C 3 dL_law_732 rfl rfl ?_
        refine j_iconst C (nI 0) dL_law_733 (by decide) ?_
        refine j_lald C (zb_Out hG) (zs_Out hG) (zl_Out hG) rfl (by decide) (by decide) dL_law_734 ?_
        refine j_iload C 0 dL_law_735 rfl ?_
        refine j_i2l C dL_law_737 ?_
        refine j_lcmp C 0 dL_law_738 (by rw [ho (by omega)]; exact lg_self _) ?_
        refine j_if_eq (tgt := 744) (a := 0) C (by decide) dL_law_739 (by decide) (fun _ => ?_) (fun c => absurd rfl c)
        refine j_sub (lv' := [(4, .int (nI (5 * d))), (3, .ref (G.2.1 132)), (2, .ref (G.2.1 113)), (1, .ref (G.2.1 0)), (0, .ref b)]) [2, 3, 4, 5, 6] rfl ?_
        refine j_goto (tgt := 798) C dL_law_744 (by decide) ?_
        exact hback _ _ (by omega) (by omega) Z2 hI2
    · refine j_top e39 ?_
      refine j_tableIn (tgt := 747) C dL_law_39 (by decide) (by decide) rfl (by decide) ?_
      refine j_aload_n C 3 dL_law_747 rfl rfl ?_
      obtain ⟨P, hM1, hP1⟩ := op_water hI
      refine j_callIX (lev := 20) (As := []) (post := P) C (hE.ok (by omega) (by omega)) (hM1 _ _ _ _ G hD hG1) [] zmX4_water zk_L_101 zK4 (zb_X hG1) (zs_X hG1) (by decide) rfl rfl (Nat.le_of_ble_eq_true rfl) dL_law_748 (fun r1 Z1 h1 => ?_)
      obtain ⟨Q, hM2, hQ⟩ := hP1 r1 Z1 h1
      refine j_aload_n C 2 dL_law_751 rfl rfl ?_
      refine j_callIX (lev := 20) (As := []) (post := Q) C (hE.ok (by omega) (by omega)) (hM2 _ _ _ _ G hD hG2) [.int r1] zmX5_water zk_L_104 zK5 (zb_M hG2) (zs_M hG2) (by decide) rfl rfl (Nat.le_of_ble_eq_true rfl) dL_law_752 (fun r2 Z2 h2 => ?_)
      obtain ⟨rfl, hI2⟩ := hQ r2 Z2 h2
      refine j_icmp_eq (tgt := 798) (a := r1.toInt) (b := r1.toInt) C rfl rfl dL_law_755 (by decide) (fun _ => ?_) (fun c => absurd rfl c)
      exact hback _ _ (by omega) (by omega) Z2 hI2
    · refine j_top e39 ?_
      refine j_tableIn (tgt := 760) C dL_law_39 (by decide) (by decide) rfl (by decide) ?_
      refine j_aload_n C 3 dL_law_760 rfl rfl ?_
      refine j_aload_n C 4 dL_law_761 rfl rfl ?_
      refine j_iload C 0 dL_law_762 rfl ?_
      refine j_iconst C (nI 1) dL_law_764 (by decide) ?_
      refine j_iadd C (nI (5 * d + 1)) dL_law_765 (nI_add (5 * d) 1) ?_
      refine j_sld hE (by omega) dL_law_766 ?_
      obtain ⟨P, hM1, hP1⟩ := op_count hI (xs (5 * d + 1))
      refine j_callIX (lev := 20) (As := [.int (xs (5 * d + 1))]) (post := P) C (hE.ok (by omega) (by omega)) (hM1 _ _ _ _ G hD hG1) [] zmX4_count zk_L_105 zK4 (zb_X hG1) (zs_X hG1) (by decide) rfl rfl (Nat.le_of_ble_eq_true rfl) dL_law_767 (fun r1 Z1 h1 => ?_)
      obtain ⟨Q, hM2, hQ⟩ := hP1 r1 Z1 h1
      refine j_aload_n C 2 dL_law_770 rfl rfl ?_
      refine j_aload_n C 4 dL_law_771 rfl rfl ?_
      refine j_iload C 0 dL_law_772 rfl ?_
      refine j_iconst C (nI 1) dL_law_774 (by decide) ?_
      refine j_iadd C (nI (5 * d + 1)) dL_law_775 (nI_add (5 * d) 1) ?_
      refine j_sld hE (by omega) dL_law_776 ?_
      refine j_callIX (lev := 20) (As := [.int (xs (5 * d + 1))]) (post := Q) C (hE.ok (by omega) (by omega)) (hM2 _ _ _ _ G hD hG2) [.int r1] zmX5_count zk_L_108 zK5 (zb_M hG2) (zs_M hG2) (by decide) rfl rfl (Nat.le_of_ble_eq_true rfl) dL_law_777 (fun r2 Z2 h2 => ?_)
      obtain ⟨rfl, hI2⟩ := hQ r2 Z2 h2
      refine j_icmp_eq (tgt := 798) (a := r1.toInt) (b := r1.toInt) C rfl rfl dL_law_780 (by decide) (fun _ => ?_) (fun c => absurd rfl c)
      exact hback _ _ (by omega) (by omega) Z2 hI2
    · refine j_top e39 ?_
      refine j_tableIn (tgt := 785) C dL_law_39 (by decide) (by decide) rfl (by decide) ?_
      refine j_aload_n C 3 dL_law_785 rfl rfl ?_
      obtain ⟨P, hM1, hP1⟩ := op_clear hI
      refine j_callIX (lev := 20) (As := []) (post := P) C (hE.ok (by omega) (by omega)) (hM1 _ _ _ _ G hD hG1) [] zmX4_clear zk_L_109 zK4 (zb_X hG1) (zs_X hG1) (by decide) rfl rfl (Nat.le_of_ble_eq_true rfl) dL_law_786 (fun r1 Z1 h1 => ?_)
      obtain ⟨Q, hM2, hQ⟩ := hP1 r1 Z1 h1
      refine j_aload_n C 2 dL_law_789 rfl rfl ?_
      refine j_callIX (lev := 20) (As := []) (post := Q) C (hE.ok (by omega) (by omega)) (hM2 _ _ _ _ G hD hG2) [.int r1] zmX5_clear zk_L_112 zK5 (zb_M hG2) (zs_M hG2) (by decide) rfl rfl (Nat.le_of_ble_eq_true rfl) dL_law_790 (fun r2 Z2 h2 => ?_)
      obtain ⟨rfl, hI2⟩ := hQ r2 Z2 h2
      refine j_icmp_eq (tgt := 798) (a := r1.toInt) (b := r1.toInt) C rfl rfl dL_law_793 (by decide) (fun _ => ?_) (fun c => absurd rfl c)
      exact hback _ _ (by omega) (by omega) Z2 hI2
    · refine j_tableOut (tgt := 798) C dL_law_39 c39 (by decide) ?_
      exact hback _ _ (by omega) (by omega) Z (hI.up (by omega))
