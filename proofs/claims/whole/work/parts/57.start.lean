/-! THE LAW FROM ITS ENTRY -/
def G00 : GT := (0, fun _ => 0, fun _ => 0, fun _ => 0, fun _ _ => none)
theorem gb_0 {b0 : Nat} : GB b0 0 (vQ 0 0 0 0 0 0 0) G00 := ⟨rfl, fun c hc => absurd hc (Nat.not_lt_zero c), ⟨fun i j hi => absurd hi (Nat.not_lt_zero i), fun i hi => absurd hi (Nat.not_lt_zero i)⟩, fun c f t hc => absurd hc (Nat.not_lt_zero c)⟩
set_option maxRecDepth 100000 in
set_option maxHeartbeats 4000000 in
theorem law_start {E : ET} {b L : Nat} {xs : Nat → Int32} (hE : LE E b L xs) : J E 0 0 G00 0 [(0, .ref b)] [] z00 := by
  have C := hE.1
  have hN := hE.2.2.1.2.2.2
  have hR := hE.2.1
  have h0 : e0 E ≤ (eS E).heap.size := Nat.le_of_eq hE.2.2.1.2.2.1
  have hAO := hE.2.2.2.2.2.2.2
  refine j_newO (K := 0) C zK4 zd_X4 gb_0 h0 zk_L_8 zi_X4.1 zi_X4.2 (by decide) (by decide) (by decide) (fun _ => rfl) (by rw [hR]; show 0 + 1 ≤ 603072; decide) (by rw [hR]; show 0 + 8 ≤ 7182441; decide) dL_law_0 ?_
  intro G1 hB1 hA1
  refine j_dup C dL_law_3 rfl ?_
  refine j_callNL (lev' := 3) C ⟨h0, hAO⟩ (kX4_init hB1 (fun _ _ _ => rfl)) [.ref (G1.2.1 0)] zmX4_init zq_X4 rfl zk_L_21 (by decide) (by rw [hR]; decide) (by rw [hR]; show 0 + 1 + 112 ≤ 603072; decide) (by rw [hR]; show 0 + 8 + 5280 ≤ 7182441; decide) rfl (Nat.le_of_ble_eq_true rfl) dL_law_4 ?_
  intro G2 Z2 h2
  obtain ⟨e2, hB2, hA2⟩ := h2
  replace e2 : Z2 = zB0 := e2
  subst e2
  rw [← hA2]
  obtain ⟨a0, ha0⟩ : ∃ a, G2.2.1 0 = a := ⟨_, rfl⟩
  rw [ha0]
  refine j_astore_n (lv' := [(1, .ref a0), (0, .ref b)]) C dL_law_7 rfl (by rw [hN]; decide) rfl ?_
  refine j_newO (K := 113) C zK5 zd_X5 hB2 h0 zk_L_22 zi_X5.1 zi_X5.2 (by decide) (by decide) (by decide) (zB0_o 113 (by decide)) (by rw [hR]; show 0 + 1 + 112 + 1 ≤ 603072; decide) (by rw [hR]; show 0 + 8 + 5280 + 26 ≤ 7182441; decide) dL_law_8 ?_
  intro G3 hB3 hA3
  refine j_dup C dL_law_11 rfl ?_
  refine j_callNL (lev' := 1) C ⟨h0, hAO⟩ (kX5_init hB3 (fun i hi => vQ_h (by omega) (by omega)) (by decide +kernel) zB0_o) [.ref (G3.2.1 113)] zmX5_init zq_X5 rfl zk_L_24 (by decide) (by rw [hR]; decide) (by rw [hR]; show 0 + 1 + 112 + 1 + 18 ≤ 603072; decide) (by rw [hR]; show 0 + 8 + 5280 + 26 + 5161 ≤ 7182441; decide) rfl (Nat.le_of_ble_eq_true rfl) dL_law_12 ?_
  intro G4 Z4 h4
  obtain ⟨e4, hB4, hA4⟩ := h4
  replace e4 : Z4 = zS0 := e4
  subst e4
  rw [← hA4 113 (by decide)]
  obtain ⟨a1, ha1⟩ : ∃ a, G4.2.1 113 = a := ⟨_, rfl⟩
  rw [ha1]
  refine j_astore_n (lv' := [(2, .ref a1), (1, .ref a0), (0, .ref b)]) C dL_law_15 rfl (by rw [hN]; decide) rfl ?_
  refine j_iconst C (nI 1) dL_law_16 (by decide) ?_
  refine j_newL (K := 132) (n := 1) C hB4 h0 (by rw [va_up_ne _ _ (by decide)]; decide) (by decide) (by decide) (fun f => ?_) (by decide) (by rw [hR]; show 0 + 1 + 112 + 1 + 18 + 1 ≤ 603072; decide) (by rw [hR]; show 0 + 8 + 5280 + 26 + 5161 + 1 ≤ 7182441; decide) dL_law_17 ?_
  · unfold zS0
    rw [zfill_o (by omega), zu_o (by omega)]
    exact zB0_o 132 (by decide) f
  intro G5 hB5 hA5
  have q0 : G5.2.1 0 = a0 := (hA5 0 (by decide)).trans ((hA4 0 (by decide)).trans ((hA3 0 (by decide)).trans ha0))
  have q1 : G5.2.1 113 = a1 := (hA5 113 (by decide)).trans ha1
  rw [← q0, ← q1]
  refine j_astore_n (lv' := [(3, .ref (G5.2.1 132)), (2, .ref (G5.2.1 113)), (1, .ref (G5.2.1 0)), (0, .ref b)]) C dL_law_19 rfl (by rw [hN]; decide) rfl ?_
  refine j_iconst C (nI 0) dL_law_20 (by decide) ?_
  refine j_istore (lv' := [(4, .int (nI 0)), (3, .ref (G5.2.1 132)), (2, .ref (G5.2.1 113)), (1, .ref (G5.2.1 0)), (0, .ref b)]) C dL_law_21 (by rw [hN]; decide) rfl ?_
  refine j_wid (ce' := 133 + 0) (sl' := 10476 + 8 * 0) (by decide) (by decide) ?_
  exact law_loop hE hB5.2.2.1 (hB5.ok (by decide +kernel)) 514 0 zS0 (by omega) (by omega) inv_0
theorem zc_0 {Y : YT} {Z : ZT} : zc G00 Y Z = [] := rfl
set_option maxRecDepth 100000 in
set_option maxHeartbeats 4000000 in
/-- from the entry, for every script of at most 2560 ints, the law comes to its end with true -/
theorem whole_start {p : Program} {e : Env} {s : State} {m : MethodId} {below : List Frame} {meth : Method} {c : Code} (l : Launch) (hst : l.stackTraces = false) {b L : Nat} {xs : Nat → Int32} (hL : L ≤ 2560) (C0 : lw_At p s m meth c b L xs) : W p l e room_1 s m #[Value.ref b] below meth c s.heap [] 0 0 (lw_Z below #[Value.ref b] s) (entryFrame m ([Value.ref b] : List Value).toArray 7) := by
  obtain ⟨hx, hb, hr, hml, hown, hts, hX, hbl, hlocks, hgv⟩ := id C0
  have hs := flat_of_before _ hgv
  have htg : ∀ w ∈ zw_good, w.before #[Value.ref b] s = true := fun w hw => hts w (List.mem_filter.mp hw).1
  obtain ⟨c0, i0, k0⟩ := u_known (C := RX0) (T := TX0) (N := 6) (n := 6) htg zK0.2.1 (htg _ zi_X0.1)
  obtain ⟨c1, i1, k1⟩ := u_known (C := RX1) (T := TX1) (N := 5) (n := 5) htg zK1.2.1 (htg _ zi_X1.1)
  obtain ⟨c2, i2, k2⟩ := u_known (C := RX2) (T := TX2) (N := 6) (n := 6) htg zK2.2.1 (htg _ zi_X2.1)
  obtain ⟨c3, i3, k3⟩ := u_known (C := RX3) (T := TX3) (N := 11) (n := 11) htg zK3.2.1 (htg _ zi_X3.1)
  obtain ⟨c4, i4, k4⟩ := u_known (C := RX4) (T := TX4) (N := 8) (n := 8) htg zK4.2.1 (htg _ zi_X4.1)
  obtain ⟨c5, i5, k5⟩ := u_known (C := RX5) (T := TX5) (N := 26) (n := 26) htg zK5.2.1 (htg _ zi_X5.1)
  obtain ⟨dC, dI, hKc⟩ : ∃ (dC : Nat → ClassId) (dI : Nat → Nat → Nat), ∀ (k : Nat) (q : vw_C), zcl[k]? = some q → u_Kn s q.1 q.2.1 q.2.2 (dC k) (dI k) := by
    refine ⟨fun k => match k with | 0 => c0 | 1 => c1 | 2 => c2 | 3 => c3 | 4 => c4 | _ => c5, fun k => match k with | 0 => i0 | 1 => i1 | 2 => i2 | 3 => i3 | 4 => i4 | _ => i5, ?_⟩
    intro k q hq
    match k, hq with
    | 0, hq => cases hq; exact k0
    | 1, hq => cases hq; exact k1
    | 2, hq => cases hq; exact k2
    | 3, hq => cases hq; exact k3
    | 4, hq => cases hq; exact k4
    | 5, hq => cases hq; exact k5
    | k + 6, hq => simp [zcl] at hq
  obtain ⟨cI, kI, compI, f1, f2, f3⟩ := Cond.arrayClass_spec (htg _ zw_aI)
  obtain ⟨cZ, kZ, compZ, g1, g2, g3⟩ := Cond.arrayClass_spec (htg _ zw_aZ)
  obtain ⟨cJ, kJ, compJ, j1, j2, j3⟩ := Cond.arrayClass_spec (htg _ zw_aL)
  have hAP : (Cond.arrayOver (.object RX3)).before #[Value.ref b] s = true := hts _ (by decide +kernel)
  have hAM : (Cond.arrayOver (.object RX2)).before #[Value.ref b] s = true := hts _ (by decide +kernel)
  obtain ⟨compP, cP, kP, p1, -, p2, p3, p4⟩ := Cond.arrayOver_spec hAP
  obtain ⟨compM, cM, kM, m1, -, m2, m3, m4⟩ := Cond.arrayOver_spec hAM
  have hK : va_K (dC, dI) zcl (zty (cI, cZ, cP, cM, cJ)) s := by
    refine ⟨hKc, fun k q hq => ?_⟩
    match k, hq with
    | 0, hq => cases hq; exact ⟨fun N z => ⟨(fun k h => by cases h), kI, f2, compI, f3⟩, f1⟩
    | 1, hq => cases hq; exact ⟨fun N z => ⟨(fun k h => by cases h), kZ, g2, compZ, g3⟩, g1⟩
    | 2, hq => cases hq; exact ⟨fun N z => ⟨(fun k h => by cases h), kP, p2, compP, p3⟩, kP, compP, p2, p3, p1, p4⟩
    | 3, hq => cases hq; exact ⟨fun N z => ⟨(fun k h => by cases h), kM, m2, compM, m3⟩, kM, compM, m2, m3, m1, m4⟩
    | 4, hq => cases hq; exact ⟨fun N z => ⟨(fun k h => by cases h), kJ, j2, compJ, j3⟩, j1⟩
    | k + 5, hq => simp [zty] at hq
  have hnA : ∀ a : Nat, a < s.heap.size → ¬ (fun q : Nat => s.heap.size ≤ q) a := fun a ha => Nat.not_le.mpr ha
  have hit : (Cond.initialized Bundle.tN).before #[Value.ref b] s = true := hts _ (by decide +kernel)
  obtain ⟨sa1, -, -, -, v1, -⟩ := Cond.exactly_spec (show (Cond.exactly (.string RX4 154) "java/lang/String").before #[Value.ref b] s = true from hs _ (by decide +kernel))
  obtain ⟨sa2, -, -, -, v2, -⟩ := Cond.exactly_spec (show (Cond.exactly (.string RX4 161) "java/lang/String").before #[Value.ref b] s = true from hs _ (by decide +kernel))
  obtain ⟨sa3, -, -, -, v3, -⟩ := Cond.exactly_spec (show (Cond.exactly (.string RX4 176) "java/lang/String").before #[Value.ref b] s = true from hs _ (by decide +kernel))
  have hXt : zXt s.heap.size s := ⟨fun w hw => zw_faceAt (State.WarmedH.refl s) hw (hts w (List.mem_filter.mp hw).1), vx_Zqof (hts _ (by decide +kernel)) hit (hs _ (by decide +kernel)) hnA, vx_Zqof (hts _ (by decide +kernel)) hit (hs _ (by decide +kernel)) hnA, ⟨sa1, vk_R.of (hts (.stringRef RX4 154 "no such part, or the place is not 0 .. 39") (by decide +kernel)) v1⟩, ⟨sa2, vk_R.of (hts (.stringRef RX4 161 "no row is there") (by decide +kernel)) v2⟩, ⟨sa3, vk_R.of (hts (.stringRef RX4 176 "no task reads the part") (by decide +kernel)) v3⟩⟩
  have hNc : va_Nc Bundle.nN zxA s := va_Nc.of (args := #[Value.ref b]) (hs _ (by decide +kernel))
  have hE : LE ((p, l, e, room_1, s, m, #[Value.ref b], below, meth, c), (dC, dI), (cI, cZ, cP, cM, cJ), s.heap.size, 7, lw_Z below #[Value.ref b] s) b L xs :=
    ⟨⟨hx, hb, hml, hown, htg, fun w hw => va_tabs (zw_on hw) rfl (hts w (List.mem_filter.mp hw).1), hK⟩, rfl, ⟨rfl, rfl, rfl, rfl⟩, ⟨hX, hbl, hL⟩, ⟨hr, hlocks⟩, ⟨hXt, hNc⟩, hst, va_AO.of hAP, va_AO.of hAM⟩
  have hl := lv_entry ([.ref b]) (n := 7) (Nat.le_of_ble_eq_true rfl)
  rw [lg_entry_eq]
  have hl2 : lv_has (lg_sl ([.ref b]) ++ List.replicate (7 - (lg_sl ([.ref b])).length) Slot.unset).toArray 7 [(0, .ref b)] := hl
  exact law_start hE s.heap [] _ (fun k q h => by rw [zc_0] at h; simp at h) va_S.rf hl2
set_option maxHeartbeats 4000000 in
theorem lw_walk (l : Launch) (hst : l.stackTraces = false) (b : Addr) (xs : List Int32) : MetFree l x (headSpec (Jvm.Cond.code x code maxLocals ret :: tables_1) room_1) (lw_P b xs) (fun _ _ _ _ _ => True) lw_Q := by
  refine MetFree.of_bodyS (code := code) (maxLocals := maxLocals) (ret := ret) (by decide) ?_ ?_
  · intro args s m h hn
    obtain ⟨meth, c, h1, h2, h3, h4, h5, h6, -, -⟩ := Cond.code_spec hn (atoms_spec (ws := Jvm.Cond.code x code maxLocals ret :: tables_1) h _ List.mem_cons_self)
    exact ⟨meth, c, h1, h2, h3, h4, h5, h6⟩
  · intro p e s m args below meth c s₁ B hml0 hP _
    obtain ⟨rfl, hx, hbd, hgv⟩ := hP
    obtain ⟨scr, harrAt, hlist, hof, hsmall⟩ := hx
    obtain ⟨hcb, hkn, -, -⟩ := State.arrayAt?_spec harrAt
    have hown : s.vm.findClass R_law = some m.cls := findClass_of_methodNamed B.named
    have hts0 : ∀ c ∈ (Jvm.Cond.code x code maxLocals ret :: tables_1), c.before #[Value.ref b] s = true := atoms_spec (ws := Jvm.Cond.code x code maxLocals ret :: tables_1) B.pre
    have hts : ∀ w ∈ lw_tbl, w.before #[Value.ref b] s = true := k2_hts_sels lw_privs (fun w hw => hts0 w (List.mem_cons_of_mem _ hw)) lw_privs_ok
    have hml : c.maxLocals = 7 := B.maxLocals_eq (hts0 _ List.mem_cons_self)
    have X₀ : Stand p l e room_1 s m #[Value.ref b] below meth c s₁ [] 0 0 := Stand.of_body B
    have hh0 : s₁.heap = s.heap := by rw [B.state]; rfl
    have hsz : scr.slots.size = xs.length := by rw [← Array.length_toList, hlist, List.length_map]
    have hval : ∀ j : Nat, j < xs.length → scr.slots[j]? = some (.int (xs.getD j 0)) := fun j hj => by
      rw [← Array.getElem?_toList, hlist]
      simp [hj]
    have hbl : b < s.heap.size := (Array.getElem?_eq_some_iff.mp hcb).1
    have hX : va_X b xs.length (fun j => xs.getD j 0) s s.heap := ⟨scr, hcb, hof, hkn, hsz, hval⟩
    have K : W p l e room_1 s m #[Value.ref b] below meth c s₁.heap [] 0 0 (lw_Z below #[Value.ref b] s) (entryFrame m ([Value.ref b] : List Value).toArray 7) := by
      rw [hh0]
      exact whole_start l hst hbd ⟨B.exec, B.bytes, B.returns, hml, hown, hts, hX, hbl, B.notSynchronized, hgv⟩
    obtain ⟨t, a1, o, b1, b2, b3⟩ := K s₁ rfl X₀
    exact ⟨t, o, a1, b1, b2, b3⟩
theorem lw_pre_spec {args : Array Value} {s : State} (h : (Jvm.Cond.and given_1 narrow_1).before args s = true) (hr : rest_1_c.before args s = true) : ∃ (b : Addr) (xs : List Int32), lw_P b xs args s := by
  have hs := flat_of_before _ h
  have hq := flat_of_before _ hr
  have hc : (Cond.count 1).before args s = true := hs _ (by decide +kernel)
  have harr : (Cond.arrayOf (.arg 0) .int).before args s = true := hs _ (by decide +kernel)
  have hle : (Cond.le (.length (.arg 0)) (.int 2560)).before args s = true := hs _ (by decide +kernel)
  have hlen : (Cond.isInt (.length (.arg 0))).before args s = true := hq _ (by decide +kernel)
  have hall : (Cond.all (.arg 0) (.isInt (.elem (.arg 0) (.index 0)))).before args s = true := hq _ (by decide +kernel)
  obtain ⟨b, xs, hb, hx⟩ := State.ints_of_pre rfl harr hlen hall
  have hsm : xs.length < 2 ^ 31 := hx.choose_spec.2.2.2
  have hev : (Term.length (.arg 0)).eval args s none [] s = some (.int xs.length.toInt32) := hx.length_eval hb
  have hv := Cond.le_ints hev (show (Term.int 2560).eval args s none [] s = some (.int 2560) from rfl)
  have hd : xs.length.toInt32 ≤ 2560 := by
    simpa [Cond.before, Cond.holds, hv] using hle
  have hN : xs.length ≤ 2560 := (Int32.ofNat_le_ofNat hsm (by decide)).mp (show Int32.ofNat xs.length ≤ Int32.ofNat 2560 from hd)
  exact ⟨b, xs, Cond.one_arg hc (show args[0]? = some (.ref b) from hb), hx, hN, h⟩
theorem lw_comes (l : Launch) (hst : l.stackTraces = false) : Comes l x (Jvm.Cond.code x code maxLocals ret :: tables_1) room_1 (fun tb e args s => Calls_1 tb e args s ∧ rest_1 tb e args s ∧ Pre_1 tb e args s)
    (fun _ _ args s o t => lw_Q args s o t) := by
  intro p e ha hc hk s m args below hf hfit hheap happ hpre
  obtain ⟨b, xs, hP⟩ := lw_pre_spec hpre.2.2 hpre.2.1
  obtain ⟨k, o, h1, h2, h3, hQ⟩ := lw_walk l hst b xs p e ha hc hk s m args below hf ((Spec.applies_iff_loose hf).mp happ).1 hP trivial
  exact ⟨k, o, h1, h2, h3, hQ⟩
theorem lw_frame {s t : State} {o : Outcome} {args : Array Value} (h : Framed s o t [] 603072 7182441) :
    Framed s o t (fieldLocs frame_1_writes args s ++ arrayLocs frame_1_arrays args s ++ staticLocs frame_1_statics s) 603072 7182441 := h
theorem lw_limb (L : Cond) (hL : ∀ (args : Array Value) (s t : State), L.after args s (.returned (some (.int 1))) t = true) :
    ArmFor flags0 classFile x code maxLocals ret World_1 tables_1 room_1 Calls_1 rest_1 Pre_1
      (fun tb e a s o t => postC L tb e a s o t ∧ Framed s o t (fieldLocs frame_1_writes a s ++ arrayLocs frame_1_arrays a s ++ staticLocs frame_1_statics s) 603072 7182441) := by
  intro l hfl _ _ p e ha hc hk s m args below hf hfit hheap happ hpre
  have hst : l.stackTraces = false := by
    unfold Launch.stackTraces
    rw [hfl]
    decide +kernel
  obtain ⟨k, o, h1, h2, h3, rfl, hF⟩ := lw_comes l hst p e ha hc hk s m args below hf hfit hheap happ hpre
  exact ⟨k, _, h1, h2, h3, hL args s _, lw_frame hF⟩
theorem i_vc : Claimed_1_1 ∧ Claimed_1_2 := ⟨lw_limb limb_1_1 (fun args s t => by simp [limb_1_1, Cond.after, Cond.holds, Cond.value]), lw_limb limb_1_2 (fun args s t => Cond.after_iff.mpr (by
  first | (rw [show limb_1_2 = Cond.eq .result (.int 1) from rfl, Cond.eq_ints (x := 1) (y := 1) rfl rfl]; simp; done) | (simp [limb_1_2, Cond.value, Term.eval]; done)))⟩
