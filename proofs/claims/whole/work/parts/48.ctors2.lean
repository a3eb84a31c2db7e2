set_option maxRecDepth 100000 in
set_option maxHeartbeats 4000000 in
theorem kX2_init {l : Launch} {D : va_G} {Y : YT} {b0 : Nat} {G : GT} {Z : ZT} {c : Nat} {v : Nat → Nat} (hB : GB b0 (c + 1) v G) (hv : ∀ i, c ≤ i → v i = 0) (hSH : SH c [(2, 6), (6, 12), (6, 12), (6, 12), (6, 12)]) (hSH2 : SH (c + 5) [(1, 5), (7, 256), (6, 100), (6, 100)]) (hRF : RF c 5) (hRF2 : RF (c + 5) 3) (hZ : ∀ i, c < i → ∀ f, Z i f = 0) : CN l D Y b0 G yX2_init cX2_init 1 2 8 509 [.ref (G.2.1 c)] Z (fun G' Z' => Z' = Z ∧ GB b0 (c + 9) (va_up (va_up (va_up v c 4) (c + 5) 3) c 5) G' ∧ ∀ i, i < c + 1 → G'.2.1 i = G.2.1 i) := by
  refine cn_start (lv0 := [(0, .ref (G.2.1 c))]) rfl rfl (Nat.le_of_ble_eq_true rfl) rfl ?_
  intro E C R hR hE hb hN
  subst hb
  have hs0 : sh0 c = 2 := (hSH 0 (by decide)).1
  obtain ⟨G0, hG0⟩ : ∃ g, g = G := ⟨_, rfl⟩
  rw [← hG0] at R
  obtain ⟨a, ha⟩ : ∃ a, G.2.1 c = a := ⟨_, rfl⟩
  rw [ha]
  have hA : ∀ i, i < c + 1 → G.2.1 i = G0.2.1 i := fun i _ => by rw [hG0]
  clear hG0
  refine j_aload_n C 0 dX2_init_0 rfl rfl ?_
  refine j_objInit C hR (by decide) zo_X2 dX2_init_1 ?_
  refine j_aload_n C 0 dX2_init_4 rfl rfl ?_
  refine j_bipush C (nI 12) dX2_init_5 (by decide) ?_
  refine j_newI (n := 12) C hB hE.2.1 (hv _ (by omega)) (hSH 1 (by decide)).1 (hSH 1 (by decide)).2 (hZ _ (by omega)) (by decide) (by rw [hR]; show 0 + 1 ≤ 8; decide) (by rw [hR]; show 0 + 12 ≤ 509; decide) dX2_init_7 ?_
  intro G1 hB1 hA1
  have ha1 : G1.2.1 c = a := (hA1 _ (by omega)).trans ha
  refine j_putR (c := c) (f := 0) C hE.1 zK2 hB1 (by omega) ha1 hs0 (by decide) (by decide) rfl zk_X2_9 rfl rfl (fun _ => rfl) (fun _ => rfl) (Nat.le_of_eq (hv _ (Nat.le_refl _))) (hRF 0 (by decide)) (by omega) (fun g _ h2 => absurd h2 (Nat.not_lt_zero g)) dX2_init_9 ?_
  intro G2 hB2 hA2
  have ha2 : G2.2.1 c = a := (hA2 _).trans ha1
  have hA3 : ∀ i, i < c + 1 → G2.2.1 i = G0.2.1 i := fun i hi => (hA2 i).trans ((hA1 i (by omega)).trans (hA i hi))
  clear hA hA1 hA2 ha1 hB1 hB ha
  revert hB2 ha2 hA3
  generalize G2 = G
  intro hB ha hA
  refine j_aload_n C 0 dX2_init_12 rfl rfl ?_
  refine j_bipush C (nI 12) dX2_init_13 (by decide) ?_
  refine j_newI (n := 12) C hB hE.2.1 (by rw [va_up_ne _ _ (by omega)]; exact hv _ (by omega)) (hSH 2 (by decide)).1 (hSH 2 (by decide)).2 (hZ _ (by omega)) (by decide) (by rw [hR]; show 1 + 1 ≤ 8; decide) (by rw [hR]; show 12 + 12 ≤ 509; decide) dX2_init_15 ?_
  intro G1 hB1 hA1
  have ha1 : G1.2.1 c = a := (hA1 _ (by omega)).trans ha
  refine j_putR (c := c) (f := 1) C hE.1 zK2 hB1 (by omega) ha1 hs0 (by decide) (by decide) rfl zk_X2_15 rfl rfl (fun _ => rfl) (fun _ => rfl) (Nat.le_trans (Nat.le_of_eq (va_up_self _ _ _)) (by decide)) (hRF 1 (by decide)) (by omega) (fun g h1 h2 => absurd h1 (by rw [va_up_self]; omega)) dX2_init_17 ?_
  intro G2 hB2 hA2
  have ha2 : G2.2.1 c = a := (hA2 _).trans ha1
  rw [va_up_up] at hB2
  have hA3 : ∀ i, i < c + 1 → G2.2.1 i = G0.2.1 i := fun i hi => (hA2 i).trans ((hA1 i (by omega)).trans (hA i hi))
  clear hA hA1 hA2 ha1 hB1 hB ha
  revert hB2 ha2 hA3
  generalize G2 = G
  intro hB ha hA
  refine j_aload_n C 0 dX2_init_20 rfl rfl ?_
  refine j_bipush C (nI 12) dX2_init_21 (by decide) ?_
  refine j_newI (n := 12) C hB hE.2.1 (by rw [va_up_ne _ _ (by omega)]; exact hv _ (by omega)) (hSH 3 (by decide)).1 (hSH 3 (by decide)).2 (hZ _ (by omega)) (by decide) (by rw [hR]; show 2 + 1 ≤ 8; decide) (by rw [hR]; show 24 + 12 ≤ 509; decide) dX2_init_23 ?_
  intro G1 hB1 hA1
  have ha1 : G1.2.1 c = a := (hA1 _ (by omega)).trans ha
  refine j_putR (c := c) (f := 2) C hE.1 zK2 hB1 (by omega) ha1 hs0 (by decide) (by decide) rfl zk_X2_18 rfl rfl (fun _ => rfl) (fun _ => rfl) (Nat.le_trans (Nat.le_of_eq (va_up_self _ _ _)) (by decide)) (hRF 2 (by decide)) (by omega) (fun g h1 h2 => absurd h1 (by rw [va_up_self]; omega)) dX2_init_25 ?_
  intro G2 hB2 hA2
  have ha2 : G2.2.1 c = a := (hA2 _).trans ha1
  rw [va_up_up] at hB2
  have hA3 : ∀ i, i < c + 1 → G2.2.1 i = G0.2.1 i := fun i hi => (hA2 i).trans ((hA1 i (by omega)).trans (hA i hi))
  clear hA hA1 hA2 ha1 hB1 hB ha
  revert hB2 ha2 hA3
  generalize G2 = G
  intro hB ha hA
  refine j_aload_n C 0 dX2_init_28 rfl rfl ?_
  refine j_bipush C (nI 12) dX2_init_29 (by decide) ?_
  refine j_newI (n := 12) C hB hE.2.1 (by rw [va_up_ne _ _ (by omega)]; exact hv _ (by omega)) (hSH 4 (by decide)).1 (hSH 4 (by decide)).2 (hZ _ (by omega)) (by decide) (by rw [hR]; show 3 + 1 ≤ 8; decide) (by rw [hR]; show 36 + 12 ≤ 509; decide) dX2_init_31 ?_
  intro G1 hB1 hA1
  have ha1 : G1.2.1 c = a := (hA1 _ (by omega)).trans ha
  refine j_putR (c := c) (f := 3) C hE.1 zK2 hB1 (by omega) ha1 hs0 (by decide) (by decide) rfl zk_X2_21 rfl rfl (fun _ => rfl) (fun _ => rfl) (Nat.le_trans (Nat.le_of_eq (va_up_self _ _ _)) (by decide)) (hRF 3 (by decide)) (by omega) (fun g h1 h2 => absurd h1 (by rw [va_up_self]; omega)) dX2_init_33 ?_
  intro G2 hB2 hA2
  have ha2 : G2.2.1 c = a := (hA2 _).trans ha1
  rw [va_up_up] at hB2
  have hA3 : ∀ i, i < c + 1 → G2.2.1 i = G0.2.1 i := fun i hi => (hA2 i).trans ((hA1 i (by omega)).trans (hA i hi))
  clear hA hA1 hA2 ha1 hB1 hB ha
  revert hB2 ha2 hA3
  generalize G2 = G
  intro hB ha hA
  have hv5 : ∀ i, c + 5 ≤ i → va_up v c 4 i = 0 := fun i hi => by rw [va_up_ne _ _ (by omega)]; exact hv _ (by omega)
  refine j_aload_n C 0 dX2_init_36 rfl rfl ?_
  refine j_newO (K := c + 5) C zK1 zd_X1 hB hE.2.1 zk_X2_24 zi_X1.1 zi_X1.2 (hv5 _ (Nat.le_refl _)) (hSH2 0 (by decide)).1 (hSH2 0 (by decide)).2 (hZ _ (by omega)) (by rw [hR]; show 4 + 1 ≤ 8; decide) (by rw [hR]; show 48 + 5 ≤ 509; decide) dX2_init_37 ?_
  intro G1 hB1 hA1
  refine j_dup C dX2_init_40 rfl ?_
  refine j_callNN (lev' := 1) C hR hE (kX1_init (c := c + 5) hB1 hv5 hSH2 hRF2 (fun i hi => hZ i (by omega))) [.ref (G1.2.1 (c + 5)), .ref a] zmX1_init zq_X1 rfl zk_X2_26 (by decide) (by decide) (by decide) (by decide) rfl (Nat.le_of_ble_eq_true rfl) dX2_init_41 ?_
  rintro G2 Z2 ⟨rfl, hB2, hA2⟩
  have ha2 : G2.2.1 c = a := (hA2 _ (by omega)).trans ((hA1 _ (by omega)).trans ha)
  rw [← hA2 (c + 5) (by omega)]
  refine j_putR (c := c) (f := 4) (t := c + 5) C hE.1 zK2 hB2 (by omega) ha2 hs0 (by decide) (by decide) rfl zk_X2_27 rfl rfl (fun _ => rfl) (fun _ => rfl) (Nat.le_of_eq ((va_up_ne _ _ (by omega)).trans (va_up_self _ _ _))) (hRF 4 (by decide)) (by omega) (fun g h1 h2 => absurd h1 (by rw [va_up_ne _ _ (by omega), va_up_self]; omega)) dX2_init_44 ?_
  intro G3 hB3 hA3
  exact j_nret C R dX2_init_47 ⟨rfl, hB3, fun i hi => (hA3 i).trans ((hA2 i (by omega)).trans ((hA1 i (by omega)).trans (hA i hi)))⟩
/-- how far the class's cells are laid -/
def vQ (n0 n1 n2 n3 n7 np nm : Nat) (c : Nat) : Nat := if c = 0 then n0 else if c = 1 then n1 else if c = 2 then n2 else if c = 3 then n3 else if c = 7 then n7 else if 11 ≤ c ∧ c < 11 + 4 * np ∧ (c - 11) % 4 = 0 then 3 else if 59 ≤ c ∧ c < 59 + 9 * nm ∧ (c - 59) % 9 = 0 then 5 else if 59 ≤ c ∧ c < 59 + 9 * nm ∧ (c - 59) % 9 = 5 then 3 else 0
theorem vQ_m {i q : Nat} (hi : i < 6) (hq : q < 59 + 9 * (i + 1)) : va_up (va_up (va_up (va_up (vQ 5 12 i 3 2 12 i) (59 + 9 * i) 4) (59 + 9 * i + 5) 3) (59 + 9 * i) 5) 2 (i + 1) q = vQ 5 12 (i + 1) 3 2 12 (i + 1) q := by
  by_cases h1 : q = 2
  · subst h1
    rw [va_up_self]
    rfl
  · rw [va_up_ne _ _ h1]
    by_cases h2 : q = 59 + 9 * i
    · subst h2
      rw [va_up_self]
      unfold vQ
      rw [if_neg (by omega), if_neg (by omega), if_neg (by omega), if_neg (by omega), if_neg (by omega), if_neg (by omega), if_pos ⟨by omega, by omega, by omega⟩]
    · rw [va_up_ne _ _ h2]
      by_cases h3 : q = 59 + 9 * i + 5
      · subst h3
        rw [va_up_self]
        unfold vQ
        rw [if_neg (by omega), if_neg (by omega), if_neg (by omega), if_neg (by omega), if_neg (by omega), if_neg (by omega), if_neg (by omega), if_pos ⟨by omega, by omega, by omega⟩]
      · rw [va_up_ne _ _ h3, va_up_ne _ _ h2]
        have e1 : (59 ≤ q ∧ q < 59 + 9 * i ∧ (q - 59) % 9 = 0) ↔ (59 ≤ q ∧ q < 59 + 9 * (i + 1) ∧ (q - 59) % 9 = 0) := by omega
        have e2 : (59 ≤ q ∧ q < 59 + 9 * i ∧ (q - 59) % 9 = 5) ↔ (59 ≤ q ∧ q < 59 + 9 * (i + 1) ∧ (q - 59) % 9 = 5) := by omega
        simp only [vQ, h1, if_false, e1, e2]
theorem vQ_p {i q : Nat} (hi : i < 12) (hq : q < 11 + 4 * (i + 1)) : va_up (va_up (vQ 5 i 0 3 2 i 0) (11 + 4 * i) 3) 1 (i + 1) q = vQ 5 (i + 1) 0 3 2 (i + 1) 0 q := by
  by_cases h1 : q = 1
  · subst h1
    rw [va_up_self]
    rfl
  · rw [va_up_ne _ _ h1]
    by_cases h2 : q = 11 + 4 * i
    · subst h2
      rw [va_up_self]
      unfold vQ
      rw [if_neg (by omega), if_neg (by omega), if_neg (by omega), if_neg (by omega), if_neg (by omega), if_pos ⟨by omega, by omega, by omega⟩]
    · rw [va_up_ne _ _ h2]
      have e1 : (11 ≤ q ∧ q < 11 + 4 * i ∧ (q - 11) % 4 = 0) ↔ (11 ≤ q ∧ q < 11 + 4 * (i + 1) ∧ (q - 11) % 4 = 0) := by omega
      simp only [vQ, h1, if_false, e1]
theorem vQ_h {n0 n1 n2 n3 n7 np nm q : Nat} (h : 59 ≤ q ∧ 59 + 9 * nm ≤ q ∨ 11 ≤ q ∧ 11 + 4 * np ≤ q ∧ nm = 0 ∨ q ≠ 0 ∧ q ≠ 1 ∧ q ≠ 2 ∧ q ≠ 7 ∧ (q = 3 → n3 = 0) ∧ np = 0 ∧ nm = 0 ∨ q ≠ 0 ∧ q ≠ 1 ∧ q ≠ 2 ∧ q ≠ 3 ∧ (q = 7 → n7 = 0) ∧ np = 0 ∧ nm = 0) (hnp : np ≤ 12) : vQ n0 n1 n2 n3 n7 np nm q = 0 := by
  unfold vQ
  by_cases e3 : q = 3
  · rw [if_neg (by omega), if_neg (by omega), if_neg (by omega), if_pos e3]
    omega
  · by_cases e7 : q = 7
    · rw [if_neg (by omega), if_neg (by omega), if_neg (by omega), if_neg e3, if_pos e7]
      omega
    · rw [if_neg (by omega), if_neg (by omega), if_neg (by omega), if_neg e3, if_neg e7, if_neg (by omega), if_neg (by omega), if_neg (by omega)]
theorem shP {i : Nat} (hi : i < 12) : SH (11 + 4 * i) [(3, 11), (6, 40), (6, 40), (7, 40)] := (by decide : ∀ i, i < 12 → ∀ j, j < 4 → sh0 (11 + 4 * i + j) = (([(3, 11), (6, 40), (6, 40), (7, 40)] : List (Nat × Nat)).getD j (0, 0)).1 ∧ ln0 (11 + 4 * i + j) = (([(3, 11), (6, 40), (6, 40), (7, 40)] : List (Nat × Nat)).getD j (0, 0)).2) i hi
theorem shM1 {i : Nat} (hi : i < 6) : SH (59 + 9 * i) [(2, 6), (6, 12), (6, 12), (6, 12), (6, 12)] := (by decide : ∀ i, i < 6 → ∀ j, j < 5 → sh0 (59 + 9 * i + j) = (([(2, 6), (6, 12), (6, 12), (6, 12), (6, 12)] : List (Nat × Nat)).getD j (0, 0)).1 ∧ ln0 (59 + 9 * i + j) = (([(2, 6), (6, 12), (6, 12), (6, 12), (6, 12)] : List (Nat × Nat)).getD j (0, 0)).2) i hi
theorem shM2 {i : Nat} (hi : i < 6) : SH (59 + 9 * i + 5) [(1, 5), (7, 256), (6, 100), (6, 100)] := (by decide : ∀ i, i < 6 → ∀ j, j < 4 → sh0 (59 + 9 * i + 5 + j) = (([(1, 5), (7, 256), (6, 100), (6, 100)] : List (Nat × Nat)).getD j (0, 0)).1 ∧ ln0 (59 + 9 * i + 5 + j) = (([(1, 5), (7, 256), (6, 100), (6, 100)] : List (Nat × Nat)).getD j (0, 0)).2) i hi
theorem rfP {i : Nat} (hi : i < 12) : RF (11 + 4 * i) 3 := (by decide : ∀ i, i < 12 → ∀ f, f < 3 → rf0 (11 + 4 * i) f = some (11 + 4 * i + 1 + f)) i hi
theorem rfM1 {i : Nat} (hi : i < 6) : RF (59 + 9 * i) 5 := (by decide : ∀ i, i < 6 → ∀ f, f < 5 → rf0 (59 + 9 * i) f = some (59 + 9 * i + 1 + f)) i hi
theorem rfM2 {i : Nat} (hi : i < 6) : RF (59 + 9 * i + 5) 3 := (by decide : ∀ i, i < 6 → ∀ f, f < 3 → rf0 (59 + 9 * i + 5) f = some (59 + 9 * i + 5 + 1 + f)) i hi
set_option maxRecDepth 100000 in
set_option maxHeartbeats 4000000 in
theorem kX4_init {l : Launch} {D : va_G} {Y : YT} {b0 : Nat} {G : GT} {Z : ZT} (hB : GB b0 1 (vQ 0 0 0 0 0 0 0) G) (hZ : ∀ i, 0 < i → ∀ f, Z i f = 0) : CN l D Y b0 G yX4_init cX4_init 2 3 112 5280 [.ref (G.2.1 0)] Z (fun G' Z' => Z' = (zfill (zu (zu (zu (zu (zfill (zfill (zu (zu (zfill (zu (zu (zu Z (0) (5) (nI 0)) (0) (6) (nI 0)) (0) (7) (nI 1)) (4) (256) (nI 0)) (3) (3) (nI 0)) (3) (4) (nI 0)) (8) (64) (nI 0)) (9) (64) (nI 0)) (7) (2) (nI 0)) (7) (3) (nI 0)) (7) (4) (nI 0)) (7) (5) (nI 0)) (10) (5) (-1)) ∧ GB b0 113 (vQ 5 12 6 3 2 12 6) G' ∧ G'.2.1 0 = G.2.1 0) := by
  refine cn_start (lv0 := [(0, .ref (G.2.1 0))]) rfl rfl (Nat.le_of_ble_eq_true rfl) rfl ?_
  intro E C R hR hE hb hN
  subst hb
  obtain ⟨a, ha⟩ : ∃ a, G.2.1 0 = a := ⟨_, rfl⟩
  rw [ha]
  rw [ha] at R
  have hend : ∀ G, GB (e0 E) 113 (vQ 5 12 6 3 2 12 6) G → G.2.1 0 = a → J E 112 5280 G 105 [(1, .int (nI 6)), (0, .ref a)] [] Z := by
    intro G hB ha
    have hG : Gok 113 G := hB.ok (by decide +kernel)
    refine j_aload_n C 1 dX4_init_105 rfl rfl ?_
    refine j_st (show _ = [.ref (G.2.1 0)] from by rw [ha]) ?_
    refine j_callVX (lev := 3) C (by rw [rOK, hR]; exact ⟨Nat.le_refl _, Nat.le_refl _, Nat.le_refl _, Nat.le_refl _⟩) (kX4_begin hB.2.2.1 hG) [] zmX4_begin zk_X4_41 zK4 (zb_X hG) (zs_X hG) (by decide) rfl rfl (Nat.le_of_ble_eq_true rfl) dX4_init_106 (fun Z1 h1 => ?_)
    exact j_nret C R dX4_init_109 ⟨h1, hB, ha⟩
  have L80 : ∀ (n : Nat) (i : Nat) (G : GT), 6 + 1 ≤ i + n → i ≤ 6 → GB (e0 E) (59 + 9 * i) (vQ 5 12 i 3 2 12 i) G → G.2.1 0 = a → J E (58 + 9 * i) (2190 + 515 * i) G 80 [(1, .int (nI i)), (0, .ref a)] [] Z := by
    intro n
    induction n with
    | zero => intro i G hn hi _ _; exact absurd hn (by omega)
    | succ n ih =>
      intro i G hn hi hB ha
      refine j_iload_n C 0 dX4_init_80 rfl rfl ?_
      refine j_bipush C (nI 6) dX4_init_81 (by decide) ?_
      refine j_icmp_ge (tgt := 105) (a := ((i : Nat) : Int)) (b := ((6 : Nat) : Int)) C (nI_toInt (by omega)) (nI_toInt (by omega)) dX4_init_83 (by decide) (fun c1 => ?_) (fun c1 => ?_)
      · have e9 : i = 6 := by omega
        subst e9
        exact hend G hB ha
      · have hi2 : i < 6 := by omega
        refine j_aload_n C 1 dX4_init_86 rfl rfl ?_
        refine j_st (show _ = [.ref (G.2.1 0)] from by rw [ha]) ?_
        refine j_getR C zK4 (hB.b (by omega)) (hB.s (by omega) (by decide)) (f := 1) (by decide) rfl zk_X4_17 rfl (hB.r (t := 2) (by omega) (by decide) (show 1 < 5 by decide) (by decide)) dX4_init_87 ?_
        refine j_iload_n C 0 dX4_init_90 rfl rfl ?_
        refine j_newO (K := 59 + 9 * i) C zK2 zd_X2 hB hE.2.1 zk_X4_15 zi_X2.1 zi_X2.2 (vQ_h (by omega) (by omega)) (shM1 hi2 0 (by decide)).1 (shM1 hi2 0 (by decide)).2 (hZ _ (by omega)) (by rw [hR]; show _ ≤ 112; omega) (by rw [hR]; show _ ≤ 5280; omega) dX4_init_91 ?_
        intro G1 hB1 hA1
        refine j_dup C dX4_init_94 rfl ?_
        refine j_callNN (lev' := 2) C hR hE (kX2_init (c := 59 + 9 * i) hB1 (fun q hq => vQ_h (by omega) (by omega)) (shM1 hi2) (shM2 hi2) (rfM1 hi2) (rfM2 hi2) (fun q hq => hZ q (by omega))) [.ref (G1.2.1 (59 + 9 * i)), .int (nI i), .ref (G.2.1 2)] zmX2_init zq_X2 rfl zk_X4_40 (by decide) (by decide) (by show _ ≤ 112; omega) (by show _ ≤ 5280; omega) rfl (Nat.le_of_ble_eq_true rfl) dX4_init_95 ?_
        rintro G2 Z2 ⟨rfl, hB2, hA2⟩
        have ha2 : G2.2.1 0 = a := (hA2 _ (by omega)).trans ((hA1 _ (by omega)).trans ha)
        refine j_st (show _ = [.ref (G2.2.1 (59 + 9 * i)), .int (nI i), .ref (G2.2.1 2)] from by rw [hA2 (59 + 9 * i) (by omega), hA2 2 (by omega), hA1 2 (by omega)]) ?_
        refine j_astM (c := 2) (n := 6) C hB2 (by omega) (by decide) (by decide) hi2 (by decide) (shM1 hi2 0 (by decide)).1 (by rw [va_up_ne _ _ (by omega), va_up_ne _ _ (by omega), va_up_ne _ _ (by omega)]; rfl) ((by decide : ∀ i, i < 6 → rf0 2 i = some (59 + 9 * i)) i hi2) (by omega) dX4_init_98 ?_
        intro G3 hB3 hA3
        refine j_iinc (v := nI (i + 1)) (lv' := [(1, .int (nI (i + 1))), (0, .ref a)]) C 0 dX4_init_99 rfl (nI_add i 1) (by rw [hN]; decide) rfl ?_
        refine j_goto (tgt := 80) C dX4_init_102 (by decide) ?_
        refine j_wid (ce' := 58 + 9 * (i + 1)) (sl' := 2190 + 515 * (i + 1)) (by omega) (by omega) ?_
        refine ih (i + 1) G3 (by omega) (by omega) ?_ ((hA3 0).trans ha2)
        have e8 : 59 + 9 * i + 9 = 59 + 9 * (i + 1) := by omega
        rw [e8] at hB3
        exact hB3.vv (fun q hq => vQ_m hi2 hq)
  have L53 : ∀ (n : Nat) (i : Nat) (G : GT), 12 + 1 ≤ i + n → i ≤ 12 → GB (e0 E) (11 + 4 * i) (vQ 5 i 0 3 2 i 0) G → G.2.1 0 = a → J E (10 + 4 * i) (618 + 131 * i) G 53 [(1, .int (nI i)), (0, .ref a)] [] Z := by
    intro n
    induction n with
    | zero => intro i G hn hi _ _; exact absurd hn (by omega)
    | succ n ih =>
      intro i G hn hi hB ha
      refine j_iload_n C 0 dX4_init_53 rfl rfl ?_
      refine j_bipush C (nI 12) dX4_init_54 (by decide) ?_
      refine j_icmp_ge (tgt := 78) (a := ((i : Nat) : Int)) (b := ((12 : Nat) : Int)) C (nI_toInt (by omega)) (nI_toInt (by omega)) dX4_init_56 (by decide) (fun c1 => ?_) (fun c1 => ?_)
      · have e9 : i = 12 := by omega
        subst e9
        refine j_iconst C (nI 0) dX4_init_78 (by decide) ?_
        refine j_istore_n (lv' := [(1, .int (nI 0)), (0, .ref a)]) C dX4_init_79 rfl (by rw [hN]; decide) rfl ?_
        exact L80 7 0 G (by decide) (by decide) hB ha
      · have hi2 : i < 12 := by omega
        refine j_aload_n C 1 dX4_init_59 rfl rfl ?_
        refine j_st (show _ = [.ref (G.2.1 0)] from by rw [ha]) ?_
        refine j_getR C zK4 (hB.b (by omega)) (hB.s (by omega) (by decide)) (f := 0) (by decide) rfl zk_X4_11 rfl (hB.r (t := 1) (by omega) (by decide) (show 0 < 5 by decide) (by decide)) dX4_init_60 ?_
        refine j_iload_n C 0 dX4_init_63 rfl rfl ?_
        refine j_newO (K := 11 + 4 * i) C zK3 zd_X3 hB hE.2.1 zk_X4_9 zi_X3.1 zi_X3.2 (vQ_h (by omega) (by omega)) (shP hi2 0 (by decide)).1 (shP hi2 0 (by decide)).2 (hZ _ (by omega)) (by rw [hR]; show _ ≤ 112; omega) (by rw [hR]; show _ ≤ 5280; omega) dX4_init_64 ?_
        intro G1 hB1 hA1
        refine j_dup C dX4_init_67 rfl ?_
        refine j_callNN (lev' := 1) C hR hE (kX3_init (c := 11 + 4 * i) hB1 (fun q hq => vQ_h (by omega) (by omega)) (shP hi2) (rfP hi2)  (fun q hq => hZ q (by omega))) [.ref (G1.2.1 (11 + 4 * i)), .int (nI i), .ref (G.2.1 1)] zmX3_init zq_X3 rfl zk_X4_39 (by decide) (by decide) (by show _ ≤ 112; omega) (by show _ ≤ 5280; omega) rfl (Nat.le_of_ble_eq_true rfl) dX4_init_68 ?_
        rintro G2 Z2 ⟨rfl, hB2, hA2⟩
        have ha2 : G2.2.1 0 = a := (hA2 _ (by omega)).trans ((hA1 _ (by omega)).trans ha)
        refine j_st (show _ = [.ref (G2.2.1 (11 + 4 * i)), .int (nI i), .ref (G2.2.1 1)] from by rw [hA2 (11 + 4 * i) (by omega), hA2 1 (by omega), hA1 1 (by omega)]) ?_
        refine j_astP (c := 1) (n := 12) C hB2 (by omega) (by decide) (by decide) hi2 (by decide) (shP hi2 0 (by decide)).1 (by rw [va_up_ne _ _ (by omega)]; rfl) ((by decide : ∀ i, i < 12 → rf0 1 i = some (11 + 4 * i)) i hi2) (by omega) dX4_init_71 ?_
        intro G3 hB3 hA3
        refine j_iinc (v := nI (i + 1)) (lv' := [(1, .int (nI (i + 1))), (0, .ref a)]) C 0 dX4_init_72 rfl (nI_add i 1) (by rw [hN]; decide) rfl ?_
        refine j_goto (tgt := 53) C dX4_init_75 (by decide) ?_
        refine j_wid (ce' := 10 + 4 * (i + 1)) (sl' := 618 + 131 * (i + 1)) (by omega) (by omega) ?_
        refine ih (i + 1) G3 (by omega) (by omega) ?_ ((hA3 0).trans ha2)
        have e8 : 11 + 4 * i + 4 = 11 + 4 * (i + 1) := by omega
        rw [e8] at hB3
        exact hB3.vv (fun q hq => vQ_p hi2 hq)
  refine j_aload_n C 0 dX4_init_0 rfl rfl ?_
  refine j_objInit C hR (by decide) zo_X4 dX4_init_1 ?_
  refine j_aload_n C 0 dX4_init_4 rfl rfl ?_
  refine j_bipush C (nI 12) dX4_init_5 (by decide) ?_
  refine j_newP (K := 1) (n := 12) C hB hE.2.1 hE.2.2.1 zk_X4_9 (by decide) (by decide) (by decide) (by decide) (by rw [hR]; show 0 + 1 ≤ 112; decide) (by rw [hR]; show 0 + 12 ≤ 5280; decide) dX4_init_7 ?_
  intro G1 hB1 hA1
  replace ha : G1.2.1 0 = a := (hA1 _ (by decide)).trans ha
  replace hB := hB1
  clear hB1
  refine j_putR (c := 0) (f := 0) (t := 1) C hE.1 zK4 hB (by decide) ha (by decide) (by decide) (by decide) rfl zk_X4_11 rfl rfl (fun _ => rfl) (fun _ => rfl) (by decide) (by decide) (by decide) (fun g h1 h2 => absurd (show 0 ≤ g from h1) (by omega)) dX4_init_10 ?_
  intro G3 hB3 hA3
  replace ha : G3.2.1 0 = a := (hA3 _).trans ha
  replace hB := hB3.vv (v' := vQ 1 0 0 0 0 0 0) (by decide)
  clear hB3 hA3
  refine j_aload_n C 0 dX4_init_13 rfl rfl ?_
  refine j_bipush C (nI 6) dX4_init_14 (by decide) ?_
  refine j_newM (K := 2) (n := 6) C hB hE.2.1 hE.2.2.2 zk_X4_15 (by decide) (by decide) (by decide) (by decide) (by rw [hR]; show 1 + 1 ≤ 112; decide) (by rw [hR]; show 12 + 6 ≤ 5280; decide) dX4_init_16 ?_
  intro G1 hB1 hA1
  replace ha : G1.2.1 0 = a := (hA1 _ (by decide)).trans ha
  replace hB := hB1
  clear hB1
  refine j_putR (c := 0) (f := 1) (t := 2) C hE.1 zK4 hB (by decide) ha (by decide) (by decide) (by decide) rfl zk_X4_17 rfl rfl (fun _ => rfl) (fun _ => rfl) (by decide) (by decide) (by decide) (fun g h1 h2 => absurd (show 1 ≤ g from h1) (by omega)) dX4_init_19 ?_
  intro G3 hB3 hA3
  replace ha : G3.2.1 0 = a := (hA3 _).trans ha
  replace hB := hB3.vv (v' := vQ 2 0 0 0 0 0 0) (by decide)
  clear hB3 hA3
  refine j_aload_n C 0 dX4_init_22 rfl rfl ?_
  refine j_newO (K := 3) C zK1 zd_X1 hB hE.2.1 zk_X4_21 zi_X1.1 zi_X1.2 (by decide) (by decide) (by decide) (hZ _ (by decide)) (by rw [hR]; show 2 + 1 ≤ 112; decide) (by rw [hR]; show 18 + 5 ≤ 5280; decide) dX4_init_23 ?_
  intro G1 hB1 hA1
  refine j_dup C dX4_init_26 rfl ?_
  refine j_callNN (lev' := 1) C hR hE (kX1_init (c := 3) hB1 (fun q hq => vQ_h (by omega) (by omega)) (by unfold SH; decide) (by unfold RF; decide) (fun q hq => hZ q (by omega))) [.ref (G1.2.1 3), .ref a] zmX1_init zq_X1 rfl zk_X4_23 (by decide) (by decide) (by decide) (by decide) rfl (Nat.le_of_ble_eq_true rfl) dX4_init_27 ?_
  rintro G2 Z2 ⟨rfl, hB2, hA2⟩
  rw [← hA2 3 (by decide)]
  replace ha : G2.2.1 0 = a := (hA2 _ (by decide)).trans ((hA1 _ (by decide)).trans ha)
  replace hB := hB2
  clear hB1 hB2
  refine j_putR (c := 0) (f := 2) (t := 3) C hE.1 zK4 hB (by decide) ha (by decide) (by decide) (by decide) rfl zk_X4_24 rfl rfl (fun _ => rfl) (fun _ => rfl) (by decide) (by decide) (by decide) (fun g h1 h2 => absurd (show 2 ≤ g from h1) (by omega)) dX4_init_30 ?_
  intro G3 hB3 hA3
  replace ha : G3.2.1 0 = a := (hA3 _).trans ha
  replace hB := hB3.vv (v' := vQ 3 0 0 3 0 0 0) (by decide)
  clear hB3 hA3
  refine j_aload_n C 0 dX4_init_33 rfl rfl ?_
  refine j_newO (K := 7) C zK0 zd_X0 hB hE.2.1 zk_X4_28 zi_X0.1 zi_X0.2 (by decide) (by decide) (by decide) (hZ _ (by decide)) (by rw [hR]; show 6 + 1 ≤ 112; decide) (by rw [hR]; show 479 + 6 ≤ 5280; decide) dX4_init_34 ?_
  intro G1 hB1 hA1
  refine j_dup C dX4_init_37 rfl ?_
  refine j_callNN (lev' := 1) C hR hE (kX0_init (c := 7) hB1 (fun q hq => vQ_h (by omega) (by omega)) (by unfold SH; decide) (by unfold RF; decide) (fun q hq => hZ q (by omega))) [.ref (G1.2.1 7), .ref a] zmX0_init zq_X0 rfl zk_X4_30 (by decide) (by decide) (by decide) (by decide) rfl (Nat.le_of_ble_eq_true rfl) dX4_init_38 ?_
  rintro G2 Z2 ⟨rfl, hB2, hA2⟩
  rw [← hA2 7 (by decide)]
  replace ha : G2.2.1 0 = a := (hA2 _ (by decide)).trans ((hA1 _ (by decide)).trans ha)
  replace hB := hB2
  clear hB1 hB2
  refine j_putR (c := 0) (f := 3) (t := 7) C hE.1 zK4 hB (by decide) ha (by decide) (by decide) (by decide) rfl zk_X4_31 rfl rfl (fun _ => rfl) (fun _ => rfl) (by decide) (by decide) (by decide) (fun g h1 h2 => absurd (show 3 ≤ g from h1) (by omega)) dX4_init_41 ?_
  intro G3 hB3 hA3
  replace ha : G3.2.1 0 = a := (hA3 _).trans ha
  replace hB := hB3.vv (v' := vQ 4 0 0 3 2 0 0) (by decide)
  clear hB3 hA3
  refine j_aload_n C 0 dX4_init_44 rfl rfl ?_
  refine j_iconst C (nI 5) dX4_init_45 (by decide) ?_
  refine j_newI (K := 10) (n := 5) C hB hE.2.1 (by decide) (by decide) (by decide) (hZ _ (by decide)) (by decide) (by rw [hR]; show 9 + 1 ≤ 112; decide) (by rw [hR]; show 613 + 5 ≤ 5280; decide) dX4_init_46 ?_
  intro G1 hB1 hA1
  replace ha : G1.2.1 0 = a := (hA1 _ (by decide)).trans ha
  replace hB := hB1
  clear hB1
  refine j_putR (c := 0) (f := 4) (t := 10) C hE.1 zK4 hB (by decide) ha (by decide) (by decide) (by decide) rfl zk_X4_35 rfl rfl (fun _ => rfl) (fun _ => rfl) (by decide) (by decide) (by decide) (fun g h1 h2 => absurd (show 4 ≤ g from h1) (by omega)) dX4_init_48 ?_
  intro G3 hB3 hA3
  replace ha : G3.2.1 0 = a := (hA3 _).trans ha
  replace hB := hB3.vv (v' := vQ 5 0 0 3 2 0 0) (by decide)
  clear hB3 hA3
  refine j_iconst C (nI 0) dX4_init_51 (by decide) ?_
  refine j_istore_n (lv' := [(1, .int (nI 0)), (0, .ref a)]) C dX4_init_52 rfl (by rw [hN]; decide) rfl ?_
  exact L53 13 0 G3 (by decide) (by decide) hB ha
set_option maxRecDepth 100000 in
set_option maxHeartbeats 4000000 in
theorem kX5_init {l : Launch} {D : va_G} {Y : YT} {b0 : Nat} {G : GT} {Z : ZT} {v : Nat → Nat} (hB : GB b0 114 v G) (hv : ∀ i, 113 ≤ i → v i = 0) (hvr : ∀ c, c < 113 → ∀ f, f < 40 → v c ≤ f → rf0 c f = none) (hZ : ∀ i, 113 ≤ i → ∀ f, Z i f = 0) : CN l D Y b0 G yX5_init cX5_init 1 1 18 5161 [.ref (G.2.1 113)] Z (fun G' Z' => Z' = zfill (zu Z 113 2 (nI 1)) 131 5 (-1) ∧ GB b0 132 (va_up v 113 26) G' ∧ ∀ i, i < 114 → G'.2.1 i = G.2.1 i) := by
  refine cn_start (lv0 := [(0, .ref (G.2.1 113))]) rfl rfl (Nat.le_of_ble_eq_true rfl) rfl ?_
  intro E C R hR hE hb hN
  subst hb
  have hs0 : sh0 113 = 5 := by decide
  have hZ2 : ∀ i, 113 < i → ∀ f, zu Z 113 2 (nI 1) i f = 0 := fun i hi f => (zu_o (by omega)).trans (hZ i (by omega) f)
  obtain ⟨G0, hG0⟩ : ∃ g, g = G := ⟨_, rfl⟩
  rw [← hG0] at R
  obtain ⟨a, ha⟩ : ∃ a, G.2.1 113 = a := ⟨_, rfl⟩
  rw [ha]
  have hA : ∀ i, i < 114 → G.2.1 i = G0.2.1 i := fun i _ => by rw [hG0]
  clear hG0
  refine j_aload_n C 0 dX5_init_0 rfl rfl ?_
  refine j_objInit C hR (by decide) zo_X5 dX5_init_1 ?_
  refine j_aload_n C 0 dX5_init_4 rfl rfl ?_
  refine j_iconst C (nI 1) dX5_init_5 (by decide) ?_
  refine j_st (show _ = [.int (nI 1), .ref (G.2.1 113)] from by rw [ha]) ?_
  refine j_putI C hB.2.2.1 zK5 (hB.b (by decide)) (hB.s (by decide) hs0) (f := 2) (by decide) rfl zk_X5_7 rfl rfl rfl rfl dX5_init_6 ?_
  refine j_aload_n C 0 dX5_init_9 rfl rfl ?_
  refine j_sipush C (nI 480) dX5_init_10 (by decide) ?_
  refine j_newI (n := 480) C hB hE.2.1 (hv _ (by decide)) (by decide) (by decide) (hZ2 _ (by decide)) (by decide) (by rw [hR]; show 0 + 1 ≤ 18; decide) (by rw [hR]; show 0 + 480 ≤ 5161; decide) dX5_init_13 ?_
  intro G1 hB1 hA1
  have ha1 : G1.2.1 113 = a := (hA1 _ (by omega)).trans ha
  refine j_putR (c := 113) (f := 3) C hE.1 zK5 hB1 (by omega) ha1 hs0 (by decide) (by decide) rfl zk_X5_13 rfl rfl (fun _ => rfl) (fun _ => rfl) (Nat.le_trans (Nat.le_of_eq (hv _ (Nat.le_refl _))) (Nat.zero_le _)) (show rf0 113 3 = some 114 from by decide) (by omega) (fun g _ h2 => (by decide : ∀ g, g < 3 → rf0 113 g = none) g h2) dX5_init_15 ?_
  intro G2 hB2 hA2
  have ha2 : G2.2.1 113 = a := (hA2 _).trans ha1
  have hA3 : ∀ i, i < 114 → G2.2.1 i = G0.2.1 i := fun i hi => (hA2 i).trans ((hA1 i (by omega)).trans (hA i hi))
  clear hA hA1 hA2 ha1 hB1 hB ha
  revert hB2 ha2 hA3
  generalize G2 = G
  intro hB ha hA
  refine j_aload_n C 0 dX5_init_18 rfl rfl ?_
  refine j_sipush C (nI 480) dX5_init_19 (by decide) ?_
  refine j_newI (n := 480) C hB hE.2.1 (by rw [va_up_ne _ _ (by decide)]; exact hv _ (by decide)) (by decide) (by decide) (hZ2 _ (by decide)) (by decide) (by rw [hR]; show 1 + 1 ≤ 18; decide) (by rw [hR]; show 480 + 480 ≤ 5161; decide) dX5_init_22 ?_
  intro G1 hB1 hA1
  have ha1 : G1.2.1 113 = a := (hA1 _ (by omega)).trans ha
  refine j_putR (c := 113) (f := 4) C hE.1 zK5 hB1 (by omega) ha1 hs0 (by decide) (by decide) rfl zk_X5_17 rfl rfl (fun _ => rfl) (fun _ => rfl) (Nat.le_trans (Nat.le_of_eq (va_up_self _ _ _)) (by decide)) (show rf0 113 4 = some 115 from by decide) (by omega) (fun g h1 h2 => (by decide : ∀ g, g < 4 → 4 ≤ g → rf0 113 g = none) g h2 (by rw [va_up_self] at h1; exact h1)) dX5_init_24 ?_
  intro G2 hB2 hA2
  have ha2 : G2.2.1 113 = a := (hA2 _).trans ha1
  rw [va_up_up] at hB2
  have hA3 : ∀ i, i < 114 → G2.2.1 i = G0.2.1 i := fun i hi => (hA2 i).trans ((hA1 i (by omega)).trans (hA i hi))
  clear hA hA1 hA2 ha1 hB1 hB ha
  revert hB2 ha2 hA3
  generalize G2 = G
  intro hB ha hA
  refine j_aload_n C 0 dX5_init_27 rfl rfl ?_
  refine j_sipush C (nI 480) dX5_init_28 (by decide) ?_
  refine j_newZ (n := 480) C hB hE.2.1 (by rw [va_up_ne _ _ (by decide)]; exact hv _ (by decide)) (by decide) (by decide) (hZ2 _ (by decide)) (by decide) (by rw [hR]; show 2 + 1 ≤ 18; decide) (by rw [hR]; show 960 + 480 ≤ 5161; decide) dX5_init_31 ?_
  intro G1 hB1 hA1
  have ha1 : G1.2.1 113 = a := (hA1 _ (by omega)).trans ha
  refine j_putR (c := 113) (f := 5) C hE.1 zK5 hB1 (by omega) ha1 hs0 (by decide) (by decide) rfl zk_X5_20 rfl rfl (fun _ => rfl) (fun _ => rfl) (Nat.le_trans (Nat.le_of_eq (va_up_self _ _ _)) (by decide)) (show rf0 113 5 = some 116 from by decide) (by omega) (fun g h1 h2 => (by decide : ∀ g, g < 5 → 5 ≤ g → rf0 113 g = none) g h2 (by rw [va_up_self] at h1; exact h1)) dX5_init_33 ?_
  intro G2 hB2 hA2
  have ha2 : G2.2.1 113 = a := (hA2 _).trans ha1
  rw [va_up_up] at hB2
  have hA3 : ∀ i, i < 114 → G2.2.1 i = G0.2.1 i := fun i hi => (hA2 i).trans ((hA1 i (by omega)).trans (hA i hi))
  clear hA hA1 hA2 ha1 hB1 hB ha
  revert hB2 ha2 hA3
  generalize G2 = G
  intro hB ha hA
  refine j_aload_n C 0 dX5_init_36 rfl rfl ?_
  refine j_bipush C (nI 12) dX5_init_37 (by decide) ?_
  refine j_newI (n := 12) C hB hE.2.1 (by rw [va_up_ne _ _ (by decide)]; exact hv _ (by decide)) (by decide) (by decide) (hZ2 _ (by decide)) (by decide) (by rw [hR]; show 3 + 1 ≤ 18; decide) (by rw [hR]; show 1440 + 12 ≤ 5161; decide) dX5_init_39 ?_
  intro G1 hB1 hA1
  have ha1 : G1.2.1 113 = a := (hA1 _ (by omega)).trans ha
  refine j_putR (c := 113) (f := 6) C hE.1 zK5 hB1 (by omega) ha1 hs0 (by decide) (by decide) rfl zk_X5_24 rfl rfl (fun _ => rfl) (fun _ => rfl) (Nat.le_trans (Nat.le_of_eq (va_up_self _ _ _)) (by decide)) (show rf0 113 6 = some 117 from by decide) (by omega) (fun g h1 h2 => (by decide : ∀ g, g < 6 → 6 ≤ g → rf0 113 g = none) g h2 (by rw [va_up_self] at h1; exact h1)) dX5_init_41 ?_
  intro G2 hB2 hA2
  have ha2 : G2.2.1 113 = a := (hA2 _).trans ha1
  rw [va_up_up] at hB2
  have hA3 : ∀ i, i < 114 → G2.2.1 i = G0.2.1 i := fun i hi => (hA2 i).trans ((hA1 i (by omega)).trans (hA i hi))
  clear hA hA1 hA2 ha1 hB1 hB ha
  revert hB2 ha2 hA3
  generalize G2 = G
  intro hB ha hA
  refine j_aload_n C 0 dX5_init_44 rfl rfl ?_
  refine j_bipush C (nI 12) dX5_init_45 (by decide) ?_
  refine j_newZ (n := 12) C hB hE.2.1 (by rw [va_up_ne _ _ (by decide)]; exact hv _ (by decide)) (by decide) (by decide) (hZ2 _ (by decide)) (by decide) (by rw [hR]; show 4 + 1 ≤ 18; decide) (by rw [hR]; show 1452 + 12 ≤ 5161; decide) dX5_init_47 ?_
  intro G1 hB1 hA1
  have ha1 : G1.2.1 113 = a := (hA1 _ (by omega)).trans ha
  refine j_putR (c := 113) (f := 7) C hE.1 zK5 hB1 (by omega) ha1 hs0 (by decide) (by decide) rfl zk_X5_27 rfl rfl (fun _ => rfl) (fun _ => rfl) (Nat.le_trans (Nat.le_of_eq (va_up_self _ _ _)) (by decide)) (show rf0 113 7 = some 118 from by decide) (by omega) (fun g h1 h2 => (by decide : ∀ g, g < 7 → 7 ≤ g → rf0 113 g = none) g h2 (by rw [va_up_self] at h1; exact h1)) dX5_init_49 ?_
  intro G2 hB2 hA2
  have ha2 : G2.2.1 113 = a := (hA2 _).trans ha1
  rw [va_up_up] at hB2
  have hA3 : ∀ i, i < 114 → G2.2.1 i = G0.2.1 i := fun i hi => (hA2 i).trans ((hA1 i (by omega)).trans (hA i hi))
  clear hA hA1 hA2 ha1 hB1 hB ha
  revert hB2 ha2 hA3
  generalize G2 = G
  intro hB ha hA
  refine j_aload_n C 0 dX5_init_52 rfl rfl ?_
  refine j_bipush C (nI 12) dX5_init_53 (by decide) ?_
  refine j_newI (n := 12) C hB hE.2.1 (by rw [va_up_ne _ _ (by decide)]; exact hv _ (by decide)) (by decide) (by decide) (hZ2 _ (by decide)) (by decide) (by rw [hR]; show 5 + 1 ≤ 18; decide) (by rw [hR]; show 1464 + 12 ≤ 5161; decide) dX5_init_55 ?_
  intro G1 hB1 hA1
  have ha1 : G1.2.1 113 = a := (hA1 _ (by omega)).trans ha
  refine j_putR (c := 113) (f := 8) C hE.1 zK5 hB1 (by omega) ha1 hs0 (by decide) (by decide) rfl zk_X5_30 rfl rfl (fun _ => rfl) (fun _ => rfl) (Nat.le_trans (Nat.le_of_eq (va_up_self _ _ _)) (by decide)) (show rf0 113 8 = some 119 from by decide) (by omega) (fun g h1 h2 => (by decide : ∀ g, g < 8 → 8 ≤ g → rf0 113 g = none) g h2 (by rw [va_up_self] at h1; exact h1)) dX5_init_57 ?_
  intro G2 hB2 hA2
  have ha2 : G2.2.1 113 = a := (hA2 _).trans ha1
  rw [va_up_up] at hB2
  have hA3 : ∀ i, i < 114 → G2.2.1 i = G0.2.1 i := fun i hi => (hA2 i).trans ((hA1 i (by omega)).trans (hA i hi))
  clear hA hA1 hA2 ha1 hB1 hB ha
  revert hB2 ha2 hA3
  generalize G2 = G
  intro hB ha hA
  refine j_aload_n C 0 dX5_init_60 rfl rfl ?_
  refine j_bipush C (nI 12) dX5_init_61 (by decide) ?_
  refine j_newI (n := 12) C hB hE.2.1 (by rw [va_up_ne _ _ (by decide)]; exact hv _ (by decide)) (by decide) (by decide) (hZ2 _ (by decide)) (by decide) (by rw [hR]; show 6 + 1 ≤ 18; decide) (by rw [hR]; show 1476 + 12 ≤ 5161; decide) dX5_init_63 ?_
  intro G1 hB1 hA1
  have ha1 : G1.2.1 113 = a := (hA1 _ (by omega)).trans ha
  refine j_putR (c := 113) (f := 9) C hE.1 zK5 hB1 (by omega) ha1 hs0 (by decide) (by decide) rfl zk_X5_33 rfl rfl (fun _ => rfl) (fun _ => rfl) (Nat.le_trans (Nat.le_of_eq (va_up_self _ _ _)) (by decide)) (show rf0 113 9 = some 120 from by decide) (by omega) (fun g h1 h2 => (by decide : ∀ g, g < 9 → 9 ≤ g → rf0 113 g = none) g h2 (by rw [va_up_self] at h1; exact h1)) dX5_init_65 ?_
  intro G2 hB2 hA2
  have ha2 : G2.2.1 113 = a := (hA2 _).trans ha1
  rw [va_up_up] at hB2
  have hA3 : ∀ i, i < 114 → G2.2.1 i = G0.2.1 i := fun i hi => (hA2 i).trans ((hA1 i (by omega)).trans (hA i hi))
  clear hA hA1 hA2 ha1 hB1 hB ha
  revert hB2 ha2 hA3
  generalize G2 = G
  intro hB ha hA
  refine j_aload_n C 0 dX5_init_68 rfl rfl ?_
  refine j_bipush C (nI 48) dX5_init_69 (by decide) ?_
  refine j_newI (n := 48) C hB hE.2.1 (by rw [va_up_ne _ _ (by decide)]; exact hv _ (by decide)) (by decide) (by decide) (hZ2 _ (by decide)) (by decide) (by rw [hR]; show 7 + 1 ≤ 18; decide) (by rw [hR]; show 1488 + 48 ≤ 5161; decide) dX5_init_71 ?_
  intro G1 hB1 hA1
  have ha1 : G1.2.1 113 = a := (hA1 _ (by omega)).trans ha
  refine j_putR (c := 113) (f := 10) C hE.1 zK5 hB1 (by omega) ha1 hs0 (by decide) (by decide) rfl zk_X5_36 rfl rfl (fun _ => rfl) (fun _ => rfl) (Nat.le_trans (Nat.le_of_eq (va_up_self _ _ _)) (by decide)) (show rf0 113 10 = some 121 from by decide) (by omega) (fun g h1 h2 => (by decide : ∀ g, g < 10 → 10 ≤ g → rf0 113 g = none) g h2 (by rw [va_up_self] at h1; exact h1)) dX5_init_73 ?_
  intro G2 hB2 hA2
  have ha2 : G2.2.1 113 = a := (hA2 _).trans ha1
  rw [va_up_up] at hB2
  have hA3 : ∀ i, i < 114 → G2.2.1 i = G0.2.1 i := fun i hi => (hA2 i).trans ((hA1 i (by omega)).trans (hA i hi))
  clear hA hA1 hA2 ha1 hB1 hB ha
  revert hB2 ha2 hA3
  generalize G2 = G
  intro hB ha hA
  refine j_aload_n C 0 dX5_init_76 rfl rfl ?_
  refine j_sipush C (nI 256) dX5_init_77 (by decide) ?_
  refine j_newZ (n := 256) C hB hE.2.1 (by rw [va_up_ne _ _ (by decide)]; exact hv _ (by decide)) (by decide) (by decide) (hZ2 _ (by decide)) (by decide) (by rw [hR]; show 8 + 1 ≤ 18; decide) (by rw [hR]; show 1536 + 256 ≤ 5161; decide) dX5_init_80 ?_
  intro G1 hB1 hA1
  have ha1 : G1.2.1 113 = a := (hA1 _ (by omega)).trans ha
  refine j_putR (c := 113) (f := 11) C hE.1 zK5 hB1 (by omega) ha1 hs0 (by decide) (by decide) rfl zk_X5_39 rfl rfl (fun _ => rfl) (fun _ => rfl) (Nat.le_trans (Nat.le_of_eq (va_up_self _ _ _)) (by decide)) (show rf0 113 11 = some 122 from by decide) (by omega) (fun g h1 h2 => (by decide : ∀ g, g < 11 → 11 ≤ g → rf0 113 g = none) g h2 (by rw [va_up_self] at h1; exact h1)) dX5_init_82 ?_
  intro G2 hB2 hA2
  have ha2 : G2.2.1 113 = a := (hA2 _).trans ha1
  rw [va_up_up] at hB2
  have hA3 : ∀ i, i < 114 → G2.2.1 i = G0.2.1 i := fun i hi => (hA2 i).trans ((hA1 i (by omega)).trans (hA i hi))
  clear hA hA1 hA2 ha1 hB1 hB ha
  revert hB2 ha2 hA3
  generalize G2 = G
  intro hB ha hA
  refine j_aload_n C 0 dX5_init_85 rfl rfl ?_
  refine j_sipush C (nI 200) dX5_init_86 (by decide) ?_
  refine j_newI (n := 200) C hB hE.2.1 (by rw [va_up_ne _ _ (by decide)]; exact hv _ (by decide)) (by decide) (by decide) (hZ2 _ (by decide)) (by decide) (by rw [hR]; show 9 + 1 ≤ 18; decide) (by rw [hR]; show 1792 + 200 ≤ 5161; decide) dX5_init_89 ?_
  intro G1 hB1 hA1
  have ha1 : G1.2.1 113 = a := (hA1 _ (by omega)).trans ha
  refine j_putR (c := 113) (f := 12) C hE.1 zK5 hB1 (by omega) ha1 hs0 (by decide) (by decide) rfl zk_X5_42 rfl rfl (fun _ => rfl) (fun _ => rfl) (Nat.le_trans (Nat.le_of_eq (va_up_self _ _ _)) (by decide)) (show rf0 113 12 = some 123 from by decide) (by omega) (fun g h1 h2 => (by decide : ∀ g, g < 12 → 12 ≤ g → rf0 113 g = none) g h2 (by rw [va_up_self] at h1; exact h1)) dX5_init_91 ?_
  intro G2 hB2 hA2
  have ha2 : G2.2.1 113 = a := (hA2 _).trans ha1
  rw [va_up_up] at hB2
  have hA3 : ∀ i, i < 114 → G2.2.1 i = G0.2.1 i := fun i hi => (hA2 i).trans ((hA1 i (by omega)).trans (hA i hi))
  clear hA hA1 hA2 ha1 hB1 hB ha
  revert hB2 ha2 hA3
  generalize G2 = G
  intro hB ha hA
  refine j_aload_n C 0 dX5_init_94 rfl rfl ?_
  refine j_sipush C (nI 288) dX5_init_95 (by decide) ?_
  refine j_newI (n := 288) C hB hE.2.1 (by rw [va_up_ne _ _ (by decide)]; exact hv _ (by decide)) (by decide) (by decide) (hZ2 _ (by decide)) (by decide) (by rw [hR]; show 10 + 1 ≤ 18; decide) (by rw [hR]; show 1992 + 288 ≤ 5161; decide) dX5_init_98 ?_
  intro G1 hB1 hA1
  have ha1 : G1.2.1 113 = a := (hA1 _ (by omega)).trans ha
  refine j_putR (c := 113) (f := 15) C hE.1 zK5 hB1 (by omega) ha1 hs0 (by decide) (by decide) rfl zk_X5_45 rfl rfl (fun _ => rfl) (fun _ => rfl) (Nat.le_trans (Nat.le_of_eq (va_up_self _ _ _)) (by decide)) (show rf0 113 15 = some 124 from by decide) (by omega) (fun g h1 h2 => (by decide : ∀ g, g < 15 → 13 ≤ g → rf0 113 g = none) g h2 (by rw [va_up_self] at h1; exact h1)) dX5_init_100 ?_
  intro G2 hB2 hA2
  have ha2 : G2.2.1 113 = a := (hA2 _).trans ha1
  rw [va_up_up] at hB2
  have hA3 : ∀ i, i < 114 → G2.2.1 i = G0.2.1 i := fun i hi => (hA2 i).trans ((hA1 i (by omega)).trans (hA i hi))
  clear hA hA1 hA2 ha1 hB1 hB ha
  revert hB2 ha2 hA3
  generalize G2 = G
  intro hB ha hA
  refine j_aload_n C 0 dX5_init_103 rfl rfl ?_
  refine j_sipush C (nI 1536) dX5_init_104 (by decide) ?_
  refine j_newZ (n := 1536) C hB hE.2.1 (by rw [va_up_ne _ _ (by decide)]; exact hv _ (by decide)) (by decide) (by decide) (hZ2 _ (by decide)) (by decide) (by rw [hR]; show 11 + 1 ≤ 18; decide) (by rw [hR]; show 2280 + 1536 ≤ 5161; decide) dX5_init_107 ?_
  intro G1 hB1 hA1
  have ha1 : G1.2.1 113 = a := (hA1 _ (by omega)).trans ha
  refine j_putR (c := 113) (f := 16) C hE.1 zK5 hB1 (by omega) ha1 hs0 (by decide) (by decide) rfl zk_X5_48 rfl rfl (fun _ => rfl) (fun _ => rfl) (Nat.le_trans (Nat.le_of_eq (va_up_self _ _ _)) (by decide)) (show rf0 113 16 = some 125 from by decide) (by omega) (fun g h1 h2 => (by decide : ∀ g, g < 16 → 16 ≤ g → rf0 113 g = none) g h2 (by rw [va_up_self] at h1; exact h1)) dX5_init_109 ?_
  intro G2 hB2 hA2
  have ha2 : G2.2.1 113 = a := (hA2 _).trans ha1
  rw [va_up_up] at hB2
  have hA3 : ∀ i, i < 114 → G2.2.1 i = G0.2.1 i := fun i hi => (hA2 i).trans ((hA1 i (by omega)).trans (hA i hi))
  clear hA hA1 hA2 ha1 hB1 hB ha
  revert hB2 ha2 hA3
  generalize G2 = G
  intro hB ha hA
  refine j_aload_n C 0 dX5_init_112 rfl rfl ?_
  refine j_sipush C (nI 1200) dX5_init_113 (by decide) ?_
  refine j_newI (n := 1200) C hB hE.2.1 (by rw [va_up_ne _ _ (by decide)]; exact hv _ (by decide)) (by decide) (by decide) (hZ2 _ (by decide)) (by decide) (by rw [hR]; show 12 + 1 ≤ 18; decide) (by rw [hR]; show 3816 + 1200 ≤ 5161; decide) dX5_init_116 ?_
  intro G1 hB1 hA1
  have ha1 : G1.2.1 113 = a := (hA1 _ (by omega)).trans ha
  refine j_putR (c := 113) (f := 17) C hE.1 zK5 hB1 (by omega) ha1 hs0 (by decide) (by decide) rfl zk_X5_51 rfl rfl (fun _ => rfl) (fun _ => rfl) (Nat.le_trans (Nat.le_of_eq (va_up_self _ _ _)) (by decide)) (show rf0 113 17 = some 126 from by decide) (by omega) (fun g h1 h2 => (by decide : ∀ g, g < 17 → 17 ≤ g → rf0 113 g = none) g h2 (by rw [va_up_self] at h1; exact h1)) dX5_init_118 ?_
  intro G2 hB2 hA2
  have ha2 : G2.2.1 113 = a := (hA2 _).trans ha1
  rw [va_up_up] at hB2
  have hA3 : ∀ i, i < 114 → G2.2.1 i = G0.2.1 i := fun i hi => (hA2 i).trans ((hA1 i (by omega)).trans (hA i hi))
  clear hA hA1 hA2 ha1 hB1 hB ha
  revert hB2 ha2 hA3
  generalize G2 = G
  intro hB ha hA
  refine j_aload_n C 0 dX5_init_121 rfl rfl ?_
  refine j_bipush C (nI 6) dX5_init_122 (by decide) ?_
  refine j_newI (n := 6) C hB hE.2.1 (by rw [va_up_ne _ _ (by decide)]; exact hv _ (by decide)) (by decide) (by decide) (hZ2 _ (by decide)) (by decide) (by rw [hR]; show 13 + 1 ≤ 18; decide) (by rw [hR]; show 5016 + 6 ≤ 5161; decide) dX5_init_124 ?_
  intro G1 hB1 hA1
  have ha1 : G1.2.1 113 = a := (hA1 _ (by omega)).trans ha
  refine j_putR (c := 113) (f := 18) C hE.1 zK5 hB1 (by omega) ha1 hs0 (by decide) (by decide) rfl zk_X5_54 rfl rfl (fun _ => rfl) (fun _ => rfl) (Nat.le_trans (Nat.le_of_eq (va_up_self _ _ _)) (by decide)) (show rf0 113 18 = some 127 from by decide) (by omega) (fun g h1 h2 => (by decide : ∀ g, g < 18 → 18 ≤ g → rf0 113 g = none) g h2 (by rw [va_up_self] at h1; exact h1)) dX5_init_126 ?_
  intro G2 hB2 hA2
  have ha2 : G2.2.1 113 = a := (hA2 _).trans ha1
  rw [va_up_up] at hB2
  have hA3 : ∀ i, i < 114 → G2.2.1 i = G0.2.1 i := fun i hi => (hA2 i).trans ((hA1 i (by omega)).trans (hA i hi))
  clear hA hA1 hA2 ha1 hB1 hB ha
  revert hB2 ha2 hA3
  generalize G2 = G
  intro hB ha hA
  refine j_aload_n C 0 dX5_init_129 rfl rfl ?_
  refine j_bipush C (nI 6) dX5_init_130 (by decide) ?_
  refine j_newI (n := 6) C hB hE.2.1 (by rw [va_up_ne _ _ (by decide)]; exact hv _ (by decide)) (by decide) (by decide) (hZ2 _ (by decide)) (by decide) (by rw [hR]; show 14 + 1 ≤ 18; decide) (by rw [hR]; show 5022 + 6 ≤ 5161; decide) dX5_init_132 ?_
  intro G1 hB1 hA1
  have ha1 : G1.2.1 113 = a := (hA1 _ (by omega)).trans ha
  refine j_putR (c := 113) (f := 19) C hE.1 zK5 hB1 (by omega) ha1 hs0 (by decide) (by decide) rfl zk_X5_57 rfl rfl (fun _ => rfl) (fun _ => rfl) (Nat.le_trans (Nat.le_of_eq (va_up_self _ _ _)) (by decide)) (show rf0 113 19 = some 128 from by decide) (by omega) (fun g h1 h2 => (by decide : ∀ g, g < 19 → 19 ≤ g → rf0 113 g = none) g h2 (by rw [va_up_self] at h1; exact h1)) dX5_init_134 ?_
  intro G2 hB2 hA2
  have ha2 : G2.2.1 113 = a := (hA2 _).trans ha1
  rw [va_up_up] at hB2
  have hA3 : ∀ i, i < 114 → G2.2.1 i = G0.2.1 i := fun i hi => (hA2 i).trans ((hA1 i (by omega)).trans (hA i hi))
  clear hA hA1 hA2 ha1 hB1 hB ha
  revert hB2 ha2 hA3
  generalize G2 = G
  intro hB ha hA
  refine j_aload_n C 0 dX5_init_137 rfl rfl ?_
  refine j_bipush C (nI 64) dX5_init_138 (by decide) ?_
  refine j_newZ (n := 64) C hB hE.2.1 (by rw [va_up_ne _ _ (by decide)]; exact hv _ (by decide)) (by decide) (by decide) (hZ2 _ (by decide)) (by decide) (by rw [hR]; show 15 + 1 ≤ 18; decide) (by rw [hR]; show 5028 + 64 ≤ 5161; decide) dX5_init_140 ?_
  intro G1 hB1 hA1
  have ha1 : G1.2.1 113 = a := (hA1 _ (by omega)).trans ha
  refine j_putR (c := 113) (f := 20) C hE.1 zK5 hB1 (by omega) ha1 hs0 (by decide) (by decide) rfl zk_X5_60 rfl rfl (fun _ => rfl) (fun _ => rfl) (Nat.le_trans (Nat.le_of_eq (va_up_self _ _ _)) (by decide)) (show rf0 113 20 = some 129 from by decide) (by omega) (fun g h1 h2 => (by decide : ∀ g, g < 20 → 20 ≤ g → rf0 113 g = none) g h2 (by rw [va_up_self] at h1; exact h1)) dX5_init_142 ?_
  intro G2 hB2 hA2
  have ha2 : G2.2.1 113 = a := (hA2 _).trans ha1
  rw [va_up_up] at hB2
  have hA3 : ∀ i, i < 114 → G2.2.1 i = G0.2.1 i := fun i hi => (hA2 i).trans ((hA1 i (by omega)).trans (hA i hi))
  clear hA hA1 hA2 ha1 hB1 hB ha
  revert hB2 ha2 hA3
  generalize G2 = G
  intro hB ha hA
  refine j_aload_n C 0 dX5_init_145 rfl rfl ?_
  refine j_bipush C (nI 64) dX5_init_146 (by decide) ?_
  refine j_newZ (n := 64) C hB hE.2.1 (by rw [va_up_ne _ _ (by decide)]; exact hv _ (by decide)) (by decide) (by decide) (hZ2 _ (by decide)) (by decide) (by rw [hR]; show 16 + 1 ≤ 18; decide) (by rw [hR]; show 5092 + 64 ≤ 5161; decide) dX5_init_148 ?_
  intro G1 hB1 hA1
  have ha1 : G1.2.1 113 = a := (hA1 _ (by omega)).trans ha
  refine j_putR (c := 113) (f := 21) C hE.1 zK5 hB1 (by omega) ha1 hs0 (by decide) (by decide) rfl zk_X5_63 rfl rfl (fun _ => rfl) (fun _ => rfl) (Nat.le_trans (Nat.le_of_eq (va_up_self _ _ _)) (by decide)) (show rf0 113 21 = some 130 from by decide) (by omega) (fun g h1 h2 => (by decide : ∀ g, g < 21 → 21 ≤ g → rf0 113 g = none) g h2 (by rw [va_up_self] at h1; exact h1)) dX5_init_150 ?_
  intro G2 hB2 hA2
  have ha2 : G2.2.1 113 = a := (hA2 _).trans ha1
  rw [va_up_up] at hB2
  have hA3 : ∀ i, i < 114 → G2.2.1 i = G0.2.1 i := fun i hi => (hA2 i).trans ((hA1 i (by omega)).trans (hA i hi))
  clear hA hA1 hA2 ha1 hB1 hB ha
  revert hB2 ha2 hA3
  generalize G2 = G
  intro hB ha hA
  refine j_aload_n C 0 dX5_init_153 rfl rfl ?_
  refine j_iconst C (nI 5) dX5_init_154 (by decide) ?_
  refine j_newI (n := 5) C hB hE.2.1 (by rw [va_up_ne _ _ (by decide)]; exact hv _ (by decide)) (by decide) (by decide) (hZ2 _ (by decide)) (by decide) (by rw [hR]; show 17 + 1 ≤ 18; decide) (by rw [hR]; show 5156 + 5 ≤ 5161; decide) dX5_init_155 ?_
  intro G1 hB1 hA1
  have ha1 : G1.2.1 113 = a := (hA1 _ (by omega)).trans ha
  refine j_putR (c := 113) (f := 25) C hE.1 zK5 hB1 (by omega) ha1 hs0 (by decide) (by decide) rfl zk_X5_66 rfl rfl (fun _ => rfl) (fun _ => rfl) (Nat.le_trans (Nat.le_of_eq (va_up_self _ _ _)) (by decide)) (show rf0 113 25 = some 131 from by decide) (by omega) (fun g h1 h2 => (by decide : ∀ g, g < 25 → 22 ≤ g → rf0 113 g = none) g h2 (by rw [va_up_self] at h1; exact h1)) dX5_init_157 ?_
  intro G2 hB2 hA2
  have ha2 : G2.2.1 113 = a := (hA2 _).trans ha1
  rw [va_up_up] at hB2
  have hA3 : ∀ i, i < 114 → G2.2.1 i = G0.2.1 i := fun i hi => (hA2 i).trans ((hA1 i (by omega)).trans (hA i hi))
  clear hA hA1 hA2 ha1 hB1 hB ha
  revert hB2 ha2 hA3
  generalize G2 = G
  intro hB ha hA
  have hG : Gok 132 G := hB.ok (fun q hq f hf hle => by
    by_cases e : q = 113
    · subst e
      rw [va_up_self] at hle
      exact (by decide : ∀ f, f < 40 → 26 ≤ f → rf0 113 f = none) f hf hle
    · rw [va_up_ne _ _ e] at hle
      by_cases e2 : q < 113
      · exact hvr q e2 f hf hle
      · exact (by unfold rf0; rw [if_neg (by omega), if_neg (by omega), if_neg (by omega), if_neg (by omega), if_neg (by omega), if_neg (by omega), if_neg (by omega), if_neg (by omega), if_neg e]))
  refine j_aload_n C 0 dX5_init_160 rfl rfl ?_
  refine j_st (show _ = [.ref (G.2.1 113)] from by rw [ha]) ?_
  refine j_callVX (lev := 1) C (by rw [rOK, hR]; exact ⟨Nat.le_refl _, Nat.le_refl _, Nat.le_refl _, Nat.le_refl _⟩) (kX5_forgets hB.2.2.1 hG) [] zmX5_forgets zk_X5_69 zK5 (zb_M hG) (zs_M hG) (by decide) rfl rfl (Nat.le_of_ble_eq_true rfl) dX5_init_161 (fun Z1 h1 => ?_)
  exact j_nret C R dX5_init_164 ⟨h1, hB, hA⟩
