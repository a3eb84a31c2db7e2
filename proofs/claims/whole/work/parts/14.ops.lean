def DFx (Z : ZT) (c po nu md ac : Nat) (r : Int32) (Z' : ZT) : Prop := ((((Z 8 ((md + 1) % 64)).toInt) ≠ 0) ∧ r = (-2) ∧ Z' = (zu (zu (zu (zu (zu (zu (zu (zu (zu (zu (zu Z (7) (2) (nI (md + 1))) (10) (0) (nI c)) (10) (1) (nI po)) (10) (2) ((Z (13 + 4 * c) po))) (10) (3) (nI (md + 1))) (10) (4) ((Z (11 + 4 * c) 7))) (8) ((md + 1) % 64) (nI 0)) (7) (5) ((Z 7 5) - tbz (Z 8 ((md + 1) % 64)))) (9) ((md + 1) % 64) (nI 0)) (7) (5) (((Z 7 5) - tbz (Z 8 ((md + 1) % 64))) - tbz (Z 9 ((md + 1) % 64)))) (7) (3) ((Z 7 3) + nI 1))) ∨ ((((Z 8 ((md + 1) % 64)).toInt) = 0 ∧ ((Z (14 + 4 * c) po).toInt) = 0 ∧ ac < 100) ∧ r = (-3) ∧ Z' = (zu (zu (zu (zu (zu (zu (zu (zu (zu (zu (zu (zu (zu (zu (zu Z (7) (2) (nI (md + 1))) (10) (0) (nI c)) (10) (1) (nI po)) (10) (2) ((Z (13 + 4 * c) po))) (10) (3) (nI (md + 1))) (10) (4) ((Z (11 + 4 * c) 7))) (8) ((md + 1) % 64) (nI 0)) (7) (5) ((Z 7 5) - tbz (Z 8 ((md + 1) % 64)))) (9) ((md + 1) % 64) (nI 0)) (7) (5) (((Z 7 5) - tbz (Z 8 ((md + 1) % 64))) - tbz (Z 9 ((md + 1) % 64)))) (5) (ac) (nI c)) (6) (ac) (nI po)) (3) (4) (nI (ac + 1))) (11 + 4 * c) (6) (if (Z (11 + 4 * c) 6) < (Z (13 + 4 * c) po) then (Z (13 + 4 * c) po) else (Z (11 + 4 * c) 6))) (11 + 4 * c) (5) (nI (po + 1)))) ∨ ((((Z 8 ((md + 1) % 64)).toInt) = 0 ∧ ((Z (14 + 4 * c) po).toInt) = 0 ∧ 100 ≤ ac) ∧ r = (-3) ∧ Z' = (zu (zu (zu (zu (zu (zu (zu (zu (zu (zu (zu (zu Z (7) (2) (nI (md + 1))) (10) (0) (nI c)) (10) (1) (nI po)) (10) (2) ((Z (13 + 4 * c) po))) (10) (3) (nI (md + 1))) (10) (4) ((Z (11 + 4 * c) 7))) (8) ((md + 1) % 64) (nI 0)) (7) (5) ((Z 7 5) - tbz (Z 8 ((md + 1) % 64)))) (9) ((md + 1) % 64) (nI 0)) (7) (5) (((Z 7 5) - tbz (Z 8 ((md + 1) % 64))) - tbz (Z 9 ((md + 1) % 64)))) (11 + 4 * c) (6) (if (Z (11 + 4 * c) 6) < (Z (13 + 4 * c) po) then (Z (13 + 4 * c) po) else (Z (11 + 4 * c) 6))) (11 + 4 * c) (5) (nI (po + 1)))) ∨ ((((Z 8 ((md + 1) % 64)).toInt) = 0 ∧ ((Z (14 + 4 * c) po).toInt) ≠ 0 ∧ ((Z 4 nu).toInt) ≠ 0) ∧ r = (-4) ∧ Z' = (zu (zu (zu (zu (zu (zu (zu (zu (zu (zu (zu (zu (zu Z (7) (2) (nI (md + 1))) (10) (0) (nI c)) (10) (1) (nI po)) (10) (2) ((Z (13 + 4 * c) po))) (10) (3) (nI (md + 1))) (10) (4) ((Z (11 + 4 * c) 7))) (8) ((md + 1) % 64) (nI 0)) (7) (5) ((Z 7 5) - tbz (Z 8 ((md + 1) % 64)))) (9) ((md + 1) % 64) (nI 0)) (7) (5) (((Z 7 5) - tbz (Z 8 ((md + 1) % 64))) - tbz (Z 9 ((md + 1) % 64)))) (7) (4) ((Z 7 4) + nI 1)) (11 + 4 * c) (6) (if (Z (11 + 4 * c) 6) < (Z (13 + 4 * c) po) then (Z (13 + 4 * c) po) else (Z (11 + 4 * c) 6))) (11 + 4 * c) (5) (nI (po + 1)))) ∨ ((((Z 8 ((md + 1) % 64)).toInt) = 0 ∧ ((Z (14 + 4 * c) po).toInt) ≠ 0 ∧ ((Z 4 nu).toInt) = 0 ∧ ((Z 9 ((md + 1) % 64)).toInt) = 0) ∧ r = nI nu ∧ Z' = (zu (zu (zu (zu (zu (zu (zu (zu (zu (zu (zu (zu (zu (zu Z (7) (2) (nI (md + 1))) (10) (0) (nI c)) (10) (1) (nI po)) (10) (2) ((Z (13 + 4 * c) po))) (10) (3) (nI (md + 1))) (10) (4) ((Z (11 + 4 * c) 7))) (8) ((md + 1) % 64) (nI 0)) (7) (5) ((Z 7 5) - tbz (Z 8 ((md + 1) % 64)))) (9) ((md + 1) % 64) (nI 0)) (7) (5) (((Z 7 5) - tbz (Z 8 ((md + 1) % 64))) - tbz (Z 9 ((md + 1) % 64)))) (4) (nu) (nI 1)) (3) (3) ((Z 3 3) + nI 1)) (11 + 4 * c) (6) (if (Z (11 + 4 * c) 6) < (Z (13 + 4 * c) po) then (Z (13 + 4 * c) po) else (Z (11 + 4 * c) 6))) (11 + 4 * c) (5) (nI (po + 1)))) ∨ ((((Z 8 ((md + 1) % 64)).toInt) = 0 ∧ ((Z (14 + 4 * c) po).toInt) ≠ 0 ∧ ((Z 4 nu).toInt) = 0 ∧ ((Z 9 ((md + 1) % 64)).toInt) ≠ 0) ∧ r = nI nu ∧ Z' = (zu (zu (zu (zu (zu (zu (zu (zu (zu (zu (zu (zu Z (7) (2) (nI (md + 1))) (10) (0) (nI c)) (10) (1) (nI po)) (10) (2) ((Z (13 + 4 * c) po))) (10) (3) (nI (md + 1))) (10) (4) ((Z (11 + 4 * c) 7))) (8) ((md + 1) % 64) (nI 0)) (7) (5) ((Z 7 5) - tbz (Z 8 ((md + 1) % 64)))) (9) ((md + 1) % 64) (nI 0)) (7) (5) (((Z 7 5) - tbz (Z 8 ((md + 1) % 64))) - tbz (Z 9 ((md + 1) % 64)))) (4) (nu) (nI 1)) (3) (3) ((Z 3 3) + nI 1)))
theorem zpo_of {Z : ZT} {np : Nat} {po : Nat → Nat} (hpon : ∀ i, i < np → Z (11 + 4 * i) 5 = nI (po i)) (hpo40 : ∀ i, i < np → po i ≤ 40) : ∀ i, i < np → 0 ≤ (Z (11 + 4 * i) 5).toInt := fun i hi => by
  rw [hpon i hi, nI_toInt (by have := hpo40 i hi; omega)]
  omega
set_option maxRecDepth 100000 in
set_option maxHeartbeats 4000000 in
theorem kX4_read {l : Launch} {D : va_G} {Y : YT} {b0 : Nat} {G : GT} (hD : GD b0 G) (hG : Gok 113 G) {Z : ZT} {np : Nat} (hnp : Z 0 5 = nI np) (hnp12 : np ≤ 12) {nt : Int32} {ntI : Int} (hnt : Z 0 7 = nt) (hntI : nt.toInt = ntI) {rc : Nat → Nat} (hrc : ∀ i, i < np → Z (11 + 4 * i) 3 = nI (rc i) ∧ rc i ≤ 40) {po : Nat → Nat} (hpon : ∀ i, i < np → Z (11 + 4 * i) 5 = nI (po i)) (hpo40 : ∀ i, i < np → po i ≤ 40) {nu : Nat → Nat → Nat} (hnu : ∀ i, i < np → ∀ j, j < rc i → Z (12 + 4 * i) j = nI (nu i j) ∧ nu i j < 256) {md ac : Nat} (hmd : Z 7 2 = nI md) (hmd9 : md < 2 ^ 19) (hac : Z 3 4 = nI ac) (hac100 : ac ≤ 100) (p0 : Int32) : CI l D Y b0 G yX4_read cX4_read 3 (some .int) 4 [.ref (G.2.1 (0)), .int (p0)] Z (fun r Z' => ((p0.toInt < 0 ∨ ntI ≤ p0.toInt) ∧ r = (-11) ∧ Z' = Z) ∨ ((0 ≤ p0.toInt ∧ p0.toInt < ntI) ∧ nxb (rtC Z p0) (ncC Z p0) np = none ∧ r = (-1) ∧ Z' = zpf Z np (fun i _ => ncC Z p0 i) [7]) ∨ ((0 ≤ p0.toInt ∧ p0.toInt < ntI) ∧ ∃ c, nxb (rtC Z p0) (ncC Z p0) np = some c ∧ DFx (zu (zpf Z np (fun i _ => ncC Z p0 i) [7]) (11 + 4 * c) 7 (ncC Z p0 c - nxs (rtC Z p0) (shC Z) np)) c (po c) (nu c (po c)) md ac r Z')) := by
  refine ci_start (lv0 := [(0, .ref (G.2.1 (0))), (1, .int (p0))]) hD rfl rfl (Nat.le_of_ble_eq_true rfl) rfl ?_
  intro E C R hR hD hN
  have hpo := zpo_of hpon hpo40
  refine j_aload_n C 0 dX4_read_0 rfl rfl ?_
  refine j_iload_n C 1 dX4_read_1 rfl rfl ?_
  refine j_callI C hR (kX4_isTask hD hG (nt := nt) (ntI := ntI) hnt hntI (p0 := p0) (b := (p0).toInt) rfl) [] zmX4_isTask zk_X4_86 zK4 (zb_X hG) (zs_X hG) (by decide) rfl rfl (Nat.le_of_ble_eq_true rfl) dX4_read_2 (fun r2 Z2 h2 => ?_)
  obtain ⟨e2, ⟨rfl, h2⟩ | ⟨rfl, h2⟩⟩ := h2
  ·
    refine j_Z e2 ?_
    refine j_if_ne (tgt := 11) (a := ((1 : Nat) : Int)) C (nI_toInt (by omega)) dX4_read_5 (by decide) (fun c5 => ?_) (fun c5 => absurd c5 (by omega))
    refine j_aload_n C 0 dX4_read_11 rfl rfl ?_
    refine j_iload_n C 1 dX4_read_12 rfl rfl ?_
    refine j_callI C hR (kX4_chooseByCredit hD hG (np := np) hnp (by omega) hpo (p0)) [] zmX4_chooseByCredit zk_X4_96 zK4 (zb_X hG) (zs_X hG) (by decide) rfl rfl (Nat.le_of_ble_eq_true rfl) dX4_read_13 (fun r13 Z13 h13 => ?_)
    rcases h13 with ⟨hb, rfl, e13⟩ | ⟨c, hb, rfl, e13⟩
    ·
      refine j_Z (Z' := (zpf Z (np) (fun i _ => ncC Z p0 i) [7])) e13 ?_
      refine j_istore_n (lv' := [(2, .int (-1)), (0, .ref (G.2.1 (0))), (1, .int (p0))]) C dX4_read_16 rfl (by rw [hN]; decide) rfl ?_
      refine j_aload_n C 1 dX4_read_17 rfl rfl ?_
      refine j_iload_n C 0 dX4_read_18 rfl rfl ?_
      refine j_callI C hR (kX4_isPart hD hG (np := nI np) (npI := ((np : Nat) : Int)) ((zpf_o (by omega)).trans (hnp)) (nI_toInt (by omega)) (p0 := -1) (b := -1) (show ((-1 : Int32)).toInt = -1 by decide)) [] zmX4_isPart zk_X4_52 zK4 (zb_X hG) (zs_X hG) (by decide) rfl rfl (Nat.le_of_ble_eq_true rfl) dX4_read_19 (fun r19 Z19 h19 => ?_)
      obtain ⟨e19, ⟨rfl, h19⟩ | ⟨rfl, h19⟩⟩ := h19
      ·
        refine j_Z e19 ?_
        exact absurd h19 (by omega)
      ·
        refine j_Z e19 ?_
        refine j_if_ne (tgt := 27) (a := ((0 : Nat) : Int)) C (nI_toInt (by omega)) dX4_read_22 (by decide) (fun c22 => absurd c22 (by omega)) (fun c22 => ?_)
        refine j_iconst C (-1) dX4_read_25 (by decide) ?_
        refine j_iret C R dX4_read_26 ?_
        exact Or.inr (Or.inl ⟨by omega, hb, rfl, rfl⟩)
    ·
      refine j_Z (Z' := (zu (zpf Z (np) (fun i _ => ncC Z p0 i) [7]) (11 + 4 * c) (7) (ncC Z p0 c - nxs (rtC Z p0) (shC Z) np))) e13 ?_
      obtain ⟨hcn, hrtc⟩ := nxb_spec hb
      obtain ⟨hrcc, hrc40⟩ := hrc c hcn
      have hpoc := hpon c hcn
      have hpo9 := hpo40 c hcn
      have hlt : po c < rc c := by
        have q := (of_decide_eq_true hrtc).2
        rw [hrcc, hpoc, nI_toInt (by omega), nI_toInt (by omega)] at q
        omega
      obtain ⟨hnuc, hnu256⟩ := hnu c hcn (po c) hlt
      refine j_istore_n (lv' := [(2, .int (nI c)), (0, .ref (G.2.1 (0))), (1, .int (p0))]) C dX4_read_16 rfl (by rw [hN]; decide) rfl ?_
      refine j_aload_n C 1 dX4_read_17 rfl rfl ?_
      refine j_iload_n C 0 dX4_read_18 rfl rfl ?_
      refine j_callI C hR (kX4_isPart hD hG (np := nI np) (npI := ((np : Nat) : Int)) ((zu_o (by omega)).trans ((zpf_o (by omega)).trans (hnp))) (nI_toInt (by omega)) (p0 := nI c) (b := ((c : Nat) : Int)) (nI_toInt (by omega))) [] zmX4_isPart zk_X4_52 zK4 (zb_X hG) (zs_X hG) (by decide) rfl rfl (Nat.le_of_ble_eq_true rfl) dX4_read_19 (fun r19 Z19 h19 => ?_)
      obtain ⟨e19, ⟨rfl, h19⟩ | ⟨rfl, h19⟩⟩ := h19
      ·
        refine j_Z e19 ?_
        refine j_if_ne (tgt := 27) (a := ((1 : Nat) : Int)) C (nI_toInt (by omega)) dX4_read_22 (by decide) (fun c22 => ?_) (fun c22 => absurd c22 (by omega))
        refine j_aload_n C 1 dX4_read_27 rfl rfl ?_
        refine j_iload_n C 0 dX4_read_28 rfl rfl ?_
        refine j_callI C hR (kX4_deliverFrom hD hG (Z := (zu (zpf Z (np) (fun i _ => ncC Z p0 i) [7]) (11 + 4 * c) (7) (ncC Z p0 c - nxs (rtC Z p0) (shC Z) np))) (c := c) (rc := rc c) (po := po c) (nu := nu c (po c)) (md := md) (ac := ac) (by omega) ((zu_o (by omega)).trans ((zpf_f (by decide)).trans (hrcc))) (by omega) ((zu_o (by omega)).trans ((zpf_f (by decide)).trans (hpoc))) (by omega) rfl rfl rfl ((zu_o (by omega)).trans ((zpf_o (by omega)).trans (hnuc))) (by omega) rfl rfl ((zu_o (by omega)).trans ((zpf_o (by omega)).trans (hmd))) (by omega) rfl rfl rfl rfl rfl rfl rfl rfl rfl rfl ((zu_o (by omega)).trans ((zpf_o (by omega)).trans (hac))) (by omega)) [] zmX4_deliverFrom zk_X4_100 zK4 (zb_X hG) (zs_X hG) (by decide) rfl rfl (Nat.le_of_ble_eq_true rfl) dX4_read_29 (fun r29 Z29 h29 => ?_)
        refine j_iret C R dX4_read_32 ?_
        exact Or.inr (Or.inr ⟨by omega, c, hb, h29⟩)
      ·
        refine j_Z e19 ?_
        exact absurd h19 (by omega)
  ·
    refine j_Z e2 ?_
    refine j_if_ne (tgt := 11) (a := ((0 : Nat) : Int)) C (nI_toInt (by omega)) dX4_read_5 (by decide) (fun c5 => absurd c5 (by omega)) (fun c5 => ?_)
    refine j_bipush C (-11) dX4_read_8 (by decide) ?_
    refine j_iret C R dX4_read_10 ?_
    exact Or.inl ⟨by omega, rfl, rfl⟩
set_option maxRecDepth 100000 in
set_option maxHeartbeats 4000000 in
theorem kX4_lose {l : Launch} {D : va_G} {Y : YT} {b0 : Nat} {G : GT} (hD : GD b0 G) (hG : Gok 113 G) {Z : ZT} {md : Nat} (hmd : Z 7 2 = nI md) (hmd9 : md < 2 ^ 19) (p0 p1 : Int32) : CI l D Y b0 G yX4_lose cX4_lose 3 (some .int) 1 [.ref (G.2.1 (0)), .int (p0), .int (p1)] Z (fun r Z' => ((p0.toInt < 1 ∨ 50 < p0.toInt) ∧ r = (-12) ∧ Z' = Z) ∨ ∃ a : Nat, a < 51 ∧ p0 = nI a ∧ 1 ≤ p0.toInt ∧ (((p1.toInt = 0 ∧ (Z 8 ((md + a) % 64)).toInt ≠ 0) ∧ r = nI 0 ∧ Z' = Z) ∨ ((p1.toInt = 0 ∧ (Z 8 ((md + a) % 64)).toInt = 0) ∧ r = nI 1 ∧ Z' = (zu (zu Z (8) ((md + a) % 64) (nI 1)) (7) (5) (Z 7 5 + nI 1))) ∨ ((p1.toInt ≠ 0 ∧ (Z 9 ((md + a) % 64)).toInt ≠ 0) ∧ r = nI 0 ∧ Z' = Z) ∨ ((p1.toInt ≠ 0 ∧ (Z 9 ((md + a) % 64)).toInt = 0) ∧ r = nI 1 ∧ Z' = (zu (zu Z (9) ((md + a) % 64) (nI 1)) (7) (5) (Z 7 5 + nI 1))))) := by
  refine ci_start (lv0 := [(0, .ref (G.2.1 (0))), (1, .int (p0)), (2, .int (p1))]) hD rfl rfl (Nat.le_of_ble_eq_true rfl) rfl ?_
  intro E C R hR hD hN
  refine j_iload_n C 1 dX4_lose_0 rfl rfl ?_
  refine j_iconst C (nI 1) dX4_lose_1 (by decide) ?_
  refine j_icmp_lt (tgt := 11) (a := (p0).toInt) (b := ((1 : Nat) : Int)) C rfl (nI_toInt (by omega)) dX4_lose_2 (by decide) (fun c2 => ?_) (fun c2 => ?_)
  ·
    refine j_bipush C (-12) dX4_lose_11 (by decide) ?_
    refine j_iret C R dX4_lose_13 ?_
    exact Or.inl ⟨by omega, rfl, rfl⟩
  ·
    refine j_iload_n C 1 dX4_lose_5 rfl rfl ?_
    refine j_bipush C (nI 50) dX4_lose_6 (by decide) ?_
    refine j_icmp_le (tgt := 14) (a := (p0).toInt) (b := ((50 : Nat) : Int)) C rfl (nI_toInt (by omega)) dX4_lose_8 (by decide) (fun c8 => ?_) (fun c8 => ?_)
    ·
      obtain ⟨a, ha, rfl⟩ := zi_nat (x := p0) (n := 51) (by omega) (by omega)
      refine j_aload_n C 0 dX4_lose_14 rfl rfl ?_
      refine j_getR C zK4 (zb_X hG) (zs_X hG) (f := 3) (by decide) rfl zk_X4_31 rfl (zf_X_3 hG) dX4_lose_15 ?_
      refine j_iload_n C 1 dX4_lose_18 rfl rfl ?_
      refine j_iload_n C 2 dX4_lose_19 rfl rfl ?_
      refine j_callIN C hR (kX0_tell hD hG (md := md) (a := a) hmd (by omega) rfl rfl rfl rfl rfl (p1 := p1) (p1I := (p1).toInt) rfl) [] zmX0_tell zk_X4_103 zK0 (zb_Del hG) (zs_Del hG) (by decide) rfl rfl (Nat.le_of_ble_eq_true rfl) dX4_lose_20 (fun r20 Z20 h20 => ?_)
      rcases h20 with ⟨q1, ⟨q2, rfl, e20⟩ | ⟨q2, rfl, e20⟩⟩ | ⟨q1, ⟨q2, rfl, e20⟩ | ⟨q2, rfl, e20⟩⟩
      ·
        refine j_Z (Z' := Z) e20 ?_
        refine j_if_eq (tgt := 30) (a := ((0 : Nat) : Int)) C (nI_toInt (by omega)) dX4_lose_23 (by decide) (fun c23 => ?_) (fun c23 => absurd c23 (by omega))
        refine j_iconst C (nI 0) dX4_lose_30 (by decide) ?_
        refine j_iret C R dX4_lose_31 ?_
        first | exact Or.inr ⟨a, ha, rfl, by omega, (Or.inl ⟨by exact ⟨q1, q2⟩, rfl, rfl⟩)⟩ | exact Or.inr ⟨a, ha, rfl, by omega, (Or.inr (Or.inl ⟨by exact ⟨q1, q2⟩, rfl, rfl⟩))⟩ | exact Or.inr ⟨a, ha, rfl, by omega, (Or.inr (Or.inr (Or.inl ⟨by exact ⟨q1, q2⟩, rfl, rfl⟩)))⟩ | exact Or.inr ⟨a, ha, rfl, by omega, (Or.inr (Or.inr (Or.inr (⟨by exact ⟨q1, q2⟩, rfl, rfl⟩))))⟩
      ·
        refine j_Z (Z' := (zu (zu Z (8) ((md + a) % 64) (nI 1)) (7) (5) (Z 7 5 + nI 1))) e20 ?_
        refine j_if_eq (tgt := 30) (a := ((1 : Nat) : Int)) C (nI_toInt (by omega)) dX4_lose_23 (by decide) (fun c23 => absurd c23 (by omega)) (fun c23 => ?_)
        refine j_iconst C (nI 1) dX4_lose_26 (by decide) ?_
        refine j_goto (tgt := 31) C dX4_lose_27 (by decide) ?_
        refine j_iret C R dX4_lose_31 ?_
        first | exact Or.inr ⟨a, ha, rfl, by omega, (Or.inl ⟨by exact ⟨q1, q2⟩, rfl, rfl⟩)⟩ | exact Or.inr ⟨a, ha, rfl, by omega, (Or.inr (Or.inl ⟨by exact ⟨q1, q2⟩, rfl, rfl⟩))⟩ | exact Or.inr ⟨a, ha, rfl, by omega, (Or.inr (Or.inr (Or.inl ⟨by exact ⟨q1, q2⟩, rfl, rfl⟩)))⟩ | exact Or.inr ⟨a, ha, rfl, by omega, (Or.inr (Or.inr (Or.inr (⟨by exact ⟨q1, q2⟩, rfl, rfl⟩))))⟩
      ·
        refine j_Z (Z' := Z) e20 ?_
        refine j_if_eq (tgt := 30) (a := ((0 : Nat) : Int)) C (nI_toInt (by omega)) dX4_lose_23 (by decide) (fun c23 => ?_) (fun c23 => absurd c23 (by omega))
        refine j_iconst C (nI 0) dX4_lose_30 (by decide) ?_
        refine j_iret C R dX4_lose_31 ?_
        first | exact Or.inr ⟨a, ha, rfl, by omega, (Or.inl ⟨by exact ⟨q1, q2⟩, rfl, rfl⟩)⟩ | exact Or.inr ⟨a, ha, rfl, by omega, (Or.inr (Or.inl ⟨by exact ⟨q1, q2⟩, rfl, rfl⟩))⟩ | exact Or.inr ⟨a, ha, rfl, by omega, (Or.inr (Or.inr (Or.inl ⟨by exact ⟨q1, q2⟩, rfl, rfl⟩)))⟩ | exact Or.inr ⟨a, ha, rfl, by omega, (Or.inr (Or.inr (Or.inr (⟨by exact ⟨q1, q2⟩, rfl, rfl⟩))))⟩
      ·
        refine j_Z (Z' := (zu (zu Z (9) ((md + a) % 64) (nI 1)) (7) (5) (Z 7 5 + nI 1))) e20 ?_
        refine j_if_eq (tgt := 30) (a := ((1 : Nat) : Int)) C (nI_toInt (by omega)) dX4_lose_23 (by decide) (fun c23 => absurd c23 (by omega)) (fun c23 => ?_)
        refine j_iconst C (nI 1) dX4_lose_26 (by decide) ?_
        refine j_goto (tgt := 31) C dX4_lose_27 (by decide) ?_
        refine j_iret C R dX4_lose_31 ?_
        first | exact Or.inr ⟨a, ha, rfl, by omega, (Or.inl ⟨by exact ⟨q1, q2⟩, rfl, rfl⟩)⟩ | exact Or.inr ⟨a, ha, rfl, by omega, (Or.inr (Or.inl ⟨by exact ⟨q1, q2⟩, rfl, rfl⟩))⟩ | exact Or.inr ⟨a, ha, rfl, by omega, (Or.inr (Or.inr (Or.inl ⟨by exact ⟨q1, q2⟩, rfl, rfl⟩)))⟩ | exact Or.inr ⟨a, ha, rfl, by omega, (Or.inr (Or.inr (Or.inr (⟨by exact ⟨q1, q2⟩, rfl, rfl⟩))))⟩
    ·
      refine j_bipush C (-12) dX4_lose_11 (by decide) ?_
      refine j_iret C R dX4_lose_13 ?_
      exact Or.inl ⟨by omega, rfl, rfl⟩
set_option maxRecDepth 100000 in
set_option maxHeartbeats 4000000 in
theorem kX4_mark {l : Launch} {D : va_G} {Y : YT} {b0 : Nat} {G : GT} (hD : GD b0 G) (hG : Gok 113 G) {Z : ZT} {np : Nat} (hnp : Z 0 5 = nI np) (hnp12 : np ≤ 12) {nm : Nat} (hnm : Z 0 6 = nI nm) (hnm6 : nm ≤ 6) (hz : ∀ b, b < 256 → Z 4 b = 0 ∨ Z 4 b = 1) : CI l D Y b0 G yX4_mark cX4_mark 1 (some .int) 4 [.ref (G.2.1 (0))] Z (fun r Z' => ((6 ≤ nm) ∧ r = (-14) ∧ Z' = Z) ∨ ((nm < 6) ∧ r = nI nm ∧ Z' = (zu (zu (zu (zcpy (zcpy (zcpy (zkp (zu Z (59 + 9 * nm) (5) (nI np)) nm np) (4) (65 + 9 * nm) (256)) (5) (66 + 9 * nm) (100)) (6) (67 + 9 * nm) (100)) (64 + 9 * nm) (3) (Z 3 3)) (64 + 9 * nm) (4) (Z 3 4)) (0) (6) (nI (nm + 1))))) := by
  refine ci_start (lv0 := [(0, .ref (G.2.1 (0)))]) hD rfl rfl (Nat.le_of_ble_eq_true rfl) rfl ?_
  intro E C R hR hD hN
  refine j_aload_n C 0 dX4_mark_0 rfl rfl ?_
  refine j_getI C zK4 (zb_X hG) (zs_X hG) (f := 6) (by decide) rfl zk_X4_107 rfl (nI nm) hnm dX4_mark_1 ?_
  refine j_bipush C (nI 6) dX4_mark_4 (by decide) ?_
  refine j_icmp_lt (tgt := 12) (a := ((nm : Nat) : Int)) (b := ((6 : Nat) : Int)) C (nI_toInt (by omega)) (nI_toInt (by omega)) dX4_mark_6 (by decide) (fun c6 => ?_) (fun c6 => ?_)
  ·
    refine j_aload_n C 0 dX4_mark_12 rfl rfl ?_
    refine j_getR C zK4 (zb_X hG) (zs_X hG) (f := 1) (by decide) rfl zk_X4_17 rfl (zf_X_1 hG) dX4_mark_13 ?_
    refine j_aload_n C 0 dX4_mark_16 rfl rfl ?_
    refine j_getI C zK4 (zb_X hG) (zs_X hG) (f := 6) (by decide) rfl zk_X4_107 rfl (nI nm) hnm dX4_mark_17 ?_
    refine j_aldM C (zb_Mks hG) (zs_Mks hG) (zl_Mks hG) rfl (by omega) (by decide) (zf_Mks hG (by omega)) dX4_mark_20 ?_
    refine j_aload_n C 0 dX4_mark_21 rfl rfl ?_
    refine j_getR C zK4 (zb_X hG) (zs_X hG) (f := 0) (by decide) rfl zk_X4_11 rfl (zf_X_0 hG) dX4_mark_22 ?_
    refine j_aload_n C 0 dX4_mark_25 rfl rfl ?_
    refine j_getI C zK4 (zb_X hG) (zs_X hG) (f := 5) (by decide) rfl zk_X4_44 rfl (nI np) hnp dX4_mark_26 ?_
    refine j_aload_n C 0 dX4_mark_29 rfl rfl ?_
    refine j_getR C zK4 (zb_X hG) (zs_X hG) (f := 2) (by decide) rfl zk_X4_24 rfl (zf_X_2 hG) dX4_mark_30 ?_
    refine j_callVN C hR (kX2_keep hD hG (m := nm) (np := np) (by omega) (by omega) hz) [] zmX2_keep zk_X4_110 zK2 (zb_Mark hG (by omega)) (zs_Mark hG (by omega)) (by decide) rfl rfl (Nat.le_of_ble_eq_true rfl) dX4_mark_33 (fun Z33 h33 => ?_)
    refine j_Z (Z' := (zu (zu (zcpy (zcpy (zcpy (zkp (zu Z (59 + 9 * nm) (5) (nI np)) nm np) (4) (65 + 9 * nm) (256)) (5) (66 + 9 * nm) (100)) (6) (67 + 9 * nm) (100)) (64 + 9 * nm) (3) (Z 3 3)) (64 + 9 * nm) (4) (Z 3 4))) h33 ?_
    refine j_aload_n C 0 dX4_mark_36 rfl rfl ?_
    refine j_dup C dX4_mark_37 rfl ?_
    refine j_getI C zK4 (zb_X hG) (zs_X hG) (f := 6) (by decide) rfl zk_X4_107 rfl (nI nm) ((zu_o (by omega)).trans ((zu_o (by omega)).trans ((zcpy_o (by omega)).trans ((zcpy_o (by omega)).trans ((zcpy_o (by omega)).trans ((zkp_o (by omega)).trans ((zu_o (by omega)).trans (hnm)))))))) dX4_mark_38 ?_
    refine j_iconst C (nI 1) dX4_mark_41 (by decide) ?_
    refine j_iadd C (nI (nm + 1)) dX4_mark_42 (nI_add nm 1) ?_
    refine j_putI C hD zK4 (zb_X hG) (zs_X hG) (f := 6) (by decide) rfl zk_X4_107 rfl rfl rfl rfl dX4_mark_43 ?_
    refine j_aload_n C 0 dX4_mark_46 rfl rfl ?_
    refine j_getI C zK4 (zb_X hG) (zs_X hG) (f := 6) (by decide) rfl zk_X4_107 rfl (nI (nm + 1)) zu_s dX4_mark_47 ?_
    refine j_iconst C (nI 1) dX4_mark_50 (by decide) ?_
    refine j_isub C (nI nm) dX4_mark_51 (pk_sub (by omega)) ?_
    refine j_iret C R dX4_mark_52 ?_
    first | exact Or.inl ⟨by omega, rfl, rfl⟩ | exact Or.inr (⟨by omega, rfl, rfl⟩)
  ·
    refine j_bipush C (-14) dX4_mark_9 (by decide) ?_
    refine j_iret C R dX4_mark_11 ?_
    first | exact Or.inl ⟨by omega, rfl, rfl⟩ | exact Or.inr (⟨by omega, rfl, rfl⟩)
set_option maxRecDepth 100000 in
set_option maxHeartbeats 4000000 in
theorem kX4_split {l : Launch} {D : va_G} {Y : YT} {b0 : Nat} {G : GT} (hD : GD b0 G) (hG : Gok 113 G) {Z : ZT} {np : Nat} (hnp : Z 0 5 = nI np) (hnp12 : np ≤ 12) {rc : Nat → Nat} (hrc : ∀ i, i < np → Z (11 + 4 * i) 3 = nI (rc i) ∧ rc i ≤ 40) (hsn : ∀ i, i < np → ∀ j, j < 40 → Z (14 + 4 * i) j = 0 ∨ Z (14 + 4 * i) j = 1) (hen : ∀ i, i < np → Z (11 + 4 * i) 4 = 0 ∨ Z (11 + 4 * i) 4 = 1) (p0 p1 : Int32) : CI l D Y b0 G yX4_split cX4_split 5 (some .int) 3 [.ref (G.2.1 (0)), .int (p0), .int (p1)] Z (fun r Z' => ((p0.toInt < 0 ∨ (np : Int) ≤ p0.toInt) ∧ r = (-11) ∧ Z' = Z) ∨ ∃ p : Nat, p < np ∧ p0 = nI p ∧ (((p1.toInt < 0 ∨ (rc p : Int) ≤ p1.toInt) ∧ r = (-11) ∧ Z' = Z) ∨ ((0 ≤ p1.toInt ∧ p1.toInt < (rc p : Int) ∧ (p1.toInt = 0 ∨ p1.toInt < (Z (11 + 4 * p) 5).toInt)) ∧ r = (-13) ∧ Z' = Z) ∨ ((0 ≤ p1.toInt ∧ p1.toInt < (rc p : Int) ∧ p1.toInt ≠ 0 ∧ (Z (11 + 4 * p) 5).toInt ≤ p1.toInt ∧ 12 ≤ np) ∧ r = (-14) ∧ Z' = Z) ∨ (∃ q : Nat, q < rc p ∧ p1 = nI q ∧ (p1.toInt ≠ 0 ∧ (Z (11 + 4 * p) 5).toInt ≤ p1.toInt ∧ np < 12) ∧ r = nI np ∧ Z' = (zu (zu (zu (zmv (zu (zu (zu (zu (zu (zu (zu (zu (zu Z (11 + 4 * np) (3) (nI 0)) (11 + 4 * np) (4) (nI 0)) (11 + 4 * np) (8) (Z (11 + 4 * p) 8)) (11 + 4 * np) (10) (nI p)) (11 + 4 * np) (9) (-1)) (11 + 4 * np) (5) (nI 0)) (11 + 4 * np) (6) (-1)) (11 + 4 * np) (7) (nI 0)) (0) (5) (nI (np + 1))) p np q (rc p - q)) (11 + 4 * np) (4) (Z (11 + 4 * p) 4)) (11 + 4 * p) (3) (nI q)) (11 + 4 * p) (4) (nI 1))))) := by
  refine ci_start (lv0 := [(0, .ref (G.2.1 (0))), (1, .int (p0)), (2, .int (p1))]) hD rfl rfl (Nat.le_of_ble_eq_true rfl) rfl ?_
  intro E C R hR hD hN
  refine j_aload_n C 0 dX4_split_0 rfl rfl ?_
  refine j_iload_n C 1 dX4_split_1 rfl rfl ?_
  refine j_callI C hR (kX4_isPart hD hG (np := nI np) (npI := ((np : Nat) : Int)) hnp (nI_toInt (by omega)) (p0 := p0) (b := (p0).toInt) rfl) [] zmX4_isPart zk_X4_52 zK4 (zb_X hG) (zs_X hG) (by decide) rfl rfl (Nat.le_of_ble_eq_true rfl) dX4_split_2 (fun r2 Z2 h2 => ?_)
  obtain ⟨e2, ⟨rfl, h2⟩ | ⟨rfl, h2⟩⟩ := h2
  ·
    refine j_Z e2 ?_
    refine j_if_eq (tgt := 21) (a := ((1 : Nat) : Int)) C (nI_toInt (by omega)) dX4_split_5 (by decide) (fun c5 => absurd c5 (by omega)) (fun c5 => ?_)
    obtain ⟨p, hp, rfl⟩ := zi_nat (x := p0) (n := np) (by omega) (by omega)
    obtain ⟨hrcp, hrc40⟩ := hrc p hp
    refine j_aload_n C 0 dX4_split_8 rfl rfl ?_
    refine j_getR C zK4 (zb_X hG) (zs_X hG) (f := 0) (by decide) rfl zk_X4_11 rfl (zf_X_0 hG) dX4_split_9 ?_
    refine j_iload_n C 1 dX4_split_12 rfl rfl ?_
    refine j_aldP C (zb_Pts hG) (zs_Pts hG) (zl_Pts hG) rfl (by omega) (by decide) (zf_Pts hG (by omega)) dX4_split_13 ?_
    refine j_iload_n C 2 dX4_split_14 rfl rfl ?_
    refine j_callIN C hR (kX3_hasRow hD hG (i := p)  (by omega) (rc := nI (rc p)) (rcI := ((rc p : Nat) : Int)) hrcp (nI_toInt (by omega)) (p0 := p1) (b := (p1).toInt) rfl) [] zmX3_hasRow zk_X4_73 zK3 (zb_Part hG (by omega)) (zs_Part hG (by omega)) (by decide) rfl rfl (Nat.le_of_ble_eq_true rfl) dX4_split_15 (fun r15 Z15 h15 => ?_)
    obtain ⟨e15, ⟨rfl, h15⟩ | ⟨rfl, h15⟩⟩ := h15
    ·
      refine j_Z e15 ?_
      refine j_if_ne (tgt := 24) (a := ((1 : Nat) : Int)) C (nI_toInt (by omega)) dX4_split_18 (by decide) (fun c18 => ?_) (fun c18 => absurd c18 (by omega))
      refine j_aload_n C 0 dX4_split_24 rfl rfl ?_
      refine j_getR C zK4 (zb_X hG) (zs_X hG) (f := 0) (by decide) rfl zk_X4_11 rfl (zf_X_0 hG) dX4_split_25 ?_
      refine j_iload_n C 1 dX4_split_28 rfl rfl ?_
      refine j_aldP C (zb_Pts hG) (zs_Pts hG) (zl_Pts hG) rfl (by omega) (by decide) (zf_Pts hG (by omega)) dX4_split_29 ?_
      refine j_astore_n (lv' := [(3, .ref (G.2.1 (11 + 4 * p))), (0, .ref (G.2.1 (0))), (1, .int (nI p)), (2, .int (p1))]) C dX4_split_30 rfl (by rw [hN]; decide) rfl ?_
      refine j_iload_n C 3 dX4_split_31 rfl rfl ?_
      refine j_if_eq (tgt := 43) (a := (p1).toInt) C rfl dX4_split_32 (by decide) (fun c32 => ?_) (fun c32 => ?_)
      ·
        refine j_bipush C (-13) dX4_split_43 (by decide) ?_
        refine j_iret C R dX4_split_45 ?_
        exact Or.inr ⟨p, hp, rfl, Or.inr (Or.inl ⟨by omega, rfl, rfl⟩)⟩
      ·
        refine j_iload_n C 3 dX4_split_35 rfl rfl ?_
        refine j_aload_n C 0 dX4_split_36 rfl rfl ?_
        refine j_getIN C zK3 (zb_Part hG (by omega)) (zs_Part hG (by omega)) (f := 5) (by decide) rfl zk_X4_76 rfl (Z (11 + 4 * p) (5)) rfl dX4_split_37 ?_
        refine j_icmp_ge (tgt := 46) (a := (p1).toInt) (b := (Z (11 + 4 * p) (5)).toInt) C rfl rfl dX4_split_40 (by decide) (fun c40 => ?_) (fun c40 => ?_)
        ·
          refine j_aload_n C 1 dX4_split_46 rfl rfl ?_
          refine j_getI C zK4 (zb_X hG) (zs_X hG) (f := 5) (by decide) rfl zk_X4_44 rfl (nI np) hnp dX4_split_47 ?_
          refine j_bipush C (nI 12) dX4_split_50 (by decide) ?_
          refine j_icmp_lt (tgt := 58) (a := ((np : Nat) : Int)) (b := ((12 : Nat) : Int)) C (nI_toInt (by omega)) (nI_toInt (by omega)) dX4_split_52 (by decide) (fun c52 => ?_) (fun c52 => ?_)
          ·
            obtain ⟨q, hq, rfl⟩ := zi_nat (x := p1) (n := (rc p)) (by omega) (by omega)
            refine j_aload_n C 1 dX4_split_58 rfl rfl ?_
            refine j_aload_n C 0 dX4_split_59 rfl rfl ?_
            refine j_getIN C zK3 (zb_Part hG (by omega)) (zs_Part hG (by omega)) (f := 8) (by decide) rfl zk_X4_79 rfl (Z (11 + 4 * p) (8)) rfl dX4_split_60 ?_
            refine j_iload_n C 2 dX4_split_63 rfl rfl ?_
            refine j_callI C hR (kX4_addPart hD hG (np := np) hnp (by omega) (Z (11 + 4 * p) (8)) (nI p)) [] zmX4_addPart zk_X4_48 zK4 (zb_X hG) (zs_X hG) (by decide) rfl rfl (Nat.le_of_ble_eq_true rfl) dX4_split_64 (fun r64 Z64 h64 => ?_)
            obtain ⟨h64, rfl⟩ := h64
            refine j_Z (Z' := (zu (zu (zu (zu (zu (zu (zu (zu (zu Z (11 + 4 * np) (3) (nI 0)) (11 + 4 * np) (4) (nI 0)) (11 + 4 * np) (8) (Z (11 + 4 * p) (8))) (11 + 4 * np) (10) (nI p)) (11 + 4 * np) (9) (-1)) (11 + 4 * np) (5) (nI 0)) (11 + 4 * np) (6) (-1)) (11 + 4 * np) (7) (nI 0)) (0) (5) (nI (np + 1)))) h64 ?_
            refine j_istore (lv' := [(4, .int (nI np)), (3, .ref (G.2.1 (11 + 4 * p))), (0, .ref (G.2.1 (0))), (1, .int (nI p)), (2, .int (nI q))]) C dX4_split_67 (by rw [hN]; decide) rfl ?_
            refine j_aload_n C 1 dX4_split_69 rfl rfl ?_
            refine j_iload_n C 4 dX4_split_70 rfl rfl ?_
            refine j_aload_n C 2 dX4_split_71 rfl rfl ?_
            refine j_getR C zK4 (zb_X hG) (zs_X hG) (f := 0) (by decide) rfl zk_X4_11 rfl (zf_X_0 hG) dX4_split_72 ?_
            refine j_iload C 0 dX4_split_75 rfl ?_
            refine j_aldP C (zb_Pts hG) (zs_Pts hG) (zl_Pts hG) rfl (by omega) (by decide) (zf_Pts hG (by omega)) dX4_split_77 ?_
            refine j_callVN C hR (kX3_moveRowsFrom hD hG (i := p) (i2 := np) (by omega) (by omega) (by omega) (rc := rc p) (p := q) ((zu_o (by omega)).trans ((zu_o (by omega)).trans ((zu_o (by omega)).trans ((zu_o (by omega)).trans ((zu_o (by omega)).trans ((zu_o (by omega)).trans ((zu_o (by omega)).trans ((zu_o (by omega)).trans ((zu_o (by omega)).trans (hrcp)))))))))) (by omega) (by omega) ((zu_o (by omega)).trans ((zu_o (by omega)).trans ((zu_o (by omega)).trans ((zu_o (by omega)).trans ((zu_o (by omega)).trans ((zu_o (by omega)).trans ((zu_o (by omega)).trans ((zu_o (by omega)).trans (zu_s))))))))) (fun j hj => by rw [zu_o (by omega), zu_o (by omega), zu_o (by omega), zu_o (by omega), zu_o (by omega), zu_o (by omega), zu_o (by omega), zu_o (by omega), zu_o (by omega)]; exact hsn p hp j hj) (en := Z (11 + 4 * p) 4) ((zu_o (by omega)).trans ((zu_o (by omega)).trans ((zu_o (by omega)).trans ((zu_o (by omega)).trans ((zu_o (by omega)).trans ((zu_o (by omega)).trans ((zu_o (by omega)).trans ((zu_o (by omega)).trans ((zu_o (by omega))))))))))) (hen p hp)) [] zmX3_moveRowsFrom zk_X4_82 zK3 (zb_Part hG (by omega)) (zs_Part hG (by omega)) (by decide) rfl rfl (Nat.le_of_ble_eq_true rfl) dX4_split_78 (fun Z78 h78 => ?_)
            refine j_Z (Z' := (zu (zu (zu (zmv (zu (zu (zu (zu (zu (zu (zu (zu (zu Z (11 + 4 * np) (3) (nI 0)) (11 + 4 * np) (4) (nI 0)) (11 + 4 * np) (8) (Z (11 + 4 * p) 8)) (11 + 4 * np) (10) (nI p)) (11 + 4 * np) (9) (-1)) (11 + 4 * np) (5) (nI 0)) (11 + 4 * np) (6) (-1)) (11 + 4 * np) (7) (nI 0)) (0) (5) (nI (np + 1))) p np q (rc p - q)) (11 + 4 * np) (4) (Z (11 + 4 * p) 4)) (11 + 4 * p) (3) (nI q)) (11 + 4 * p) (4) (nI 1))) h78 ?_
            refine j_iload C 0 dX4_split_81 rfl ?_
            refine j_iret C R dX4_split_83 ?_
            exact Or.inr ⟨p, hp, rfl, Or.inr (Or.inr (Or.inr ⟨q, hq, rfl, by omega, rfl, rfl⟩))⟩
          ·
            refine j_bipush C (-14) dX4_split_55 (by decide) ?_
            refine j_iret C R dX4_split_57 ?_
            exact Or.inr ⟨p, hp, rfl, Or.inr (Or.inr (Or.inl ⟨by omega, rfl, rfl⟩))⟩
        ·
          refine j_bipush C (-13) dX4_split_43 (by decide) ?_
          refine j_iret C R dX4_split_45 ?_
          exact Or.inr ⟨p, hp, rfl, Or.inr (Or.inl ⟨by omega, rfl, rfl⟩)⟩
    ·
      refine j_Z e15 ?_
      refine j_if_ne (tgt := 24) (a := ((0 : Nat) : Int)) C (nI_toInt (by omega)) dX4_split_18 (by decide) (fun c18 => absurd c18 (by omega)) (fun c18 => ?_)
      refine j_bipush C (-11) dX4_split_21 (by decide) ?_
      refine j_iret C R dX4_split_23 ?_
      exact Or.inr ⟨p, hp, rfl, Or.inl ⟨by omega, rfl, rfl⟩⟩
  ·
    refine j_Z e2 ?_
    refine j_if_eq (tgt := 21) (a := ((0 : Nat) : Int)) C (nI_toInt (by omega)) dX4_split_5 (by decide) (fun c5 => ?_) (fun c5 => absurd c5 (by omega))
    refine j_bipush C (-11) dX4_split_21 (by decide) ?_
    refine j_iret C R dX4_split_23 ?_
    exact Or.inl ⟨by omega, rfl, rfl⟩
def rsC (Z : ZT) (m kp : Nat) (ntI : Int) (i b : Nat) : Int32 := if b = 5 then (if i < kp then Z (60 + 9 * m) i else nI 0) else if b = 6 then (if i < kp then Z (61 + 9 * m) i else -1) else if b = 7 then (if i < kp then Z (62 + 9 * m) i else nI 0) else (if i < kp ∧ (Z (63 + 9 * m) i).toInt < ntI then Z (63 + 9 * m) i else -1)
def mvC (Z : ZT) (m kp : Nat) (ntI : Int) (i : Nat) : Bool := decide ((rsC Z m kp ntI i 5).toInt ≠ (Z (11 + 4 * i) 5).toInt)
theorem rs_s {Z Zk : ZT} {m kp k : Nat} {ntI : Int} {a5 a6 a7 a9 : Int32} (hk : Zk = zpf Z k (rsC Z m kp ntI) [5, 6, 7, 9]) (h5 : a5 = rsC Z m kp ntI k 5) (h6 : a6 = rsC Z m kp ntI k 6) (h7 : a7 = rsC Z m kp ntI k 7) (h9 : a9 = rsC Z m kp ntI k 9) : zu (zu (zu (zu Zk (11 + 4 * k) 5 a5) (11 + 4 * k) 6 a6) (11 + 4 * k) 7 a7) (11 + 4 * k) 9 a9 = zpf Z (k + 1) (rsC Z m kp ntI) [5, 6, 7, 9] := by
  subst hk
  refine zpf_s (fun a b ha => ?_) (fun b hb => ?_) (fun b hb => ?_)
  · rw [zu_o (Or.inl ha), zu_o (Or.inl ha), zu_o (Or.inl ha), zu_o (Or.inl ha)]
  · simp only [List.mem_cons, List.mem_nil_iff, or_false] at hb
    rcases hb with rfl | rfl | rfl | rfl
    · rw [zu_o (by omega), zu_o (by omega), zu_o (by omega), zu_s, h5]
    · rw [zu_o (by omega), zu_o (by omega), zu_s, h6]
    · rw [zu_o (by omega), zu_s, h7]
    · rw [zu_s, h9]
  · simp only [List.mem_cons, List.mem_nil_iff, or_false, not_or] at hb
    rw [zu_o (by omega), zu_o (by omega), zu_o (by omega), zu_o (by omega), zpf_o (by omega)]
set_option maxRecDepth 100000 in
set_option maxHeartbeats 4000000 in
theorem kX4_restore {l : Launch} {D : va_G} {Y : YT} {b0 : Nat} {G : GT} (hD : GD b0 G) (hG : Gok 113 G) {Z : ZT} {np : Nat} (hnp : Z 0 5 = nI np) (hnp12 : np ≤ 12) {nm : Nat} (hnm : Z 0 6 = nI nm) (hnm6 : nm ≤ 6) {nt : Int32} {ntI : Int} (hnt : Z 0 7 = nt) (hntI : nt.toInt = ntI) (hkps : ∀ m, m < nm → ∃ kp : Nat, Z (59 + 9 * m) 5 = nI kp ∧ kp ≤ 12) (hmz : ∀ m, m < nm → ∀ b, b < 256 → Z (65 + 9 * m) b = 0 ∨ Z (65 + 9 * m) b = 1) (p0 : Int32) : CI l D Y b0 G yX4_restore cX4_restore 6 (some .int) 3 [.ref (G.2.1 (0)), .int (p0)] Z (fun r Z' => ((p0.toInt < 0 ∨ (nm : Int) ≤ p0.toInt) ∧ r = (-11) ∧ Z' = Z) ∨ ∃ m : Nat, m < nm ∧ p0 = nI m ∧ ∃ kp : Nat, Z (59 + 9 * m) 5 = nI kp ∧ r = nI (zcn (mvC Z m kp ntI) np) ∧ Z' = (zu (zu (zcpy (zcpy (zcpy (zpf Z np (rsC Z m kp ntI) [5, 6, 7, 9]) (65 + 9 * m) (4) (256)) (66 + 9 * m) (5) (100)) (67 + 9 * m) (6) (100)) (3) (3) (Z (64 + 9 * m) 3)) (3) (4) (Z (64 + 9 * m) 4))) := by
  refine ci_start (lv0 := [(0, .ref (G.2.1 (0))), (1, .int (p0))]) hD rfl rfl (Nat.le_of_ble_eq_true rfl) rfl ?_
  intro E C R hR hD hN
  have L27 : ∀ (n : Nat) (m kp : Nat) (hm : m < nm) (hpm : p0 = nI m) (hkp : Z (59 + 9 * m) 5 = nI kp) (hkp12 : kp ≤ 12) (k : Nat), np + 1 ≤ k + n → k ≤ np → J E 0 0 G 27 [(4, .int (nI k)), (3, .int (nI (zcn (mvC Z m kp ntI) k))), (0, .ref (G.2.1 (0))), (1, .int (nI m)), (2, .ref (G.2.1 (59 + 9 * m)))] [] (zpf Z (k) (rsC Z m kp ntI) [5, 6, 7, 9]) := by
    intro n
    induction n with
    | zero => intro m kp hm hpm hkp hkp12 k hn hk; exact absurd hn (by omega)
    | succ n ih =>
      intro m kp hm hpm hkp hkp12 k hn hk
      have z00 : (nI 0).toInt = 0 := rfl
      refine j_iload C 0 dX4_restore_27 rfl ?_
      refine j_aload_n C 2 dX4_restore_29 rfl rfl ?_
      refine j_getI C zK4 (zb_X hG) (zs_X hG) (f := 5) (by decide) rfl zk_X4_44 rfl (nI np) ((zpf_o (by omega)).trans (hnp)) dX4_restore_30 ?_
      refine j_icmp_ge (tgt := 89) (a := ((k : Nat) : Int)) (b := ((np : Nat) : Int)) C (nI_toInt (by omega)) (nI_toInt (by omega)) dX4_restore_33 (by decide) (fun c33 => ?_) (fun c33 => ?_)
      ·
        have e9 : k = np := by omega
        refine j_Z (Z' := (zpf Z np (rsC Z m kp ntI) [5, 6, 7, 9])) (by rw [e9]) ?_
        refine j_lv (lv' := [(4, .int (nI np)), (3, .int (nI (zcn (mvC Z m kp ntI) np))), (0, .ref (G.2.1 (0))), (1, .int (nI m)), (2, .ref (G.2.1 (59 + 9 * m)))]) (by rw [e9]) ?_
        refine j_aload_n C 2 dX4_restore_89 rfl rfl ?_
        refine j_getR C zK4 (zb_X hG) (zs_X hG) (f := 2) (by decide) rfl zk_X4_24 rfl (zf_X_2 hG) dX4_restore_90 ?_
        refine j_aload_n C 4 dX4_restore_93 rfl rfl ?_
        refine j_getRN C zK2 (zb_Mark hG (by omega)) (zs_Mark hG (by omega)) (f := 4) (by decide) rfl zk_X4_121 rfl (zf_Mark_4 hG (by omega)) dX4_restore_94 ?_
        refine j_callVN C hR (kX1_copyFromX hD hG (j := m) (by omega) (gc := Z (64 + 9 * m) 3) (ac := Z (64 + 9 * m) 4) (zpf_o (by omega)) (zpf_o (by omega)) (fun b hb => by rw [zpf_o (by omega)]; exact hmz m hm b hb)) [] zmX1_copyFrom zk_X4_122 zK1 (zb_Fin hG) (zs_Fin hG) (by decide) rfl rfl (Nat.le_of_ble_eq_true rfl) dX4_restore_97 (fun Z97 h97 => ?_)
        refine j_Z (Z' := (zu (zu (zcpy (zcpy (zcpy (zpf Z np (rsC Z m kp ntI) [5, 6, 7, 9]) (65 + 9 * m) (4) (256)) (66 + 9 * m) (5) (100)) (67 + 9 * m) (6) (100)) (3) (3) (Z (64 + 9 * m) 3)) (3) (4) (Z (64 + 9 * m) 4))) h97 ?_
        refine j_iload_n C 1 dX4_restore_100 rfl rfl ?_
        refine j_iret C R dX4_restore_101 ?_
        exact Or.inr ⟨m, hm, hpm, kp, hkp, rfl, rfl⟩
      ·
        refine j_aload_n C 2 dX4_restore_36 rfl rfl ?_
        refine j_getR C zK4 (zb_X hG) (zs_X hG) (f := 0) (by decide) rfl zk_X4_11 rfl (zf_X_0 hG) dX4_restore_37 ?_
        refine j_iload C 0 dX4_restore_40 rfl ?_
        refine j_aldP C (zb_Pts hG) (zs_Pts hG) (zl_Pts hG) rfl (by omega) (by decide) (zf_Pts hG (by omega)) dX4_restore_42 ?_
        refine j_getIN C zK3 (zb_Part hG (by omega)) (zs_Part hG (by omega)) (f := 5) (by decide) rfl zk_X4_76 rfl (Z (11 + 4 * k) (5)) (zpf_o (by omega)) dX4_restore_43 ?_
        refine j_istore (lv' := [(5, .int (Z (11 + 4 * k) (5))), (4, .int (nI k)), (3, .int (nI (zcn (mvC Z m kp ntI) k))), (0, .ref (G.2.1 (0))), (1, .int (nI m)), (2, .ref (G.2.1 (59 + 9 * m)))]) C dX4_restore_46 (by rw [hN]; decide) rfl ?_
        refine j_aload_n C 5 dX4_restore_48 rfl rfl ?_
        refine j_iload C 1 dX4_restore_49 rfl ?_
        refine j_aload_n C 3 dX4_restore_51 rfl rfl ?_
        refine j_getR C zK4 (zb_X hG) (zs_X hG) (f := 0) (by decide) rfl zk_X4_11 rfl (zf_X_0 hG) dX4_restore_52 ?_
        refine j_iload C 1 dX4_restore_55 rfl ?_
        refine j_aldP C (zb_Pts hG) (zs_Pts hG) (zl_Pts hG) rfl (by omega) (by decide) (zf_Pts hG (by omega)) dX4_restore_57 ?_
        refine j_aload_n C 3 dX4_restore_58 rfl rfl ?_
        refine j_getI C zK4 (zb_X hG) (zs_X hG) (f := 7) (by decide) rfl zk_X4_114 rfl (nt) ((zpf_o (by omega)).trans (hnt)) dX4_restore_59 ?_
        refine j_callVN C hR (kX2_bringBack hD hG (m := m) (i := k) (kp := kp) (by omega) (by omega) ((zpf_o (by omega)).trans (hkp)) (by omega) (po := Z (60 + 9 * m) k) (wa := Z (61 + 9 * m) k) (cr := Z (62 + 9 * m) k) (re := Z (63 + 9 * m) k) (reI := (Z (63 + 9 * m) k).toInt) (zpf_o (by omega)) (zpf_o (by omega)) (zpf_o (by omega)) (zpf_o (by omega)) rfl (nt := nt) (ntI := ntI) hntI) [] zmX2_bringBack zk_X4_117 zK2 (zb_Mark hG (by omega)) (zs_Mark hG (by omega)) (by decide) rfl rfl (Nat.le_of_ble_eq_true rfl) dX4_restore_62 (fun Z62 h62 => ?_)
        rcases h62 with ⟨q1, e62⟩ | ⟨q1, q2, e62⟩ | ⟨q1, q2, e62⟩
        ·
          refine j_Z (Z' := (zu (zu (zu (zu (zpf Z (k) (rsC Z m kp ntI) [5, 6, 7, 9]) (11 + 4 * k) (5) (nI 0)) (11 + 4 * k) (6) (-1)) (11 + 4 * k) (7) (nI 0)) (11 + 4 * k) (9) (-1))) e62 ?_
          have r5 : nI 0 = rsC Z m kp ntI k 5 := by simp [rsC, show ¬ k < kp by omega]
          have r6 : -1 = rsC Z m kp ntI k 6 := by simp [rsC, show ¬ k < kp by omega]
          have r7 : nI 0 = rsC Z m kp ntI k 7 := by simp [rsC, show ¬ k < kp by omega]
          have r9 : -1 = rsC Z m kp ntI k 9 := by simp [rsC, show ¬ k < kp by omega]
          refine j_aload_n C 3 dX4_restore_65 rfl rfl ?_
          refine j_getR C zK4 (zb_X hG) (zs_X hG) (f := 0) (by decide) rfl zk_X4_11 rfl (zf_X_0 hG) dX4_restore_66 ?_
          refine j_iload C 1 dX4_restore_69 rfl ?_
          refine j_aldP C (zb_Pts hG) (zs_Pts hG) (zl_Pts hG) rfl (by omega) (by decide) (zf_Pts hG (by omega)) dX4_restore_71 ?_
          refine j_getIN C zK3 (zb_Part hG (by omega)) (zs_Part hG (by omega)) (f := 5) (by decide) rfl zk_X4_76 rfl (nI 0) ((zu_o (by omega)).trans ((zu_o (by omega)).trans ((zu_o (by omega)).trans (zu_s)))) dX4_restore_72 ?_
          refine j_iload C 0 dX4_restore_75 rfl ?_
          refine j_icmp_eq (tgt := 83) (a := ((0 : Nat) : Int)) (b := (Z (11 + 4 * k) (5)).toInt) C (nI_toInt (by omega)) rfl dX4_restore_77 (by decide) (fun c77 => ?_) (fun c77 => ?_)
          ·
            refine j_iinc (v := nI (k + 1)) (lv' := [(4, .int (nI (k + 1))), (5, .int (Z (11 + 4 * k) (5))), (3, .int (nI (zcn (mvC Z m kp ntI) k))), (0, .ref (G.2.1 (0))), (1, .int (nI m)), (2, .ref (G.2.1 (59 + 9 * m)))]) C 1 dX4_restore_83 rfl (nI_add k 1) (by rw [hN]; decide) rfl ?_
            refine j_goto (tgt := 27) C dX4_restore_86 (by decide) ?_
            refine j_sub (lv' := [(4, .int (nI (k + 1))), (3, .int (nI (zcn (mvC Z m kp ntI) k))), (0, .ref (G.2.1 (0))), (1, .int (nI m)), (2, .ref (G.2.1 (59 + 9 * m)))]) [0, 2, 3, 4, 5] rfl ?_
            refine j_lv (lv' := [(4, .int (nI (k + 1))), (3, .int (nI (zcn (mvC Z m kp ntI) (k + 1)))), (0, .ref (G.2.1 (0))), (1, .int (nI m)), (2, .ref (G.2.1 (59 + 9 * m)))]) (by rw [zcn_f (show mvC Z m kp ntI k = false from decide_eq_false (by rw [← r5]; omega))]) ?_
            refine j_Z (Z' := (zpf Z (k + 1) (rsC Z m kp ntI) [5, 6, 7, 9])) (rs_s rfl r5 r6 r7 r9) ?_
            exact ih m kp hm hpm hkp hkp12 (k + 1) (by omega) (by omega)
          ·
            refine j_iinc (v := nI (zcn (mvC Z m kp ntI) k + 1)) (lv' := [(3, .int (nI (zcn (mvC Z m kp ntI) k + 1))), (5, .int (Z (11 + 4 * k) (5))), (4, .int (nI k)), (0, .ref (G.2.1 (0))), (1, .int (nI m)), (2, .ref (G.2.1 (59 + 9 * m)))]) C 2 dX4_restore_80 rfl (nI_add (zcn (mvC Z m kp ntI) k) 1) (by rw [hN]; decide) rfl ?_
            refine j_iinc (v := nI (k + 1)) (lv' := [(4, .int (nI (k + 1))), (3, .int (nI (zcn (mvC Z m kp ntI) k + 1))), (5, .int (Z (11 + 4 * k) (5))), (0, .ref (G.2.1 (0))), (1, .int (nI m)), (2, .ref (G.2.1 (59 + 9 * m)))]) C 2 dX4_restore_83 rfl (nI_add k 1) (by rw [hN]; decide) rfl ?_
            refine j_goto (tgt := 27) C dX4_restore_86 (by decide) ?_
            refine j_sub (lv' := [(4, .int (nI (k + 1))), (3, .int (nI (zcn (mvC Z m kp ntI) k + 1))), (0, .ref (G.2.1 (0))), (1, .int (nI m)), (2, .ref (G.2.1 (59 + 9 * m)))]) [0, 1, 3, 4, 5] rfl ?_
            refine j_lv (lv' := [(4, .int (nI (k + 1))), (3, .int (nI (zcn (mvC Z m kp ntI) (k + 1)))), (0, .ref (G.2.1 (0))), (1, .int (nI m)), (2, .ref (G.2.1 (59 + 9 * m)))]) (by rw [zcn_t (show mvC Z m kp ntI k = true from decide_eq_true (by rw [← r5]; omega))]) ?_
            refine j_Z (Z' := (zpf Z (k + 1) (rsC Z m kp ntI) [5, 6, 7, 9])) (rs_s rfl r5 r6 r7 r9) ?_
            exact ih m kp hm hpm hkp hkp12 (k + 1) (by omega) (by omega)
        ·
          refine j_Z (Z' := (zu (zu (zu (zu (zpf Z (k) (rsC Z m kp ntI) [5, 6, 7, 9]) (11 + 4 * k) (5) (Z (60 + 9 * m) k)) (11 + 4 * k) (6) (Z (61 + 9 * m) k)) (11 + 4 * k) (7) (Z (62 + 9 * m) k)) (11 + 4 * k) (9) (Z (63 + 9 * m) k))) e62 ?_
          have r5 : Z (60 + 9 * m) k = rsC Z m kp ntI k 5 := by simp [rsC, q1, q2]
          have r6 : Z (61 + 9 * m) k = rsC Z m kp ntI k 6 := by simp [rsC, q1, q2]
          have r7 : Z (62 + 9 * m) k = rsC Z m kp ntI k 7 := by simp [rsC, q1, q2]
          have r9 : Z (63 + 9 * m) k = rsC Z m kp ntI k 9 := by simp [rsC, q1, q2]
          refine j_aload_n C 3 dX4_restore_65 rfl rfl ?_
          refine j_getR C zK4 (zb_X hG) (zs_X hG) (f := 0) (by decide) rfl zk_X4_11 rfl (zf_X_0 hG) dX4_restore_66 ?_
          refine j_iload C 1 dX4_restore_69 rfl ?_
          refine j_aldP C (zb_Pts hG) (zs_Pts hG) (zl_Pts hG) rfl (by omega) (by decide) (zf_Pts hG (by omega)) dX4_restore_71 ?_
          refine j_getIN C zK3 (zb_Part hG (by omega)) (zs_Part hG (by omega)) (f := 5) (by decide) rfl zk_X4_76 rfl (Z (60 + 9 * m) k) ((zu_o (by omega)).trans ((zu_o (by omega)).trans ((zu_o (by omega)).trans (zu_s)))) dX4_restore_72 ?_
          refine j_iload C 0 dX4_restore_75 rfl ?_
          refine j_icmp_eq (tgt := 83) (a := (Z (60 + 9 * m) k).toInt) (b := (Z (11 + 4 * k) (5)).toInt) C rfl rfl dX4_restore_77 (by decide) (fun c77 => ?_) (fun c77 => ?_)
          ·
            refine j_iinc (v := nI (k + 1)) (lv' := [(4, .int (nI (k + 1))), (5, .int (Z (11 + 4 * k) (5))), (3, .int (nI (zcn (mvC Z m kp ntI) k))), (0, .ref (G.2.1 (0))), (1, .int (nI m)), (2, .ref (G.2.1 (59 + 9 * m)))]) C 1 dX4_restore_83 rfl (nI_add k 1) (by rw [hN]; decide) rfl ?_
            refine j_goto (tgt := 27) C dX4_restore_86 (by decide) ?_
            refine j_sub (lv' := [(4, .int (nI (k + 1))), (3, .int (nI (zcn (mvC Z m kp ntI) k))), (0, .ref (G.2.1 (0))), (1, .int (nI m)), (2, .ref (G.2.1 (59 + 9 * m)))]) [0, 2, 3, 4, 5] rfl ?_
            refine j_lv (lv' := [(4, .int (nI (k + 1))), (3, .int (nI (zcn (mvC Z m kp ntI) (k + 1)))), (0, .ref (G.2.1 (0))), (1, .int (nI m)), (2, .ref (G.2.1 (59 + 9 * m)))]) (by rw [zcn_f (show mvC Z m kp ntI k = false from decide_eq_false (by rw [← r5]; omega))]) ?_
            refine j_Z (Z' := (zpf Z (k + 1) (rsC Z m kp ntI) [5, 6, 7, 9])) (rs_s rfl r5 r6 r7 r9) ?_
            exact ih m kp hm hpm hkp hkp12 (k + 1) (by omega) (by omega)
          ·
            refine j_iinc (v := nI (zcn (mvC Z m kp ntI) k + 1)) (lv' := [(3, .int (nI (zcn (mvC Z m kp ntI) k + 1))), (5, .int (Z (11 + 4 * k) (5))), (4, .int (nI k)), (0, .ref (G.2.1 (0))), (1, .int (nI m)), (2, .ref (G.2.1 (59 + 9 * m)))]) C 2 dX4_restore_80 rfl (nI_add (zcn (mvC Z m kp ntI) k) 1) (by rw [hN]; decide) rfl ?_
            refine j_iinc (v := nI (k + 1)) (lv' := [(4, .int (nI (k + 1))), (3, .int (nI (zcn (mvC Z m kp ntI) k + 1))), (5, .int (Z (11 + 4 * k) (5))), (0, .ref (G.2.1 (0))), (1, .int (nI m)), (2, .ref (G.2.1 (59 + 9 * m)))]) C 2 dX4_restore_83 rfl (nI_add k 1) (by rw [hN]; decide) rfl ?_
            refine j_goto (tgt := 27) C dX4_restore_86 (by decide) ?_
            refine j_sub (lv' := [(4, .int (nI (k + 1))), (3, .int (nI (zcn (mvC Z m kp ntI) k + 1))), (0, .ref (G.2.1 (0))), (1, .int (nI m)), (2, .ref (G.2.1 (59 + 9 * m)))]) [0, 1, 3, 4, 5] rfl ?_
            refine j_lv (lv' := [(4, .int (nI (k + 1))), (3, .int (nI (zcn (mvC Z m kp ntI) (k + 1)))), (0, .ref (G.2.1 (0))), (1, .int (nI m)), (2, .ref (G.2.1 (59 + 9 * m)))]) (by rw [zcn_t (show mvC Z m kp ntI k = true from decide_eq_true (by rw [← r5]; omega))]) ?_
            refine j_Z (Z' := (zpf Z (k + 1) (rsC Z m kp ntI) [5, 6, 7, 9])) (rs_s rfl r5 r6 r7 r9) ?_
            exact ih m kp hm hpm hkp hkp12 (k + 1) (by omega) (by omega)
        ·
          refine j_Z (Z' := (zu (zu (zu (zu (zpf Z (k) (rsC Z m kp ntI) [5, 6, 7, 9]) (11 + 4 * k) (5) (Z (60 + 9 * m) k)) (11 + 4 * k) (6) (Z (61 + 9 * m) k)) (11 + 4 * k) (7) (Z (62 + 9 * m) k)) (11 + 4 * k) (9) (-1))) e62 ?_
          have r5 : Z (60 + 9 * m) k = rsC Z m kp ntI k 5 := by simp [rsC, q1, show ¬ (Z (63 + 9 * m) k).toInt < ntI by omega]
          have r6 : Z (61 + 9 * m) k = rsC Z m kp ntI k 6 := by simp [rsC, q1, show ¬ (Z (63 + 9 * m) k).toInt < ntI by omega]
          have r7 : Z (62 + 9 * m) k = rsC Z m kp ntI k 7 := by simp [rsC, q1, show ¬ (Z (63 + 9 * m) k).toInt < ntI by omega]
          have r9 : -1 = rsC Z m kp ntI k 9 := by simp [rsC, q1, show ¬ (Z (63 + 9 * m) k).toInt < ntI by omega]
          refine j_aload_n C 3 dX4_restore_65 rfl rfl ?_
          refine j_getR C zK4 (zb_X hG) (zs_X hG) (f := 0) (by decide) rfl zk_X4_11 rfl (zf_X_0 hG) dX4_restore_66 ?_
          refine j_iload C 1 dX4_restore_69 rfl ?_
          refine j_aldP C (zb_Pts hG) (zs_Pts hG) (zl_Pts hG) rfl (by omega) (by decide) (zf_Pts hG (by omega)) dX4_restore_71 ?_
          refine j_getIN C zK3 (zb_Part hG (by omega)) (zs_Part hG (by omega)) (f := 5) (by decide) rfl zk_X4_76 rfl (Z (60 + 9 * m) k) ((zu_o (by omega)).trans ((zu_o (by omega)).trans ((zu_o (by omega)).trans (zu_s)))) dX4_restore_72 ?_
          refine j_iload C 0 dX4_restore_75 rfl ?_
          refine j_icmp_eq (tgt := 83) (a := (Z (60 + 9 * m) k).toInt) (b := (Z (11 + 4 * k) (5)).toInt) C rfl rfl dX4_restore_77 (by decide) (fun c77 => ?_) (fun c77 => ?_)
          ·
            refine j_iinc (v := nI (k + 1)) (lv' := [(4, .int (nI (k + 1))), (5, .int (Z (11 + 4 * k) (5))), (3, .int (nI (zcn (mvC Z m kp ntI) k))), (0, .ref (G.2.1 (0))), (1, .int (nI m)), (2, .ref (G.2.1 (59 + 9 * m)))]) C 1 dX4_restore_83 rfl (nI_add k 1) (by rw [hN]; decide) rfl ?_
            refine j_goto (tgt := 27) C dX4_restore_86 (by decide) ?_
            refine j_sub (lv' := [(4, .int (nI (k + 1))), (3, .int (nI (zcn (mvC Z m kp ntI) k))), (0, .ref (G.2.1 (0))), (1, .int (nI m)), (2, .ref (G.2.1 (59 + 9 * m)))]) [0, 2, 3, 4, 5] rfl ?_
            refine j_lv (lv' := [(4, .int (nI (k + 1))), (3, .int (nI (zcn (mvC Z m kp ntI) (k + 1)))), (0, .ref (G.2.1 (0))), (1, .int (nI m)), (2, .ref (G.2.1 (59 + 9 * m)))]) (by rw [zcn_f (show mvC Z m kp ntI k = false from decide_eq_false (by rw [← r5]; omega))]) ?_
            refine j_Z (Z' := (zpf Z (k + 1) (rsC Z m kp ntI) [5, 6, 7, 9])) (rs_s rfl r5 r6 r7 r9) ?_
            exact ih m kp hm hpm hkp hkp12 (k + 1) (by omega) (by omega)
          ·
            refine j_iinc (v := nI (zcn (mvC Z m kp ntI) k + 1)) (lv' := [(3, .int (nI (zcn (mvC Z m kp ntI) k + 1))), (5, .int (Z (11 + 4 * k) (5))), (4, .int (nI k)), (0, .ref (G.2.1 (0))), (1, .int (nI m)), (2, .ref (G.2.1 (59 + 9 * m)))]) C 2 dX4_restore_80 rfl (nI_add (zcn (mvC Z m kp ntI) k) 1) (by rw [hN]; decide) rfl ?_
            refine j_iinc (v := nI (k + 1)) (lv' := [(4, .int (nI (k + 1))), (3, .int (nI (zcn (mvC Z m kp ntI) k + 1))), (5, .int (Z (11 + 4 * k) (5))), (0, .ref (G.2.1 (0))), (1, .int (nI m)), (2, .ref (G.2.1 (59 + 9 * m)))]) C 2 dX4_restore_83 rfl (nI_add k 1) (by rw [hN]; decide) rfl ?_
            refine j_goto (tgt := 27) C dX4_restore_86 (by decide) ?_
            refine j_sub (lv' := [(4, .int (nI (k + 1))), (3, .int (nI (zcn (mvC Z m kp ntI) k + 1))), (0, .ref (G.2.1 (0))), (1, .int (nI m)), (2, .ref (G.2.1 (59 + 9 * m)))]) [0, 1, 3, 4, 5] rfl ?_
            refine j_lv (lv' := [(4, .int (nI (k + 1))), (3, .int (nI (zcn (mvC Z m kp ntI) (k + 1)))), (0, .ref (G.2.1 (0))), (1, .int (nI m)), (2, .ref (G.2.1 (59 + 9 * m)))]) (by rw [zcn_t (show mvC Z m kp ntI k = true from decide_eq_true (by rw [← r5]; omega))]) ?_
            refine j_Z (Z' := (zpf Z (k + 1) (rsC Z m kp ntI) [5, 6, 7, 9])) (rs_s rfl r5 r6 r7 r9) ?_
            exact ih m kp hm hpm hkp hkp12 (k + 1) (by omega) (by omega)
  refine j_iload_n C 1 dX4_restore_0 rfl rfl ?_
  refine j_if_lt (tgt := 12) (a := (p0).toInt) C rfl dX4_restore_1 (by decide) (fun c1 => ?_) (fun c1 => ?_)
  ·
    refine j_bipush C (-11) dX4_restore_12 (by decide) ?_
    refine j_iret C R dX4_restore_14 ?_
    exact Or.inl ⟨by omega, rfl, rfl⟩
  ·
    refine j_iload_n C 1 dX4_restore_4 rfl rfl ?_
    refine j_aload_n C 0 dX4_restore_5 rfl rfl ?_
    refine j_getI C zK4 (zb_X hG) (zs_X hG) (f := 6) (by decide) rfl zk_X4_107 rfl (nI nm) hnm dX4_restore_6 ?_
    refine j_icmp_lt (tgt := 15) (a := (p0).toInt) (b := ((nm : Nat) : Int)) C rfl (nI_toInt (by omega)) dX4_restore_9 (by decide) (fun c9 => ?_) (fun c9 => ?_)
    ·
      obtain ⟨m, hm, rfl⟩ := zi_nat (x := p0) (n := nm) (by omega) (by omega)
      obtain ⟨kp, hkp, hkp12⟩ := hkps m hm
      refine j_aload_n C 0 dX4_restore_15 rfl rfl ?_
      refine j_getR C zK4 (zb_X hG) (zs_X hG) (f := 1) (by decide) rfl zk_X4_17 rfl (zf_X_1 hG) dX4_restore_16 ?_
      refine j_iload_n C 1 dX4_restore_19 rfl rfl ?_
      refine j_aldM C (zb_Mks hG) (zs_Mks hG) (zl_Mks hG) rfl (by omega) (by decide) (zf_Mks hG (by omega)) dX4_restore_20 ?_
      refine j_astore_n (lv' := [(2, .ref (G.2.1 (59 + 9 * m))), (0, .ref (G.2.1 (0))), (1, .int (nI m))]) C dX4_restore_21 rfl (by rw [hN]; decide) rfl ?_
      refine j_iconst C (nI 0) dX4_restore_22 (by decide) ?_
      refine j_istore_n (lv' := [(3, .int (nI 0)), (2, .ref (G.2.1 (59 + 9 * m))), (0, .ref (G.2.1 (0))), (1, .int (nI m))]) C dX4_restore_23 rfl (by rw [hN]; decide) rfl ?_
      refine j_iconst C (nI 0) dX4_restore_24 (by decide) ?_
      refine j_istore (lv' := [(4, .int (nI 0)), (3, .int (nI 0)), (2, .ref (G.2.1 (59 + 9 * m))), (0, .ref (G.2.1 (0))), (1, .int (nI m))]) C dX4_restore_25 (by rw [hN]; decide) rfl ?_
      refine j_sub (lv' := [(4, .int (nI 0)), (3, .int (nI 0)), (0, .ref (G.2.1 (0))), (1, .int (nI m)), (2, .ref (G.2.1 (59 + 9 * m)))]) [0, 1, 3, 4, 2] rfl ?_
      refine j_Z (Z' := (zpf Z (0) (rsC Z m kp ntI) [5, 6, 7, 9])) (zpf_0).symm ?_
      exact L27 (np + 1) m kp hm rfl hkp hkp12 0 (by omega) (by omega)
    ·
      refine j_bipush C (-11) dX4_restore_12 (by decide) ?_
      refine j_iret C R dX4_restore_14 ?_
      exact Or.inl ⟨by omega, rfl, rfl⟩
def stC (Z : ZT) (t : Int32) (rc : Nat → Nat) (i b : Nat) : Int32 := if b = 5 then nI (fpk (Z (13 + 4 * i)) t (rc i)) else if b = 6 then -1 else nI 0
def srC (Z : ZT) (t : Int32) (rc : Nat → Nat) (i : Nat) : Bool := decide (fpk (Z (13 + 4 * i)) t (rc i) < rc i)
theorem st_s {Z Z0 Zk : ZT} {t : Int32} {rc : Nat → Nat} {k : Nat} {a5 : Int32} (hk : Zk = zpf Z k (stC Z0 t rc) [5, 6, 7]) (h5 : a5 = stC Z0 t rc k 5) : zu (zu (zu Zk (11 + 4 * k) 5 a5) (11 + 4 * k) 6 (-1)) (11 + 4 * k) 7 (nI 0) = zpf Z (k + 1) (stC Z0 t rc) [5, 6, 7] := by
  subst hk
  refine zpf_s (fun a b ha => ?_) (fun b hb => ?_) (fun b hb => ?_)
  · rw [zu_o (Or.inl ha), zu_o (Or.inl ha), zu_o (Or.inl ha)]
  · simp only [List.mem_cons, List.mem_nil_iff, or_false] at hb
    rcases hb with rfl | rfl | rfl
    · rw [zu_o (by omega), zu_o (by omega), zu_s, h5]
    · rw [zu_o (by omega), zu_s]; rfl
    · rw [zu_s]; rfl
  · simp only [List.mem_cons, List.mem_nil_iff, or_false, not_or] at hb
    rw [zu_o (by omega), zu_o (by omega), zu_o (by omega), zpf_o (by omega)]
def scC (Z : ZT) (q : Nat) (i b : Nat) : Int32 := if dnC Z i = true then -1 else nI (zcn (fun j => !dnC Z j) i % q)
theorem sc_s {Z Zk : ZT} {F : Nat → Nat → Int32} {k f : Nat} {a9 : Int32} (hk : Zk = zpf Z k F [f]) (h9 : a9 = F k f) : zu Zk (11 + 4 * k) f a9 = zpf Z (k + 1) F [f] := by
  subst hk
  refine zpf_s (fun a b ha => ?_) (fun b hb => ?_) (fun b hb => ?_)
  · rw [zu_o (Or.inl ha)]
  · rw [List.mem_singleton.mp hb, zu_s, h9]
  · rw [zu_o (Or.inr (fun q => hb (by rw [q]; exact List.mem_singleton.mpr rfl))), zpf_o (by omega)]
set_option maxRecDepth 100000 in
set_option maxHeartbeats 4000000 in
theorem kX4_start {l : Launch} {D : va_G} {Y : YT} {b0 : Nat} {G : GT} (hD : GD b0 G) (hG : Gok 113 G) {Z : ZT} {np : Nat} (hnp : Z 0 5 = nI np) (hnp12 : np ≤ 12) {rc : Nat → Nat} (hrc : ∀ i, i < np → Z (11 + 4 * i) 3 = nI (rc i) ∧ rc i ≤ 40) (p0 : Int32) : CI l D Y b0 G yX4_start cX4_start 4 (some .int) 3 [.ref (G.2.1 (0)), .int (p0)] Z (fun r Z' => ((p0.toInt < 0 ∨ 100000 < p0.toInt) ∧ r = (-12) ∧ Z' = Z) ∨ ((0 ≤ p0.toInt ∧ p0.toInt ≤ 100000) ∧ r = nI (zcn (srC Z p0 rc) np) ∧ Z' = (zpf (zu (zu (zfill Z (4) (256) (nI 0)) (3) (3) (nI 0)) (3) (4) (nI 0)) (np) (stC Z p0 rc) [5, 6, 7]))) := by
  refine ci_start (lv0 := [(0, .ref (G.2.1 (0))), (1, .int (p0))]) hD rfl rfl (Nat.le_of_ble_eq_true rfl) rfl ?_
  intro E C R hR hD hN
  have L21 : ∀ (n : Nat) (hp0 : 0 ≤ p0.toInt ∧ p0.toInt ≤ 100000) (k : Nat), np + 1 ≤ k + n → k ≤ np → J E 0 0 G 21 [(3, .int (nI k)), (2, .int (nI (zcn (srC Z p0 rc) k))), (0, .ref (G.2.1 (0))), (1, .int (p0))] [] (zpf (zu (zu (zfill Z (4) (256) (nI 0)) (3) (3) (nI 0)) (3) (4) (nI 0)) (k) (stC Z p0 rc) [5, 6, 7]) := by
    intro n
    induction n with
    | zero => intro hp0 k hn hk; exact absurd hn (by omega)
    | succ n ih =>
      intro hp0 k hn hk
      refine j_iload_n C 0 dX4_start_21 rfl rfl ?_
      refine j_aload_n C 2 dX4_start_22 rfl rfl ?_
      refine j_getI C zK4 (zb_X hG) (zs_X hG) (f := 5) (by decide) rfl zk_X4_44 rfl (nI np) ((zpf_o (by omega)).trans ((zu_o (by omega)).trans ((zu_o (by omega)).trans ((zfill_o (by omega)).trans (hnp))))) dX4_start_23 ?_
      refine j_icmp_ge (tgt := 71) (a := ((k : Nat) : Int)) (b := ((np : Nat) : Int)) C (nI_toInt (by omega)) (nI_toInt (by omega)) dX4_start_26 (by decide) (fun c26 => ?_) (fun c26 => ?_)
      ·
        have e9 : k = np := by omega
        subst e9
        refine j_iload_n C 1 dX4_start_71 rfl rfl ?_
        refine j_iret C R dX4_start_72 ?_
        exact Or.inr ⟨by omega, rfl, rfl⟩
      ·
        have hrc9 := (hrc k (by omega)).2
        refine j_aload_n C 2 dX4_start_29 rfl rfl ?_
        refine j_getR C zK4 (zb_X hG) (zs_X hG) (f := 0) (by decide) rfl zk_X4_11 rfl (zf_X_0 hG) dX4_start_30 ?_
        refine j_iload_n C 0 dX4_start_33 rfl rfl ?_
        refine j_aldP C (zb_Pts hG) (zs_Pts hG) (zl_Pts hG) rfl (by omega) (by decide) (zf_Pts hG (by omega)) dX4_start_34 ?_
        refine j_aload_n C 2 dX4_start_35 rfl rfl ?_
        refine j_getR C zK4 (zb_X hG) (zs_X hG) (f := 0) (by decide) rfl zk_X4_11 rfl (zf_X_0 hG) dX4_start_36 ?_
        refine j_iload_n C 0 dX4_start_39 rfl rfl ?_
        refine j_aldP C (zb_Pts hG) (zs_Pts hG) (zl_Pts hG) rfl (by omega) (by decide) (zf_Pts hG (by omega)) dX4_start_40 ?_
        refine j_iload_n C 3 dX4_start_41 rfl rfl ?_
        refine j_callIN C hR (kX3_firstPlaceFrom hD hG (i := k) (by omega) (rc := rc k) ((zpf_o (by omega)).trans ((zu_o (by omega)).trans ((zu_o (by omega)).trans ((zfill_o (by omega)).trans ((hrc k (by omega)).1))))) (by omega) (p0)) [.ref (G.2.1 (11 + 4 * k))] zmX3_firstPlaceFrom zk_X4_129 zK3 (zb_Part hG (by omega)) (zs_Part hG (by omega)) (by decide) rfl rfl (Nat.le_of_ble_eq_true rfl) dX4_start_42 (fun r42 Z42 h42 => ?_)
        obtain ⟨e42, rfl⟩ := h42
        refine j_Z (Z' := (zpf (zu (zu (zfill Z (4) (256) (nI 0)) (3) (3) (nI 0)) (3) (4) (nI 0)) (k) (stC Z p0 rc) [5, 6, 7])) e42 ?_
        refine j_top (congrArg nI (show _ = fpk (Z (13 + 4 * k)) p0 (rc k) from fpk_congr (fun j _ => by rw [zpf_o (by omega), zu_o (by omega), zu_o (by omega), zfill_o (by omega)]))) ?_
        have hfp := (fpk_spec (Z (13 + 4 * k)) p0 (rc k)).1
        refine j_iconst C (-1) dX4_start_45 (by decide) ?_
        refine j_iconst C (nI 0) dX4_start_46 (by decide) ?_
        refine j_callVN C hR (kX3_stand hD hG (i := k)  (by omega) (nI (fpk (Z (13 + 4 * k)) p0 (rc k))) (-1) (nI 0)) [] zmX3_stand zk_X4_132 zK3 (zb_Part hG (by omega)) (zs_Part hG (by omega)) (by decide) rfl rfl (Nat.le_of_ble_eq_true rfl) dX4_start_47 (fun Z47 h47 => ?_)
        refine j_Z (Z' := (zu (zu (zu (zpf (zu (zu (zfill Z (4) (256) (nI 0)) (3) (3) (nI 0)) (3) (4) (nI 0)) (k) (stC Z p0 rc) [5, 6, 7]) (11 + 4 * k) (5) (nI (fpk (Z (13 + 4 * k)) p0 (rc k)))) (11 + 4 * k) (6) (-1)) (11 + 4 * k) (7) (nI 0))) h47 ?_
        refine j_aload_n C 2 dX4_start_50 rfl rfl ?_
        refine j_getR C zK4 (zb_X hG) (zs_X hG) (f := 0) (by decide) rfl zk_X4_11 rfl (zf_X_0 hG) dX4_start_51 ?_
        refine j_iload_n C 0 dX4_start_54 rfl rfl ?_
        refine j_aldP C (zb_Pts hG) (zs_Pts hG) (zl_Pts hG) rfl (by omega) (by decide) (zf_Pts hG (by omega)) dX4_start_55 ?_
        refine j_callIN C hR (kX3_isReady hD hG (i := k)  (by omega) (rc := nI (rc k)) (rcI := ((rc k : Nat) : Int)) ((zu_o (by omega)).trans ((zu_o (by omega)).trans ((zu_o (by omega)).trans ((zpf_o (by omega)).trans ((zu_o (by omega)).trans ((zu_o (by omega)).trans ((zfill_o (by omega)).trans ((hrc k (by omega)).1)))))))) (nI_toInt (by omega)) (po := nI (fpk (Z (13 + 4 * k)) p0 (rc k))) (poI := ((fpk (Z (13 + 4 * k)) p0 (rc k) : Nat) : Int)) ((zu_o (by omega)).trans ((zu_o (by omega)).trans (zu_s))) (nI_toInt (by omega))) [] zmX3_isReady zk_X4_136 zK3 (zb_Part hG (by omega)) (zs_Part hG (by omega)) (by decide) rfl rfl (Nat.le_of_ble_eq_true rfl) dX4_start_56 (fun r56 Z56 h56 => ?_)
        obtain ⟨e56, ⟨rfl, h56⟩ | ⟨rfl, h56⟩⟩ := h56
        ·
          refine j_Z e56 ?_
          have hsr : srC Z p0 rc k = true := decide_eq_true (by omega)
          refine j_if_eq (tgt := 65) (a := ((1 : Nat) : Int)) C (nI_toInt (by omega)) dX4_start_59 (by decide) (fun c59 => absurd c59 (by omega)) (fun c59 => ?_)
          refine j_iinc (v := nI (zcn (srC Z p0 rc) k + 1)) (lv' := [(2, .int (nI (zcn (srC Z p0 rc) k + 1))), (3, .int (nI k)), (0, .ref (G.2.1 (0))), (1, .int (p0))]) C 1 dX4_start_62 rfl (nI_add (zcn (srC Z p0 rc) k) 1) (by rw [hN]; decide) rfl ?_
          refine j_iinc (v := nI (k + 1)) (lv' := [(3, .int (nI (k + 1))), (2, .int (nI (zcn (srC Z p0 rc) k + 1))), (0, .ref (G.2.1 (0))), (1, .int (p0))]) C 1 dX4_start_65 rfl (nI_add k 1) (by rw [hN]; decide) rfl ?_
          refine j_goto (tgt := 21) C dX4_start_68 (by decide) ?_
          refine j_lv (lv' := [(3, .int (nI (k + 1))), (2, .int (nI (zcn (srC Z p0 rc) (k + 1)))), (0, .ref (G.2.1 (0))), (1, .int (p0))]) (by first | rw [zcn_t hsr] | rw [zcn_f hsr]) ?_
          refine j_Z (Z' := (zpf (zu (zu (zfill Z (4) (256) (nI 0)) (3) (3) (nI 0)) (3) (4) (nI 0)) (k + 1) (stC Z p0 rc) [5, 6, 7])) (st_s rfl rfl) ?_
          exact ih hp0 (k + 1) (by omega) (by omega)
        ·
          refine j_Z e56 ?_
          have hsr : srC Z p0 rc k = false := decide_eq_false (by omega)
          refine j_if_eq (tgt := 65) (a := ((0 : Nat) : Int)) C (nI_toInt (by omega)) dX4_start_59 (by decide) (fun c59 => ?_) (fun c59 => absurd c59 (by omega))
          refine j_iinc (v := nI (k + 1)) (lv' := [(3, .int (nI (k + 1))), (2, .int (nI (zcn (srC Z p0 rc) k))), (0, .ref (G.2.1 (0))), (1, .int (p0))]) C 0 dX4_start_65 rfl (nI_add k 1) (by rw [hN]; decide) rfl ?_
          refine j_goto (tgt := 21) C dX4_start_68 (by decide) ?_
          refine j_lv (lv' := [(3, .int (nI (k + 1))), (2, .int (nI (zcn (srC Z p0 rc) (k + 1)))), (0, .ref (G.2.1 (0))), (1, .int (p0))]) (by first | rw [zcn_t hsr] | rw [zcn_f hsr]) ?_
          refine j_Z (Z' := (zpf (zu (zu (zfill Z (4) (256) (nI 0)) (3) (3) (nI 0)) (3) (4) (nI 0)) (k + 1) (stC Z p0 rc) [5, 6, 7])) (st_s rfl rfl) ?_
          exact ih hp0 (k + 1) (by omega) (by omega)
  refine j_iload_n C 1 dX4_start_0 rfl rfl ?_
  refine j_callS C hR (kX4_isTime hD hG (p0 := p0) (b := (p0).toInt) rfl) [] zmX4_isTime rfl zk_X4_59 (by decide) rfl rfl (Nat.le_of_ble_eq_true rfl) dX4_start_1 (fun r1 Z1 h1 => ?_)
  obtain ⟨e1, ⟨rfl, h1⟩ | ⟨rfl, h1⟩⟩ := h1
  ·
    refine j_Z e1 ?_
    refine j_if_ne (tgt := 10) (a := ((1 : Nat) : Int)) C (nI_toInt (by omega)) dX4_start_4 (by decide) (fun c4 => ?_) (fun c4 => absurd c4 (by omega))
    refine j_aload_n C 0 dX4_start_10 rfl rfl ?_
    refine j_getR C zK4 (zb_X hG) (zs_X hG) (f := 2) (by decide) rfl zk_X4_24 rfl (zf_X_2 hG) dX4_start_11 ?_
    refine j_callVN C hR (kX1_forget hD hG) [] zmX1_forget zk_X4_126 zK1 (zb_Fin hG) (zs_Fin hG) (by decide) rfl rfl (Nat.le_of_ble_eq_true rfl) dX4_start_14 (fun Z14 h14 => ?_)
    refine j_Z (Z' := (zu (zu (zfill Z (4) (256) (nI 0)) (3) (3) (nI 0)) (3) (4) (nI 0))) h14 ?_
    refine j_iconst C (nI 0) dX4_start_17 (by decide) ?_
    refine j_istore_n (lv' := [(2, .int (nI 0)), (0, .ref (G.2.1 (0))), (1, .int (p0))]) C dX4_start_18 rfl (by rw [hN]; decide) rfl ?_
    refine j_iconst C (nI 0) dX4_start_19 (by decide) ?_
    refine j_istore_n (lv' := [(3, .int (nI 0)), (2, .int (nI 0)), (0, .ref (G.2.1 (0))), (1, .int (p0))]) C dX4_start_20 rfl (by rw [hN]; decide) rfl ?_
    refine j_Z (Z' := (zpf (zu (zu (zfill Z (4) (256) (nI 0)) (3) (3) (nI 0)) (3) (4) (nI 0)) (0) (stC Z p0 rc) [5, 6, 7])) (zpf_0).symm ?_
    exact L21 (np + 1) (by omega) 0 (by omega) (by omega)
  ·
    refine j_Z e1 ?_
    refine j_if_ne (tgt := 10) (a := ((0 : Nat) : Int)) C (nI_toInt (by omega)) dX4_start_4 (by decide) (fun c4 => absurd c4 (by omega)) (fun c4 => ?_)
    refine j_bipush C (-12) dX4_start_7 (by decide) ?_
    refine j_iret C R dX4_start_9 ?_
    exact Or.inl ⟨by omega, rfl, rfl⟩
theorem zmod_1 {a q : Nat} (hq : 0 < q) (h : q ≤ a % q + 1) : (a + 1) % q = 0 := by
  have h1 : a % q < q := Nat.mod_lt _ (by omega)
  have h2 : a % q = q - 1 := by omega
  rw [Nat.add_mod, h2]
  by_cases h3 : q = 1
  · subst h3; simp
  · rw [Nat.mod_eq_of_lt (show 1 < q by omega), show q - 1 + 1 = q by omega, Nat.mod_self]
theorem zmod_2 {a q : Nat} (h : a % q + 1 < q) : (a + 1) % q = a % q + 1 := by
  rw [Nat.add_mod, Nat.mod_eq_of_lt (show 1 < q by omega), Nat.mod_eq_of_lt h]
set_option maxRecDepth 100000 in
set_option maxHeartbeats 4000000 in
theorem kX4_scale {l : Launch} {D : va_G} {Y : YT} {b0 : Nat} {G : GT} (hD : GD b0 G) (hG : Gok 113 G) {Z : ZT} {np : Nat} (hnp : Z 0 5 = nI np) (hnp12 : np ≤ 12) (hpo : ∀ i, i < np → 0 ≤ (Z (11 + 4 * i) 5).toInt) (p0 : Int32) : CI l D Y b0 G yX4_scale cX4_scale 5 (some .int) 3 [.ref (G.2.1 (0)), .int (p0)] Z (fun r Z' => ((p0.toInt < 1 ∨ 6 < p0.toInt) ∧ r = (-12) ∧ Z' = Z) ∨ ∃ q : Nat, q < 7 ∧ 1 ≤ q ∧ p0 = nI q ∧ r = nI (zcn (fun j => !dnC Z j) np) ∧ Z' = (zpf (zu Z (0) (7) (nI q)) (np) (scC Z q) [9])) := by
  refine ci_start (lv0 := [(0, .ref (G.2.1 (0))), (1, .int (p0))]) hD rfl rfl (Nat.le_of_ble_eq_true rfl) rfl ?_
  intro E C R hR hD hN
  have L26 : ∀ (n : Nat) (q : Nat) (hq : q < 7) (hq1 : 1 ≤ q) (hpq : p0 = nI q) (k : Nat), np + 1 ≤ k + n → k ≤ np → J E 0 0 G 26 [(4, .int (nI k)), (2, .int (nI (zcn (fun j => !dnC Z j) k))), (3, .int (nI (zcn (fun j => !dnC Z j) k % q))), (0, .ref (G.2.1 (0))), (1, .int (nI q))] [] (zpf (zu Z (0) (7) (nI q)) (k) (scC Z q) [9]) := by
    intro n
    induction n with
    | zero => intro q hq hq1 hpq k hn hk; exact absurd hn (by omega)
    | succ n ih =>
      intro q hq hq1 hpq k hn hk
      have hmq : zcn (fun j => !dnC Z j) k % q < q := Nat.mod_lt _ (by omega)
      refine j_iload C 0 dX4_scale_26 rfl ?_
      refine j_aload_n C 3 dX4_scale_28 rfl rfl ?_
      refine j_getI C zK4 (zb_X hG) (zs_X hG) (f := 5) (by decide) rfl zk_X4_44 rfl (nI np) ((zpf_o (by omega)).trans ((zu_o (by omega)).trans (hnp))) dX4_scale_29 ?_
      refine j_icmp_ge (tgt := 97) (a := ((k : Nat) : Int)) (b := ((np : Nat) : Int)) C (nI_toInt (by omega)) (nI_toInt (by omega)) dX4_scale_32 (by decide) (fun c32 => ?_) (fun c32 => ?_)
      ·
        have e9 : k = np := by omega
        subst e9
        refine j_iload_n C 1 dX4_scale_97 rfl rfl ?_
        refine j_iret C R dX4_scale_98 ?_
        exact Or.inr ⟨q, hq, hq1, hpq, rfl, rfl⟩
      ·
        refine j_aload_n C 3 dX4_scale_35 rfl rfl ?_
        refine j_getR C zK4 (zb_X hG) (zs_X hG) (f := 0) (by decide) rfl zk_X4_11 rfl (zf_X_0 hG) dX4_scale_36 ?_
        refine j_iload C 0 dX4_scale_39 rfl ?_
        refine j_aldP C (zb_Pts hG) (zs_Pts hG) (zl_Pts hG) rfl (by omega) (by decide) (zf_Pts hG (by omega)) dX4_scale_41 ?_
        refine j_callIN C hR (kX3_isDone hD hG (i := k)  (by omega) (rc := Z (11 + 4 * k) (3)) (rcI := (Z (11 + 4 * k) (3)).toInt) ((zpf_o (by omega)).trans ((zu_o (by omega)))) rfl (po := Z (11 + 4 * k) (5)) (poI := (Z (11 + 4 * k) (5)).toInt) ((zpf_o (by omega)).trans ((zu_o (by omega)))) rfl (en := Z (11 + 4 * k) (4)) (enI := (Z (11 + 4 * k) (4)).toInt) ((zpf_o (by omega)).trans ((zu_o (by omega)))) rfl) [] zmX3_isDone zk_X4_89 zK3 (zb_Part hG (by omega)) (zs_Part hG (by omega)) (by decide) rfl rfl (Nat.le_of_ble_eq_true rfl) dX4_scale_42 (fun r42 Z42 h42 => ?_)
        obtain ⟨e42, ⟨rfl, h42⟩ | ⟨rfl, h42⟩⟩ := h42
        ·
          refine j_Z e42 ?_
          have hdn : dnC Z k = true := decide_eq_true (by have := hpo k (by omega); omega)
          have hnd : (fun j => !dnC Z j) k = false := by simp [hdn]
          have hle := zcn_le (fun j => !dnC Z j) k
          refine j_if_eq (tgt := 62) (a := ((1 : Nat) : Int)) C (nI_toInt (by omega)) dX4_scale_45 (by decide) (fun c45 => absurd c45 (by omega)) (fun c45 => ?_)
          refine j_aload_n C 3 dX4_scale_48 rfl rfl ?_
          refine j_getR C zK4 (zb_X hG) (zs_X hG) (f := 0) (by decide) rfl zk_X4_11 rfl (zf_X_0 hG) dX4_scale_49 ?_
          refine j_iload C 0 dX4_scale_52 rfl ?_
          refine j_aldP C (zb_Pts hG) (zs_Pts hG) (zl_Pts hG) rfl (by omega) (by decide) (zf_Pts hG (by omega)) dX4_scale_54 ?_
          refine j_iconst C (-1) dX4_scale_55 (by decide) ?_
          refine j_putIN C hD zK3 (zb_Part hG (by omega)) (zs_Part hG (by omega)) (f := 9) (by decide) rfl zk_X4_93 rfl rfl rfl rfl dX4_scale_56 ?_
          refine j_goto (tgt := 91) C dX4_scale_59 (by decide) ?_
          refine j_iinc (v := nI (k + 1)) (lv' := [(4, .int (nI (k + 1))), (2, .int (nI (zcn (fun j => !dnC Z j) k))), (3, .int (nI (zcn (fun j => !dnC Z j) k % q))), (0, .ref (G.2.1 (0))), (1, .int (nI q))]) C 0 dX4_scale_91 rfl (nI_add k 1) (by rw [hN]; decide) rfl ?_
          refine j_goto (tgt := 26) C dX4_scale_94 (by decide) ?_
          refine j_lv (lv' := [(4, .int (nI (k + 1))), (2, .int (nI (zcn (fun j => !dnC Z j) (k + 1)))), (3, .int (nI (zcn (fun j => !dnC Z j) (k + 1) % q))), (0, .ref (G.2.1 (0))), (1, .int (nI q))]) (by rw [zcn_f hnd]) ?_
          refine j_Z (Z' := (zpf (zu Z (0) (7) (nI q)) (k + 1) (scC Z q) [9])) (sc_s rfl (by simp [scC, hdn])) ?_
          exact ih q hq hq1 hpq (k + 1) (by omega) (by omega)
        ·
          refine j_Z e42 ?_
          have hdn : dnC Z k = false := decide_eq_false (by have := hpo k (by omega); omega)
          have hnd : (fun j => !dnC Z j) k = true := by simp [hdn]
          have hle := zcn_le (fun j => !dnC Z j) k
          refine j_if_eq (tgt := 62) (a := ((0 : Nat) : Int)) C (nI_toInt (by omega)) dX4_scale_45 (by decide) (fun c45 => ?_) (fun c45 => absurd c45 (by omega))
          refine j_aload_n C 3 dX4_scale_62 rfl rfl ?_
          refine j_getR C zK4 (zb_X hG) (zs_X hG) (f := 0) (by decide) rfl zk_X4_11 rfl (zf_X_0 hG) dX4_scale_63 ?_
          refine j_iload C 0 dX4_scale_66 rfl ?_
          refine j_aldP C (zb_Pts hG) (zs_Pts hG) (zl_Pts hG) rfl (by omega) (by decide) (zf_Pts hG (by omega)) dX4_scale_68 ?_
          refine j_iload_n C 2 dX4_scale_69 rfl rfl ?_
          refine j_putIN C hD zK3 (zb_Part hG (by omega)) (zs_Part hG (by omega)) (f := 9) (by decide) rfl zk_X4_93 rfl rfl rfl rfl dX4_scale_70 ?_
          refine j_iload_n C 2 dX4_scale_73 rfl rfl ?_
          refine j_iconst C (nI 1) dX4_scale_74 (by decide) ?_
          refine j_iadd C (nI (zcn (fun j => !dnC Z j) k % q + 1)) dX4_scale_75 (nI_add (zcn (fun j => !dnC Z j) k % q) 1) ?_
          refine j_iload_n C 4 dX4_scale_76 rfl rfl ?_
          refine j_icmp_ge (tgt := 86) (a := ((zcn (fun j => !dnC Z j) k % q + 1 : Nat) : Int)) (b := ((q : Nat) : Int)) C (nI_toInt (by omega)) (nI_toInt (by omega)) dX4_scale_77 (by decide) (fun c77 => ?_) (fun c77 => ?_)
          ·
            refine j_iconst C (nI 0) dX4_scale_86 (by decide) ?_
            refine j_istore_n (lv' := [(3, .int (nI 0)), (4, .int (nI k)), (2, .int (nI (zcn (fun j => !dnC Z j) k))), (0, .ref (G.2.1 (0))), (1, .int (nI q))]) C dX4_scale_87 rfl (by rw [hN]; decide) rfl ?_
            refine j_iinc (v := nI (zcn (fun j => !dnC Z j) k + 1)) (lv' := [(2, .int (nI (zcn (fun j => !dnC Z j) k + 1))), (3, .int (nI 0)), (4, .int (nI k)), (0, .ref (G.2.1 (0))), (1, .int (nI q))]) C 2 dX4_scale_88 rfl (nI_add (zcn (fun j => !dnC Z j) k) 1) (by rw [hN]; decide) rfl ?_
            refine j_iinc (v := nI (k + 1)) (lv' := [(4, .int (nI (k + 1))), (2, .int (nI (zcn (fun j => !dnC Z j) k + 1))), (3, .int (nI 0)), (0, .ref (G.2.1 (0))), (1, .int (nI q))]) C 2 dX4_scale_91 rfl (nI_add k 1) (by rw [hN]; decide) rfl ?_
            refine j_goto (tgt := 26) C dX4_scale_94 (by decide) ?_
            refine j_lv (lv' := [(4, .int (nI (k + 1))), (2, .int (nI (zcn (fun j => !dnC Z j) (k + 1)))), (3, .int (nI (zcn (fun j => !dnC Z j) (k + 1) % q))), (0, .ref (G.2.1 (0))), (1, .int (nI q))]) (by rw [zcn_t hnd, zmod_1 (by omega) (by omega)]) ?_
            refine j_Z (Z' := (zpf (zu Z (0) (7) (nI q)) (k + 1) (scC Z q) [9])) (sc_s rfl (by simp [scC, hdn])) ?_
            exact ih q hq hq1 hpq (k + 1) (by omega) (by omega)
          ·
            refine j_iload_n C 2 dX4_scale_80 rfl rfl ?_
            refine j_iconst C (nI 1) dX4_scale_81 (by decide) ?_
            refine j_iadd C (nI (zcn (fun j => !dnC Z j) k % q + 1)) dX4_scale_82 (nI_add (zcn (fun j => !dnC Z j) k % q) 1) ?_
            refine j_goto (tgt := 87) C dX4_scale_83 (by decide) ?_
            refine j_istore_n (lv' := [(3, .int (nI (zcn (fun j => !dnC Z j) k % q + 1))), (4, .int (nI k)), (2, .int (nI (zcn (fun j => !dnC Z j) k))), (0, .ref (G.2.1 (0))), (1, .int (nI q))]) C dX4_scale_87 rfl (by rw [hN]; decide) rfl ?_
            refine j_iinc (v := nI (zcn (fun j => !dnC Z j) k + 1)) (lv' := [(2, .int (nI (zcn (fun j => !dnC Z j) k + 1))), (3, .int (nI (zcn (fun j => !dnC Z j) k % q + 1))), (4, .int (nI k)), (0, .ref (G.2.1 (0))), (1, .int (nI q))]) C 2 dX4_scale_88 rfl (nI_add (zcn (fun j => !dnC Z j) k) 1) (by rw [hN]; decide) rfl ?_
            refine j_iinc (v := nI (k + 1)) (lv' := [(4, .int (nI (k + 1))), (2, .int (nI (zcn (fun j => !dnC Z j) k + 1))), (3, .int (nI (zcn (fun j => !dnC Z j) k % q + 1))), (0, .ref (G.2.1 (0))), (1, .int (nI q))]) C 2 dX4_scale_91 rfl (nI_add k 1) (by rw [hN]; decide) rfl ?_
            refine j_goto (tgt := 26) C dX4_scale_94 (by decide) ?_
            refine j_lv (lv' := [(4, .int (nI (k + 1))), (2, .int (nI (zcn (fun j => !dnC Z j) (k + 1)))), (3, .int (nI (zcn (fun j => !dnC Z j) (k + 1) % q))), (0, .ref (G.2.1 (0))), (1, .int (nI q))]) (by rw [zcn_t hnd, zmod_2 (by omega)]) ?_
            refine j_Z (Z' := (zpf (zu Z (0) (7) (nI q)) (k + 1) (scC Z q) [9])) (sc_s rfl (by simp [scC, hdn])) ?_
            exact ih q hq hq1 hpq (k + 1) (by omega) (by omega)
  refine j_iload_n C 1 dX4_scale_0 rfl rfl ?_
  refine j_iconst C (nI 1) dX4_scale_1 (by decide) ?_
  refine j_icmp_lt (tgt := 11) (a := (p0).toInt) (b := ((1 : Nat) : Int)) C rfl (nI_toInt (by omega)) dX4_scale_2 (by decide) (fun c2 => ?_) (fun c2 => ?_)
  ·
    refine j_bipush C (-12) dX4_scale_11 (by decide) ?_
    refine j_iret C R dX4_scale_13 ?_
    exact Or.inl ⟨by omega, rfl, rfl⟩
  ·
    refine j_iload_n C 1 dX4_scale_5 rfl rfl ?_
    refine j_bipush C (nI 6) dX4_scale_6 (by decide) ?_
    refine j_icmp_le (tgt := 14) (a := (p0).toInt) (b := ((6 : Nat) : Int)) C rfl (nI_toInt (by omega)) dX4_scale_8 (by decide) (fun c8 => ?_) (fun c8 => ?_)
    ·
      obtain ⟨q, hq, rfl⟩ := zi_nat (x := p0) (n := 7) (by omega) (by omega)
      have hq1 : 1 ≤ q := by rw [nI_toInt (by omega)] at c2; omega
      refine j_aload_n C 0 dX4_scale_14 rfl rfl ?_
      refine j_iload_n C 1 dX4_scale_15 rfl rfl ?_
      refine j_putI C hD zK4 (zb_X hG) (zs_X hG) (f := 7) (by decide) rfl zk_X4_114 rfl rfl rfl rfl dX4_scale_16 ?_
      refine j_iconst C (nI 0) dX4_scale_19 (by decide) ?_
      refine j_istore_n (lv' := [(2, .int (nI 0)), (0, .ref (G.2.1 (0))), (1, .int (nI q))]) C dX4_scale_20 rfl (by rw [hN]; decide) rfl ?_
      refine j_iconst C (nI 0) dX4_scale_21 (by decide) ?_
      refine j_istore_n (lv' := [(3, .int (nI 0)), (2, .int (nI 0)), (0, .ref (G.2.1 (0))), (1, .int (nI q))]) C dX4_scale_22 rfl (by rw [hN]; decide) rfl ?_
      refine j_iconst C (nI 0) dX4_scale_23 (by decide) ?_
      refine j_istore (lv' := [(4, .int (nI 0)), (3, .int (nI 0)), (2, .int (nI 0)), (0, .ref (G.2.1 (0))), (1, .int (nI q))]) C dX4_scale_24 (by rw [hN]; decide) rfl ?_
      refine j_sub (lv' := [(4, .int (nI 0)), (2, .int (nI 0)), (3, .int (nI 0)), (0, .ref (G.2.1 (0))), (1, .int (nI q))]) [0, 2, 1, 3, 4] rfl ?_
      refine j_lv (lv' := [(4, .int (nI 0)), (2, .int (nI (zcn (fun j => !dnC Z j) 0))), (3, .int (nI (zcn (fun j => !dnC Z j) 0 % q))), (0, .ref (G.2.1 (0))), (1, .int (nI q))]) (by rw [show zcn (fun j => !dnC Z j) 0 = 0 from rfl, Nat.zero_mod]) ?_
      refine j_Z (Z' := (zpf (zu Z (0) (7) (nI q)) (0) (scC Z q) [9])) (zpf_0).symm ?_
      exact L26 (np + 1) q hq hq1 rfl 0 (by omega) (by omega)
    ·
      refine j_bipush C (-12) dX4_scale_11 (by decide) ?_
      refine j_iret C R dX4_scale_13 ?_
      exact Or.inl ⟨by omega, rfl, rfl⟩
set_option maxRecDepth 100000 in
set_option maxHeartbeats 4000000 in
theorem kX4_told {l : Launch} {D : va_G} {Y : YT} {b0 : Nat} {G : GT} (hD : GD b0 G) (hG : Gok 113 G) {Z : ZT} {np : Nat} (hnp : Z 0 5 = nI np) (hnp12 : np ≤ 12) (hpo : ∀ i, i < np → 0 ≤ (Z (11 + 4 * i) 5).toInt) (p0 p1 : Int32) : CI l D Y b0 G yX4_told cX4_told 4 (some .int) 3 [.ref (G.2.1 (0)), .int (p0), .int (p1)] Z (fun r Z' => ((p0.toInt < 0 ∨ (np : Int) ≤ p0.toInt) ∧ r = (-11) ∧ Z' = Z) ∨ ∃ p : Nat, p < np ∧ p0 = nI p ∧ (((p1 = nI 0) ∧ r = Z (11 + 4 * p) 5 ∧ Z' = Z) ∨ ((p1 = nI 1) ∧ r = Z (11 + 4 * p) 6 ∧ Z' = Z) ∨ ((p1 = nI 2) ∧ r = Z (11 + 4 * p) 7 ∧ Z' = Z) ∨ ((p1 = nI 3) ∧ r = Z (11 + 4 * p) 8 ∧ Z' = Z) ∨ ((p1 = nI 4) ∧ r = Z (11 + 4 * p) 9 ∧ Z' = Z) ∨ ((p1 = nI 5) ∧ r = Z (11 + 4 * p) 3 ∧ Z' = Z) ∨ ((p1 = nI 6) ∧ r = (if (Z (11 + 4 * p) 4).toInt = 0 then nI 0 else nI 1) ∧ Z' = Z) ∨ ((p1 = nI 7) ∧ r = (if rdC Z p = true then nI 1 else nI 0) ∧ Z' = Z) ∨ ((p1 = nI 8) ∧ r = (if dnC Z p = true then nI 1 else nI 0) ∧ Z' = Z) ∨ ((p1 = nI 9) ∧ r = Z (11 + 4 * p) 10 ∧ Z' = Z) ∨ ((p1.toInt < 0 ∨ 9 < p1.toInt) ∧ r = (-2000000012) ∧ Z' = Z))) := by
  refine ci_start (lv0 := [(0, .ref (G.2.1 (0))), (1, .int (p0)), (2, .int (p1))]) hD rfl rfl (Nat.le_of_ble_eq_true rfl) rfl ?_
  intro E C R hR hD hN
  refine j_aload_n C 0 dX4_told_0 rfl rfl ?_
  refine j_iload_n C 1 dX4_told_1 rfl rfl ?_
  refine j_callI C hR (kX4_isPart hD hG (np := nI np) (npI := ((np : Nat) : Int)) hnp (nI_toInt (by omega)) (p0 := p0) (b := (p0).toInt) rfl) [] zmX4_isPart zk_X4_52 zK4 (zb_X hG) (zs_X hG) (by decide) rfl rfl (Nat.le_of_ble_eq_true rfl) dX4_told_2 (fun r2 Z2 h2 => ?_)
  obtain ⟨e2, ⟨rfl, h2⟩ | ⟨rfl, h2⟩⟩ := h2
  ·
    refine j_Z e2 ?_
    refine j_if_ne (tgt := 11) (a := ((1 : Nat) : Int)) C (nI_toInt (by omega)) dX4_told_5 (by decide) (fun c5 => ?_) (fun c5 => absurd c5 (by omega))
    obtain ⟨p, hp, rfl⟩ := zi_nat (x := p0) (n := np) (by omega) (by omega)
    refine j_aload_n C 0 dX4_told_11 rfl rfl ?_
    refine j_getR C zK4 (zb_X hG) (zs_X hG) (f := 0) (by decide) rfl zk_X4_11 rfl (zf_X_0 hG) dX4_told_12 ?_
    refine j_iload_n C 1 dX4_told_15 rfl rfl ?_
    refine j_aldP C (zb_Pts hG) (zs_Pts hG) (zl_Pts hG) rfl (by omega) (by decide) (zf_Pts hG (by omega)) dX4_told_16 ?_
    refine j_astore_n (lv' := [(3, .ref (G.2.1 (11 + 4 * p))), (0, .ref (G.2.1 (0))), (1, .int (nI p)), (2, .int (p1))]) C dX4_told_17 rfl (by rw [hN]; decide) rfl ?_
    refine j_iload_n C 3 dX4_told_18 rfl rfl ?_
    rcases zt10 (p1) with e19 | e19 | e19 | e19 | e19 | e19 | e19 | e19 | e19 | e19 | c19
    ·
      refine j_top e19 ?_
      refine j_tableIn (tgt := 72) C dX4_told_19 (by decide) (by decide) rfl (by decide) ?_
      refine j_aload_n C 0 dX4_told_72 rfl rfl ?_
      refine j_getIN C zK3 (zb_Part hG (by omega)) (zs_Part hG (by omega)) (f := 5) (by decide) rfl zk_X4_76 rfl (Z (11 + 4 * p) (5)) rfl dX4_told_73 ?_
      refine j_iret C R dX4_told_76 ?_
      exact Or.inr ⟨p, hp, rfl, Or.inl ⟨e19, rfl, rfl⟩⟩
    ·
      refine j_top e19 ?_
      refine j_tableIn (tgt := 77) C dX4_told_19 (by decide) (by decide) rfl (by decide) ?_
      refine j_aload_n C 0 dX4_told_77 rfl rfl ?_
      refine j_getIN C zK3 (zb_Part hG (by omega)) (zs_Part hG (by omega)) (f := 6) (by decide) rfl zk_X4_139 rfl (Z (11 + 4 * p) (6)) rfl dX4_told_78 ?_
      refine j_iret C R dX4_told_81 ?_
      exact Or.inr ⟨p, hp, rfl, Or.inr (Or.inl ⟨e19, rfl, rfl⟩)⟩
    ·
      refine j_top e19 ?_
      refine j_tableIn (tgt := 82) C dX4_told_19 (by decide) (by decide) rfl (by decide) ?_
      refine j_aload_n C 0 dX4_told_82 rfl rfl ?_
      refine j_getIN C zK3 (zb_Part hG (by omega)) (zs_Part hG (by omega)) (f := 7) (by decide) rfl zk_X4_142 rfl (Z (11 + 4 * p) (7)) rfl dX4_told_83 ?_
      refine j_iret C R dX4_told_86 ?_
      exact Or.inr ⟨p, hp, rfl, Or.inr (Or.inr (Or.inl ⟨e19, rfl, rfl⟩))⟩
    ·
      refine j_top e19 ?_
      refine j_tableIn (tgt := 87) C dX4_told_19 (by decide) (by decide) rfl (by decide) ?_
      refine j_aload_n C 0 dX4_told_87 rfl rfl ?_
      refine j_getIN C zK3 (zb_Part hG (by omega)) (zs_Part hG (by omega)) (f := 8) (by decide) rfl zk_X4_79 rfl (Z (11 + 4 * p) (8)) rfl dX4_told_88 ?_
      refine j_iret C R dX4_told_91 ?_
      exact Or.inr ⟨p, hp, rfl, Or.inr (Or.inr (Or.inr (Or.inl ⟨e19, rfl, rfl⟩)))⟩
    ·
      refine j_top e19 ?_
      refine j_tableIn (tgt := 92) C dX4_told_19 (by decide) (by decide) rfl (by decide) ?_
      refine j_aload_n C 0 dX4_told_92 rfl rfl ?_
      refine j_getIN C zK3 (zb_Part hG (by omega)) (zs_Part hG (by omega)) (f := 9) (by decide) rfl zk_X4_93 rfl (Z (11 + 4 * p) (9)) rfl dX4_told_93 ?_
      refine j_iret C R dX4_told_96 ?_
      exact Or.inr ⟨p, hp, rfl, Or.inr (Or.inr (Or.inr (Or.inr (Or.inl ⟨e19, rfl, rfl⟩))))⟩
    ·
      refine j_top e19 ?_
      refine j_tableIn (tgt := 97) C dX4_told_19 (by decide) (by decide) rfl (by decide) ?_
      refine j_aload_n C 0 dX4_told_97 rfl rfl ?_
      refine j_getIN C zK3 (zb_Part hG (by omega)) (zs_Part hG (by omega)) (f := 3) (by decide) rfl zk_X4_66 rfl (Z (11 + 4 * p) (3)) rfl dX4_told_98 ?_
      refine j_iret C R dX4_told_101 ?_
      exact Or.inr ⟨p, hp, rfl, Or.inr (Or.inr (Or.inr (Or.inr (Or.inr (Or.inl ⟨e19, rfl, rfl⟩)))))⟩
    ·
      refine j_top e19 ?_
      refine j_tableIn (tgt := 102) C dX4_told_19 (by decide) (by decide) rfl (by decide) ?_
      refine j_aload_n C 0 dX4_told_102 rfl rfl ?_
      refine j_getIN C zK3 (zb_Part hG (by omega)) (zs_Part hG (by omega)) (f := 4) (by decide) rfl zk_X4_62 rfl (Z (11 + 4 * p) (4)) rfl dX4_told_103 ?_
      refine j_if_eq (tgt := 113) (a := (Z (11 + 4 * p) (4)).toInt) C rfl dX4_told_106 (by decide) (fun c106 => ?_) (fun c106 => ?_)
      ·
        refine j_iconst C (nI 0) dX4_told_113 (by decide) ?_
        refine j_iret C R dX4_told_114 ?_
        exact Or.inr ⟨p, hp, rfl, Or.inr (Or.inr (Or.inr (Or.inr (Or.inr (Or.inr (Or.inl ⟨e19, by simp [c106], rfl⟩))))))⟩
      ·
        refine j_iconst C (nI 1) dX4_told_109 (by decide) ?_
        refine j_goto (tgt := 114) C dX4_told_110 (by decide) ?_
        refine j_iret C R dX4_told_114 ?_
        exact Or.inr ⟨p, hp, rfl, Or.inr (Or.inr (Or.inr (Or.inr (Or.inr (Or.inr (Or.inl ⟨e19, by simp [c106], rfl⟩))))))⟩
    ·
      refine j_top e19 ?_
      refine j_tableIn (tgt := 115) C dX4_told_19 (by decide) (by decide) rfl (by decide) ?_
      refine j_aload_n C 0 dX4_told_115 rfl rfl ?_
      refine j_callIN C hR (kX3_isReady hD hG (i := p)  (by omega) (rc := Z (11 + 4 * p) (3)) (rcI := (Z (11 + 4 * p) (3)).toInt) rfl rfl (po := Z (11 + 4 * p) (5)) (poI := (Z (11 + 4 * p) (5)).toInt) rfl rfl) [] zmX3_isReady zk_X4_136 zK3 (zb_Part hG (by omega)) (zs_Part hG (by omega)) (by decide) rfl rfl (Nat.le_of_ble_eq_true rfl) dX4_told_116 (fun r116 Z116 h116 => ?_)
      obtain ⟨e116, ⟨rfl, h116⟩ | ⟨rfl, h116⟩⟩ := h116
      ·
        refine j_Z e116 ?_
        have hdn : rdC Z p = true := decide_eq_true (by have := hpo p hp; omega)
        refine j_if_eq (tgt := 126) (a := ((1 : Nat) : Int)) C (nI_toInt (by omega)) dX4_told_119 (by decide) (fun c119 => absurd c119 (by omega)) (fun c119 => ?_)
        refine j_iconst C (nI 1) dX4_told_122 (by decide) ?_
        refine j_goto (tgt := 127) C dX4_told_123 (by decide) ?_
        refine j_iret C R dX4_told_127 ?_
        exact Or.inr ⟨p, hp, rfl, Or.inr (Or.inr (Or.inr (Or.inr (Or.inr (Or.inr (Or.inr (Or.inl ⟨e19, by simp [hdn], rfl⟩)))))))⟩
      ·
        refine j_Z e116 ?_
        have hdn : rdC Z p = false := decide_eq_false (by have := hpo p hp; omega)
        refine j_if_eq (tgt := 126) (a := ((0 : Nat) : Int)) C (nI_toInt (by omega)) dX4_told_119 (by decide) (fun c119 => ?_) (fun c119 => absurd c119 (by omega))
        refine j_iconst C (nI 0) dX4_told_126 (by decide) ?_
        refine j_iret C R dX4_told_127 ?_
        exact Or.inr ⟨p, hp, rfl, Or.inr (Or.inr (Or.inr (Or.inr (Or.inr (Or.inr (Or.inr (Or.inl ⟨e19, by simp [hdn], rfl⟩)))))))⟩
    ·
      refine j_top e19 ?_
      refine j_tableIn (tgt := 128) C dX4_told_19 (by decide) (by decide) rfl (by decide) ?_
      refine j_aload_n C 0 dX4_told_128 rfl rfl ?_
      refine j_callIN C hR (kX3_isDone hD hG (i := p)  (by omega) (rc := Z (11 + 4 * p) (3)) (rcI := (Z (11 + 4 * p) (3)).toInt) rfl rfl (po := Z (11 + 4 * p) (5)) (poI := (Z (11 + 4 * p) (5)).toInt) rfl rfl (en := Z (11 + 4 * p) (4)) (enI := (Z (11 + 4 * p) (4)).toInt) rfl rfl) [] zmX3_isDone zk_X4_89 zK3 (zb_Part hG (by omega)) (zs_Part hG (by omega)) (by decide) rfl rfl (Nat.le_of_ble_eq_true rfl) dX4_told_129 (fun r129 Z129 h129 => ?_)
      obtain ⟨e129, ⟨rfl, h129⟩ | ⟨rfl, h129⟩⟩ := h129
      ·
        refine j_Z e129 ?_
        have hdn : dnC Z p = true := decide_eq_true (by have := hpo p hp; omega)
        refine j_if_eq (tgt := 139) (a := ((1 : Nat) : Int)) C (nI_toInt (by omega)) dX4_told_132 (by decide) (fun c132 => absurd c132 (by omega)) (fun c132 => ?_)
        refine j_iconst C (nI 1) dX4_told_135 (by decide) ?_
        refine j_goto (tgt := 140) C dX4_told_136 (by decide) ?_
        refine j_iret C R dX4_told_140 ?_
        exact Or.inr ⟨p, hp, rfl, Or.inr (Or.inr (Or.inr (Or.inr (Or.inr (Or.inr (Or.inr (Or.inr (Or.inl ⟨e19, by simp [hdn], rfl⟩))))))))⟩
      ·
        refine j_Z e129 ?_
        have hdn : dnC Z p = false := decide_eq_false (by have := hpo p hp; omega)
        refine j_if_eq (tgt := 139) (a := ((0 : Nat) : Int)) C (nI_toInt (by omega)) dX4_told_132 (by decide) (fun c132 => ?_) (fun c132 => absurd c132 (by omega))
        refine j_iconst C (nI 0) dX4_told_139 (by decide) ?_
        refine j_iret C R dX4_told_140 ?_
        exact Or.inr ⟨p, hp, rfl, Or.inr (Or.inr (Or.inr (Or.inr (Or.inr (Or.inr (Or.inr (Or.inr (Or.inl ⟨e19, by simp [hdn], rfl⟩))))))))⟩
    ·
      refine j_top e19 ?_
      refine j_tableIn (tgt := 141) C dX4_told_19 (by decide) (by decide) rfl (by decide) ?_
      refine j_aload_n C 0 dX4_told_141 rfl rfl ?_
      refine j_getIN C zK3 (zb_Part hG (by omega)) (zs_Part hG (by omega)) (f := 10) (by decide) rfl zk_X4_145 rfl (Z (11 + 4 * p) (10)) rfl dX4_told_142 ?_
      refine j_iret C R dX4_told_145 ?_
      exact Or.inr ⟨p, hp, rfl, Or.inr (Or.inr (Or.inr (Or.inr (Or.inr (Or.inr (Or.inr (Or.inr (Or.inr (Or.inl ⟨e19, rfl, rfl⟩)))))))))⟩
    ·
      refine j_tableOut (tgt := 146) C dX4_told_19 c19 (by decide) ?_
      refine j_ldc C (-2000000012) zk_X4_148 dX4_told_146 ?_
      refine j_iret C R dX4_told_148 ?_
      exact Or.inr ⟨p, hp, rfl, Or.inr (Or.inr (Or.inr (Or.inr (Or.inr (Or.inr (Or.inr (Or.inr (Or.inr (Or.inr ⟨c19, rfl, rfl⟩)))))))))⟩
  ·
    refine j_Z e2 ?_
    refine j_if_ne (tgt := 11) (a := ((0 : Nat) : Int)) C (nI_toInt (by omega)) dX4_told_5 (by decide) (fun c5 => absurd c5 (by omega)) (fun c5 => ?_)
    refine j_bipush C (-11) dX4_told_8 (by decide) ?_
    refine j_iret C R dX4_told_10 ?_
    exact Or.inl ⟨by omega, rfl, rfl⟩
set_option maxRecDepth 100000 in
set_option maxHeartbeats 4000000 in
theorem kX4_count {l : Launch} {D : va_G} {Y : YT} {b0 : Nat} {G : GT} (hD : GD b0 G) (hG : Gok 113 G) {Z : ZT} {np : Nat} (hnp : Z 0 5 = nI np) (hnp12 : np ≤ 12) (hpo : ∀ i, i < np → 0 ≤ (Z (11 + 4 * i) 5).toInt) (p0 : Int32) : CI l D Y b0 G yX4_count cX4_count 2 (some .int) 4 [.ref (G.2.1 (0)), .int (p0)] Z (fun r Z' => ((p0 = nI 0) ∧ r = nI np ∧ Z' = Z) ∨ ((p0 = nI 1) ∧ r = Z 0 7 ∧ Z' = Z) ∨ ((p0 = nI 2) ∧ r = Z 0 6 ∧ Z' = Z) ∨ ((p0 = nI 3) ∧ r = Z 7 2 ∧ Z' = Z) ∨ ((p0 = nI 4) ∧ r = Z 3 3 ∧ Z' = Z) ∨ ((p0 = nI 5) ∧ r = Z 3 4 ∧ Z' = Z) ∨ ((p0 = nI 6) ∧ r = nI (zcn (dnC Z) np) ∧ Z' = Z) ∨ ((p0 = nI 7) ∧ r = Z 7 3 ∧ Z' = Z) ∨ ((p0 = nI 8) ∧ r = Z 7 4 ∧ Z' = Z) ∨ ((p0 = nI 9) ∧ r = Z 7 5 ∧ Z' = Z) ∨ ((p0.toInt < 0 ∨ 9 < p0.toInt) ∧ r = (-12) ∧ Z' = Z)) := by
  refine ci_start (lv0 := [(0, .ref (G.2.1 (0))), (1, .int (p0))]) hD rfl rfl (Nat.le_of_ble_eq_true rfl) rfl ?_
  intro E C R hR hD hN
  refine j_iload_n C 1 dX4_count_0 rfl rfl ?_
  rcases zt10 (p0) with e1 | e1 | e1 | e1 | e1 | e1 | e1 | e1 | e1 | e1 | c1
  ·
    refine j_top e1 ?_
    refine j_tableIn (tgt := 56) C dX4_count_1 (by decide) (by decide) rfl (by decide) ?_
    refine j_aload_n C 0 dX4_count_56 rfl rfl ?_
    refine j_getI C zK4 (zb_X hG) (zs_X hG) (f := 5) (by decide) rfl zk_X4_44 rfl (nI np) hnp dX4_count_57 ?_
    refine j_iret C R dX4_count_60 ?_
    exact Or.inl ⟨e1, rfl, rfl⟩
  ·
    refine j_top e1 ?_
    refine j_tableIn (tgt := 61) C dX4_count_1 (by decide) (by decide) rfl (by decide) ?_
    refine j_aload_n C 0 dX4_count_61 rfl rfl ?_
    refine j_getI C zK4 (zb_X hG) (zs_X hG) (f := 7) (by decide) rfl zk_X4_114 rfl (Z 0 7) rfl dX4_count_62 ?_
    refine j_iret C R dX4_count_65 ?_
    exact Or.inr (Or.inl ⟨e1, rfl, rfl⟩)
  ·
    refine j_top e1 ?_
    refine j_tableIn (tgt := 66) C dX4_count_1 (by decide) (by decide) rfl (by decide) ?_
    refine j_aload_n C 0 dX4_count_66 rfl rfl ?_
    refine j_getI C zK4 (zb_X hG) (zs_X hG) (f := 6) (by decide) rfl zk_X4_107 rfl (Z 0 6) rfl dX4_count_67 ?_
    refine j_iret C R dX4_count_70 ?_
    exact Or.inr (Or.inr (Or.inl ⟨e1, rfl, rfl⟩))
  ·
    refine j_top e1 ?_
    refine j_tableIn (tgt := 71) C dX4_count_1 (by decide) (by decide) rfl (by decide) ?_
    refine j_aload_n C 0 dX4_count_71 rfl rfl ?_
    refine j_getR C zK4 (zb_X hG) (zs_X hG) (f := 3) (by decide) rfl zk_X4_31 rfl (zf_X_3 hG) dX4_count_72 ?_
    refine j_getIN C zK0 (zb_Del hG) (zs_Del hG) (f := 2) (by decide) rfl zk_X4_189 rfl (Z 7 2) rfl dX4_count_75 ?_
    refine j_iret C R dX4_count_78 ?_
    exact Or.inr (Or.inr (Or.inr (Or.inl ⟨e1, rfl, rfl⟩)))
  ·
    refine j_top e1 ?_
    refine j_tableIn (tgt := 79) C dX4_count_1 (by decide) (by decide) rfl (by decide) ?_
    refine j_aload_n C 0 dX4_count_79 rfl rfl ?_
    refine j_getR C zK4 (zb_X hG) (zs_X hG) (f := 2) (by decide) rfl zk_X4_24 rfl (zf_X_2 hG) dX4_count_80 ?_
    refine j_getIN C zK1 (zb_Fin hG) (zs_Fin hG) (f := 3) (by decide) rfl zk_X4_192 rfl (Z 3 3) rfl dX4_count_83 ?_
    refine j_iret C R dX4_count_86 ?_
    exact Or.inr (Or.inr (Or.inr (Or.inr (Or.inl ⟨e1, rfl, rfl⟩))))
  ·
    refine j_top e1 ?_
    refine j_tableIn (tgt := 87) C dX4_count_1 (by decide) (by decide) rfl (by decide) ?_
    refine j_aload_n C 0 dX4_count_87 rfl rfl ?_
    refine j_getR C zK4 (zb_X hG) (zs_X hG) (f := 2) (by decide) rfl zk_X4_24 rfl (zf_X_2 hG) dX4_count_88 ?_
    refine j_getIN C zK1 (zb_Fin hG) (zs_Fin hG) (f := 4) (by decide) rfl zk_X4_167 rfl (Z 3 4) rfl dX4_count_91 ?_
    refine j_iret C R dX4_count_94 ?_
    exact Or.inr (Or.inr (Or.inr (Or.inr (Or.inr (Or.inl ⟨e1, rfl, rfl⟩)))))
  ·
    refine j_top e1 ?_
    refine j_tableIn (tgt := 95) C dX4_count_1 (by decide) (by decide) rfl (by decide) ?_
    refine j_aload_n C 0 dX4_count_95 rfl rfl ?_
    refine j_callI C hR (kX4_countDone hD hG (np := np) hnp (by omega) hpo) [] zmX4_countDone zk_X4_195 zK4 (zb_X hG) (zs_X hG) (by decide) rfl rfl (Nat.le_of_ble_eq_true rfl) dX4_count_96 (fun r96 Z96 h96 => ?_)
    obtain ⟨h96, rfl⟩ := h96
    refine j_Z (Z' := Z) h96 ?_
    refine j_iret C R dX4_count_99 ?_
    exact Or.inr (Or.inr (Or.inr (Or.inr (Or.inr (Or.inr (Or.inl ⟨e1, rfl, rfl⟩))))))
  ·
    refine j_top e1 ?_
    refine j_tableIn (tgt := 100) C dX4_count_1 (by decide) (by decide) rfl (by decide) ?_
    refine j_aload_n C 0 dX4_count_100 rfl rfl ?_
    refine j_getR C zK4 (zb_X hG) (zs_X hG) (f := 3) (by decide) rfl zk_X4_31 rfl (zf_X_3 hG) dX4_count_101 ?_
    refine j_getIN C zK0 (zb_Del hG) (zs_Del hG) (f := 3) (by decide) rfl zk_X4_199 rfl (Z 7 3) rfl dX4_count_104 ?_
    refine j_iret C R dX4_count_107 ?_
    exact Or.inr (Or.inr (Or.inr (Or.inr (Or.inr (Or.inr (Or.inr (Or.inl ⟨e1, rfl, rfl⟩)))))))
  ·
    refine j_top e1 ?_
    refine j_tableIn (tgt := 108) C dX4_count_1 (by decide) (by decide) rfl (by decide) ?_
    refine j_aload_n C 0 dX4_count_108 rfl rfl ?_
    refine j_getR C zK4 (zb_X hG) (zs_X hG) (f := 3) (by decide) rfl zk_X4_31 rfl (zf_X_3 hG) dX4_count_109 ?_
    refine j_getIN C zK0 (zb_Del hG) (zs_Del hG) (f := 4) (by decide) rfl zk_X4_202 rfl (Z 7 4) rfl dX4_count_112 ?_
    refine j_iret C R dX4_count_115 ?_
    exact Or.inr (Or.inr (Or.inr (Or.inr (Or.inr (Or.inr (Or.inr (Or.inr (Or.inl ⟨e1, rfl, rfl⟩))))))))
  ·
    refine j_top e1 ?_
    refine j_tableIn (tgt := 116) C dX4_count_1 (by decide) (by decide) rfl (by decide) ?_
    refine j_aload_n C 0 dX4_count_116 rfl rfl ?_
    refine j_getR C zK4 (zb_X hG) (zs_X hG) (f := 3) (by decide) rfl zk_X4_31 rfl (zf_X_3 hG) dX4_count_117 ?_
    refine j_getIN C zK0 (zb_Del hG) (zs_Del hG) (f := 5) (by decide) rfl zk_X4_205 rfl (Z 7 5) rfl dX4_count_120 ?_
    refine j_iret C R dX4_count_123 ?_
    exact Or.inr (Or.inr (Or.inr (Or.inr (Or.inr (Or.inr (Or.inr (Or.inr (Or.inr (Or.inl ⟨e1, rfl, rfl⟩)))))))))
  ·
    refine j_tableOut (tgt := 124) C dX4_count_1 c1 (by decide) ?_
    refine j_bipush C (-12) dX4_count_124 (by decide) ?_
    refine j_iret C R dX4_count_126 ?_
    exact Or.inr (Or.inr (Or.inr (Or.inr (Or.inr (Or.inr (Or.inr (Or.inr (Or.inr (Or.inr ⟨c1, rfl, rfl⟩)))))))))
def wlf (dn : Nat → Bool) (wa : Nat → Int32) : Nat → Int32
  | 0 => nI 200000
  | n + 1 => if dn n = false ∧ (wa n).toInt < (wlf dn wa n).toInt then wa n else wlf dn wa n
def wgf (wa : Nat → Int32) : Nat → Int32
  | 0 => -1
  | n + 1 => if wgf wa n < wa n then wa n else wgf wa n
theorem wlf_congr {dn dn' : Nat → Bool} {wa wa' : Nat → Int32} : ∀ {n : Nat}, (∀ i, i < n → dn i = dn' i) → (∀ i, i < n → wa i = wa' i) → wlf dn wa n = wlf dn' wa' n := by
  intro n
  induction n with
  | zero => intro _ _; rfl
  | succ n ih => intro h1 h2; simp only [wlf, h1 n (by omega), h2 n (by omega), ih (fun i hi => h1 i (by omega)) (fun i hi => h2 i (by omega))]
theorem wgf_congr {wa wa' : Nat → Int32} : ∀ {n : Nat}, (∀ i, i < n → wa i = wa' i) → wgf wa n = wgf wa' n := by
  intro n
  induction n with
  | zero => intro _; rfl
  | succ n ih => intro h2; simp only [wgf, h2 n (by omega), ih (fun i hi => h2 i (by omega))]
abbrev waC (Z : ZT) (i : Nat) : Int32 := Z (11 + 4 * i) 6
theorem nI_2e5 : (nI 200000).toInt = 200000 := rfl
set_option maxRecDepth 100000 in
set_option maxHeartbeats 4000000 in
theorem kX4_water {l : Launch} {D : va_G} {Y : YT} {b0 : Nat} {G : GT} (hD : GD b0 G) (hG : Gok 113 G) {Z : ZT} {np : Nat} (hnp : Z 0 5 = nI np) (hnp12 : np ≤ 12) (hpo : ∀ i, i < np → 0 ≤ (Z (11 + 4 * i) 5).toInt) (hwa : ∀ i, i < np → (Z (11 + 4 * i) 6).toInt ≤ 100000) : CI l D Y b0 G yX4_water cX4_water 6 (some .int) 3 [.ref (G.2.1 (0))] Z (fun r Z' => Z' = Z ∧ r = (if (wlf (dnC Z) (waC Z) np).toInt < 200000 then wlf (dnC Z) (waC Z) np else wgf (waC Z) np)) := by
  refine ci_start (lv0 := [(0, .ref (G.2.1 (0)))]) hD rfl rfl (Nat.le_of_ble_eq_true rfl) rfl ?_
  intro E C R hR hD hN
  have L9 : ∀ (n : Nat) (k a : Nat) (l : Int32), np + 1 ≤ k + n → k ≤ np → ((a = 1 ∧ wlf (dnC Z) (waC Z) k = nI 200000) ∨ (a = 0 ∧ l = wlf (dnC Z) (waC Z) k ∧ (wlf (dnC Z) (waC Z) k).toInt ≤ 100000)) → J E 0 0 G 9 [(4, .int (nI k)), (3, .int (nI a)), (1, .int (l)), (2, .int (wgf (waC Z) k)), (0, .ref (G.2.1 (0)))] [] Z := by
    intro n
    induction n with
    | zero => intro k a l hn hk hh; exact absurd hn (by omega)
    | succ n ih =>
      intro k a l hn hk hh
      rcases hh with ⟨rfl, ha⟩ | ⟨rfl, ha, hl⟩
      ·
        refine j_iload C 0 dX4_water_9 rfl ?_
        refine j_aload_n C 4 dX4_water_11 rfl rfl ?_
        refine j_getI C zK4 (zb_X hG) (zs_X hG) (f := 5) (by decide) rfl zk_X4_44 rfl (nI np) hnp dX4_water_12 ?_
        refine j_icmp_ge (tgt := 74) (a := ((k : Nat) : Int)) (b := ((np : Nat) : Int)) C (nI_toInt (by omega)) (nI_toInt (by omega)) dX4_water_15 (by decide) (fun c15 => ?_) (fun c15 => ?_)
        ·
          have e9 : k = np := by omega
          subst e9
          refine j_iload_n C 1 dX4_water_74 rfl rfl ?_
          refine j_if_eq (tgt := 82) (a := ((1 : Nat) : Int)) C (nI_toInt (by omega)) dX4_water_75 (by decide) (fun c75 => absurd c75 (by omega)) (fun c75 => ?_)
          refine j_iload_n C 3 dX4_water_78 rfl rfl ?_
          refine j_goto (tgt := 83) C dX4_water_79 (by decide) ?_
          refine j_iret C R dX4_water_83 ?_
          exact ⟨rfl, by rw [ha, nI_2e5]; rfl⟩
        ·
          refine j_aload_n C 4 dX4_water_18 rfl rfl ?_
          refine j_getR C zK4 (zb_X hG) (zs_X hG) (f := 0) (by decide) rfl zk_X4_11 rfl (zf_X_0 hG) dX4_water_19 ?_
          refine j_iload C 0 dX4_water_22 rfl ?_
          refine j_aldP C (zb_Pts hG) (zs_Pts hG) (zl_Pts hG) rfl (by omega) (by decide) (zf_Pts hG (by omega)) dX4_water_24 ?_
          refine j_getIN C zK3 (zb_Part hG (by omega)) (zs_Part hG (by omega)) (f := 6) (by decide) rfl zk_X4_139 rfl (Z (11 + 4 * k) (6)) rfl dX4_water_25 ?_
          refine j_istore (lv' := [(5, .int (Z (11 + 4 * k) (6))), (4, .int (nI k)), (3, .int (nI 1)), (1, .int (l)), (2, .int (wgf (waC Z) k)), (0, .ref (G.2.1 (0)))]) C dX4_water_28 (by rw [hN]; decide) rfl ?_
          refine j_iload_n C 4 dX4_water_30 rfl rfl ?_
          refine j_iload C 0 dX4_water_31 rfl ?_
          refine j_max C (hR) (if wgf (waC Z) k < Z (11 + 4 * k) (6) then Z (11 + 4 * k) (6) else wgf (waC Z) k) zk_X4_181 dX4_water_33 (Nat.le_of_ble_eq_true rfl) rfl rfl rfl ?_
          refine j_istore_n (lv' := [(2, .int (if wgf (waC Z) k < Z (11 + 4 * k) (6) then Z (11 + 4 * k) (6) else wgf (waC Z) k)), (5, .int (Z (11 + 4 * k) (6))), (4, .int (nI k)), (3, .int (nI 1)), (1, .int (l)), (0, .ref (G.2.1 (0)))]) C dX4_water_36 rfl (by rw [hN]; decide) rfl ?_
          refine j_aload_n C 5 dX4_water_37 rfl rfl ?_
          refine j_getR C zK4 (zb_X hG) (zs_X hG) (f := 0) (by decide) rfl zk_X4_11 rfl (zf_X_0 hG) dX4_water_38 ?_
          refine j_iload C 2 dX4_water_41 rfl ?_
          refine j_aldP C (zb_Pts hG) (zs_Pts hG) (zl_Pts hG) rfl (by omega) (by decide) (zf_Pts hG (by omega)) dX4_water_43 ?_
          refine j_callIN C hR (kX3_isDone hD hG (i := k)  (by omega) (rc := Z (11 + 4 * k) (3)) (rcI := (Z (11 + 4 * k) (3)).toInt) rfl rfl (po := Z (11 + 4 * k) (5)) (poI := (Z (11 + 4 * k) (5)).toInt) rfl rfl (en := Z (11 + 4 * k) (4)) (enI := (Z (11 + 4 * k) (4)).toInt) rfl rfl) [] zmX3_isDone zk_X4_89 zK3 (zb_Part hG (by omega)) (zs_Part hG (by omega)) (by decide) rfl rfl (Nat.le_of_ble_eq_true rfl) dX4_water_44 (fun r44 Z44 h44 => ?_)
          obtain ⟨e44, ⟨rfl, h44⟩ | ⟨rfl, h44⟩⟩ := h44
          ·
            refine j_Z e44 ?_
            have hdn : dnC Z k = true := decide_eq_true (by have := hpo k (by omega); omega)
            refine j_if_ne (tgt := 68) (a := ((1 : Nat) : Int)) C (nI_toInt (by omega)) dX4_water_47 (by decide) (fun c47 => ?_) (fun c47 => absurd c47 (by omega))
            refine j_iinc (v := nI (k + 1)) (lv' := [(4, .int (nI (k + 1))), (2, .int (if wgf (waC Z) k < Z (11 + 4 * k) (6) then Z (11 + 4 * k) (6) else wgf (waC Z) k)), (5, .int (Z (11 + 4 * k) (6))), (3, .int (nI 1)), (1, .int (l)), (0, .ref (G.2.1 (0)))]) C 2 dX4_water_68 rfl (nI_add k 1) (by rw [hN]; decide) rfl ?_
            refine j_goto (tgt := 9) C dX4_water_71 (by decide) ?_
            refine j_sub (lv' := [(4, .int (nI (k + 1))), (3, .int (nI 1)), (1, .int (l)), (2, .int (if wgf (waC Z) k < Z (11 + 4 * k) (6) then Z (11 + 4 * k) (6) else wgf (waC Z) k)), (0, .ref (G.2.1 (0)))]) [0, 3, 4, 1, 5] rfl ?_
            exact ih (k + 1) 1 l (by omega) (by omega) (Or.inl ⟨rfl, by simp [wlf, hdn, ha]⟩)
          ·
            refine j_Z e44 ?_
            have hdn : dnC Z k = false := decide_eq_false (by have := hpo k (by omega); omega)
            refine j_if_ne (tgt := 68) (a := ((0 : Nat) : Int)) C (nI_toInt (by omega)) dX4_water_47 (by decide) (fun c47 => absurd c47 (by omega)) (fun c47 => ?_)
            refine j_iload_n C 3 dX4_water_50 rfl rfl ?_
            refine j_if_eq (tgt := 59) (a := ((1 : Nat) : Int)) C (nI_toInt (by omega)) dX4_water_51 (by decide) (fun c51 => absurd c51 (by omega)) (fun c51 => ?_)
            refine j_iload C 1 dX4_water_54 rfl ?_
            refine j_goto (tgt := 65) C dX4_water_56 (by decide) ?_
            refine j_istore_n (lv' := [(1, .int (Z (11 + 4 * k) (6))), (2, .int (if wgf (waC Z) k < Z (11 + 4 * k) (6) then Z (11 + 4 * k) (6) else wgf (waC Z) k)), (5, .int (Z (11 + 4 * k) (6))), (4, .int (nI k)), (3, .int (nI 1)), (0, .ref (G.2.1 (0)))]) C dX4_water_65 rfl (by rw [hN]; decide) rfl ?_
            have hl2 : Z (11 + 4 * k) 6 = wlf (dnC Z) (waC Z) (k + 1) := by
              have q1 : (waC Z k).toInt < (wlf (dnC Z) (waC Z) k).toInt := by show (Z (11 + 4 * k) 6).toInt < _; rw [ha, nI_2e5]; have := hwa k (by omega); omega
              simp only [wlf, hdn, q1, and_self, if_true]
            have hl3 : (wlf (dnC Z) (waC Z) (k + 1)).toInt ≤ 100000 := by rw [← hl2]; exact hwa k (by omega)
            refine j_iconst C (nI 0) dX4_water_66 (by decide) ?_
            refine j_istore_n (lv' := [(3, .int (nI 0)), (1, .int (Z (11 + 4 * k) (6))), (2, .int (if wgf (waC Z) k < Z (11 + 4 * k) (6) then Z (11 + 4 * k) (6) else wgf (waC Z) k)), (5, .int (Z (11 + 4 * k) (6))), (4, .int (nI k)), (0, .ref (G.2.1 (0)))]) C dX4_water_67 rfl (by rw [hN]; decide) rfl ?_
            refine j_iinc (v := nI (k + 1)) (lv' := [(4, .int (nI (k + 1))), (3, .int (nI 0)), (1, .int (Z (11 + 4 * k) (6))), (2, .int (if wgf (waC Z) k < Z (11 + 4 * k) (6) then Z (11 + 4 * k) (6) else wgf (waC Z) k)), (5, .int (Z (11 + 4 * k) (6))), (0, .ref (G.2.1 (0)))]) C 4 dX4_water_68 rfl (nI_add k 1) (by rw [hN]; decide) rfl ?_
            refine j_goto (tgt := 9) C dX4_water_71 (by decide) ?_
            refine j_sub (lv' := [(4, .int (nI (k + 1))), (3, .int (nI 0)), (1, .int (Z (11 + 4 * k) (6))), (2, .int (if wgf (waC Z) k < Z (11 + 4 * k) (6) then Z (11 + 4 * k) (6) else wgf (waC Z) k)), (0, .ref (G.2.1 (0)))]) [0, 1, 2, 3, 5] rfl ?_
            exact ih (k + 1) 0 (Z (11 + 4 * k) 6) (by omega) (by omega) (Or.inr ⟨rfl, hl2, hl3⟩)
      ·
        refine j_iload C 0 dX4_water_9 rfl ?_
        refine j_aload_n C 4 dX4_water_11 rfl rfl ?_
        refine j_getI C zK4 (zb_X hG) (zs_X hG) (f := 5) (by decide) rfl zk_X4_44 rfl (nI np) hnp dX4_water_12 ?_
        refine j_icmp_ge (tgt := 74) (a := ((k : Nat) : Int)) (b := ((np : Nat) : Int)) C (nI_toInt (by omega)) (nI_toInt (by omega)) dX4_water_15 (by decide) (fun c15 => ?_) (fun c15 => ?_)
        ·
          have e9 : k = np := by omega
          subst e9
          refine j_iload_n C 1 dX4_water_74 rfl rfl ?_
          refine j_if_eq (tgt := 82) (a := ((0 : Nat) : Int)) C (nI_toInt (by omega)) dX4_water_75 (by decide) (fun c75 => ?_) (fun c75 => absurd c75 (by omega))
          refine j_iload_n C 2 dX4_water_82 rfl rfl ?_
          refine j_iret C R dX4_water_83 ?_
          exact ⟨rfl, by rw [if_pos (by omega)]; exact ha⟩
        ·
          refine j_aload_n C 4 dX4_water_18 rfl rfl ?_
          refine j_getR C zK4 (zb_X hG) (zs_X hG) (f := 0) (by decide) rfl zk_X4_11 rfl (zf_X_0 hG) dX4_water_19 ?_
          refine j_iload C 0 dX4_water_22 rfl ?_
          refine j_aldP C (zb_Pts hG) (zs_Pts hG) (zl_Pts hG) rfl (by omega) (by decide) (zf_Pts hG (by omega)) dX4_water_24 ?_
          refine j_getIN C zK3 (zb_Part hG (by omega)) (zs_Part hG (by omega)) (f := 6) (by decide) rfl zk_X4_139 rfl (Z (11 + 4 * k) (6)) rfl dX4_water_25 ?_
          refine j_istore (lv' := [(5, .int (Z (11 + 4 * k) (6))), (4, .int (nI k)), (3, .int (nI 0)), (1, .int (l)), (2, .int (wgf (waC Z) k)), (0, .ref (G.2.1 (0)))]) C dX4_water_28 (by rw [hN]; decide) rfl ?_
          refine j_iload_n C 4 dX4_water_30 rfl rfl ?_
          refine j_iload C 0 dX4_water_31 rfl ?_
          refine j_max C (hR) (if wgf (waC Z) k < Z (11 + 4 * k) (6) then Z (11 + 4 * k) (6) else wgf (waC Z) k) zk_X4_181 dX4_water_33 (Nat.le_of_ble_eq_true rfl) rfl rfl rfl ?_
          refine j_istore_n (lv' := [(2, .int (if wgf (waC Z) k < Z (11 + 4 * k) (6) then Z (11 + 4 * k) (6) else wgf (waC Z) k)), (5, .int (Z (11 + 4 * k) (6))), (4, .int (nI k)), (3, .int (nI 0)), (1, .int (l)), (0, .ref (G.2.1 (0)))]) C dX4_water_36 rfl (by rw [hN]; decide) rfl ?_
          refine j_aload_n C 5 dX4_water_37 rfl rfl ?_
          refine j_getR C zK4 (zb_X hG) (zs_X hG) (f := 0) (by decide) rfl zk_X4_11 rfl (zf_X_0 hG) dX4_water_38 ?_
          refine j_iload C 2 dX4_water_41 rfl ?_
          refine j_aldP C (zb_Pts hG) (zs_Pts hG) (zl_Pts hG) rfl (by omega) (by decide) (zf_Pts hG (by omega)) dX4_water_43 ?_
          refine j_callIN C hR (kX3_isDone hD hG (i := k)  (by omega) (rc := Z (11 + 4 * k) (3)) (rcI := (Z (11 + 4 * k) (3)).toInt) rfl rfl (po := Z (11 + 4 * k) (5)) (poI := (Z (11 + 4 * k) (5)).toInt) rfl rfl (en := Z (11 + 4 * k) (4)) (enI := (Z (11 + 4 * k) (4)).toInt) rfl rfl) [] zmX3_isDone zk_X4_89 zK3 (zb_Part hG (by omega)) (zs_Part hG (by omega)) (by decide) rfl rfl (Nat.le_of_ble_eq_true rfl) dX4_water_44 (fun r44 Z44 h44 => ?_)
          obtain ⟨e44, ⟨rfl, h44⟩ | ⟨rfl, h44⟩⟩ := h44
          ·
            refine j_Z e44 ?_
            have hdn : dnC Z k = true := decide_eq_true (by have := hpo k (by omega); omega)
            refine j_if_ne (tgt := 68) (a := ((1 : Nat) : Int)) C (nI_toInt (by omega)) dX4_water_47 (by decide) (fun c47 => ?_) (fun c47 => absurd c47 (by omega))
            refine j_iinc (v := nI (k + 1)) (lv' := [(4, .int (nI (k + 1))), (2, .int (if wgf (waC Z) k < Z (11 + 4 * k) (6) then Z (11 + 4 * k) (6) else wgf (waC Z) k)), (5, .int (Z (11 + 4 * k) (6))), (3, .int (nI 0)), (1, .int (l)), (0, .ref (G.2.1 (0)))]) C 2 dX4_water_68 rfl (nI_add k 1) (by rw [hN]; decide) rfl ?_
            refine j_goto (tgt := 9) C dX4_water_71 (by decide) ?_
            refine j_sub (lv' := [(4, .int (nI (k + 1))), (3, .int (nI 0)), (1, .int (l)), (2, .int (if wgf (waC Z) k < Z (11 + 4 * k) (6) then Z (11 + 4 * k) (6) else wgf (waC Z) k)), (0, .ref (G.2.1 (0)))]) [0, 3, 4, 1, 5] rfl ?_
            exact ih (k + 1) 0 l (by omega) (by omega) (Or.inr ⟨rfl, by simp [wlf, hdn, ha], by simp only [wlf, hdn]; exact hl⟩)
          ·
            refine j_Z e44 ?_
            have hdn : dnC Z k = false := decide_eq_false (by have := hpo k (by omega); omega)
            refine j_if_ne (tgt := 68) (a := ((0 : Nat) : Int)) C (nI_toInt (by omega)) dX4_water_47 (by decide) (fun c47 => absurd c47 (by omega)) (fun c47 => ?_)
            refine j_iload_n C 3 dX4_water_50 rfl rfl ?_
            refine j_if_eq (tgt := 59) (a := ((0 : Nat) : Int)) C (nI_toInt (by omega)) dX4_water_51 (by decide) (fun c51 => ?_) (fun c51 => absurd c51 (by omega))
            refine j_iload_n C 4 dX4_water_59 rfl rfl ?_
            refine j_iload C 1 dX4_water_60 rfl ?_
            refine j_min C (hR) (if Z (11 + 4 * k) (6) < l then Z (11 + 4 * k) (6) else l) zk_X4_186 dX4_water_62 (Nat.le_of_ble_eq_true rfl) rfl rfl rfl ?_
            refine j_istore_n (lv' := [(1, .int (if Z (11 + 4 * k) (6) < l then Z (11 + 4 * k) (6) else l)), (2, .int (if wgf (waC Z) k < Z (11 + 4 * k) (6) then Z (11 + 4 * k) (6) else wgf (waC Z) k)), (5, .int (Z (11 + 4 * k) (6))), (4, .int (nI k)), (3, .int (nI 0)), (0, .ref (G.2.1 (0)))]) C dX4_water_65 rfl (by rw [hN]; decide) rfl ?_
            have hl2 : (if Z (11 + 4 * k) 6 < l then Z (11 + 4 * k) 6 else l) = wlf (dnC Z) (waC Z) (k + 1) := by
              rw [ha]
              by_cases q1 : (waC Z k).toInt < (wlf (dnC Z) (waC Z) k).toInt
              · rw [if_pos (Int32.lt_iff_toInt_lt.mpr q1)]; simp only [wlf, hdn, q1, and_self, if_true]
              · rw [if_neg (fun q => q1 (Int32.lt_iff_toInt_lt.mp q))]; simp only [wlf, q1, and_false, if_false]
            have hl3 : (wlf (dnC Z) (waC Z) (k + 1)).toInt ≤ 100000 := by
              rw [← hl2]
              split
              · exact hwa k (by omega)
              · rw [ha]; exact hl
            refine j_iconst C (nI 0) dX4_water_66 (by decide) ?_
            refine j_istore_n (lv' := [(3, .int (nI 0)), (1, .int (if Z (11 + 4 * k) (6) < l then Z (11 + 4 * k) (6) else l)), (2, .int (if wgf (waC Z) k < Z (11 + 4 * k) (6) then Z (11 + 4 * k) (6) else wgf (waC Z) k)), (5, .int (Z (11 + 4 * k) (6))), (4, .int (nI k)), (0, .ref (G.2.1 (0)))]) C dX4_water_67 rfl (by rw [hN]; decide) rfl ?_
            refine j_iinc (v := nI (k + 1)) (lv' := [(4, .int (nI (k + 1))), (3, .int (nI 0)), (1, .int (if Z (11 + 4 * k) (6) < l then Z (11 + 4 * k) (6) else l)), (2, .int (if wgf (waC Z) k < Z (11 + 4 * k) (6) then Z (11 + 4 * k) (6) else wgf (waC Z) k)), (5, .int (Z (11 + 4 * k) (6))), (0, .ref (G.2.1 (0)))]) C 4 dX4_water_68 rfl (nI_add k 1) (by rw [hN]; decide) rfl ?_
            refine j_goto (tgt := 9) C dX4_water_71 (by decide) ?_
            refine j_sub (lv' := [(4, .int (nI (k + 1))), (3, .int (nI 0)), (1, .int (if Z (11 + 4 * k) (6) < l then Z (11 + 4 * k) (6) else l)), (2, .int (if wgf (waC Z) k < Z (11 + 4 * k) (6) then Z (11 + 4 * k) (6) else wgf (waC Z) k)), (0, .ref (G.2.1 (0)))]) [0, 1, 2, 3, 5] rfl ?_
            exact ih (k + 1) 0 (if Z (11 + 4 * k) 6 < l then Z (11 + 4 * k) 6 else l) (by omega) (by omega) (Or.inr ⟨rfl, hl2, hl3⟩)
  refine j_iconst C (-1) dX4_water_0 (by decide) ?_
  refine j_istore_n (lv' := [(1, .int (-1)), (0, .ref (G.2.1 (0)))]) C dX4_water_1 rfl (by rw [hN]; decide) rfl ?_
  refine j_iconst C (-1) dX4_water_2 (by decide) ?_
  refine j_istore_n (lv' := [(2, .int (-1)), (1, .int (-1)), (0, .ref (G.2.1 (0)))]) C dX4_water_3 rfl (by rw [hN]; decide) rfl ?_
  refine j_iconst C (nI 1) dX4_water_4 (by decide) ?_
  refine j_istore_n (lv' := [(3, .int (nI 1)), (2, .int (-1)), (1, .int (-1)), (0, .ref (G.2.1 (0)))]) C dX4_water_5 rfl (by rw [hN]; decide) rfl ?_
  refine j_iconst C (nI 0) dX4_water_6 (by decide) ?_
  refine j_istore (lv' := [(4, .int (nI 0)), (3, .int (nI 1)), (2, .int (-1)), (1, .int (-1)), (0, .ref (G.2.1 (0)))]) C dX4_water_7 (by rw [hN]; decide) rfl ?_
  refine j_sub (lv' := [(4, .int (nI 0)), (3, .int (nI 1)), (1, .int (-1)), (2, .int (-1)), (0, .ref (G.2.1 (0)))]) [0, 1, 3, 2, 4] rfl ?_
  refine j_lv (lv' := [(4, .int (nI 0)), (3, .int (nI 1)), (1, .int (-1)), (2, .int (wgf (waC Z) 0)), (0, .ref (G.2.1 (0)))]) rfl ?_
  exact L9 (np + 1) 0 1 (-1) (by omega) (by omega) (Or.inl ⟨rfl, rfl⟩)
