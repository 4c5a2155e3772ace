-- THE STATE BEHIND A DRAWER
def stNew (M : fmM) (D : dD) : Prop := M.1 47 1 = 0 ∧ M.1 47 2 = 0 ∧ (M.1 47 3).toInt = D.2.2.2.2 2 ∧ M.1 47 4 = 0 ∧ M.1 47 5 = 0 ∧ M.2 47 6 = 0 ∧ (∀ i, i < D.1 → (M.1 48 i).toInt = D.2.1 i 4) ∧ M.1 0 14 = 0
def bgK (M M' : fmM) : Prop := M'.1 47 1 = 0 ∧ M'.1 47 2 = 0 ∧ M'.1 47 3 = M.1 3 11 ∧ M'.1 47 4 = 0 ∧ M'.1 47 5 = 0 ∧ M'.2 47 6 = 0 ∧ ∀ i, i < 8 → M'.1 48 i = M.1 8 i
set_option maxRecDepth 20000 in
theorem c_xbegin {M : fmM} {Q : fmR → fmM → Prop}  (hq : ∀ M' : fmM, bgK M M' → Q (.inl none) M') : pvGood Tx 0 qX6_begin [.ref 47, .ref 3] M Q := by
  refine pvGood_of (Nat.le_of_ble_eq_true rfl) ?_
  show pvEv Tx 0 qX6_begin 0 [some (.ref 47), some (.ref 3)] [] M Q
  refine pv_aloadn (pc := 0) (n := 1) 1 rfl rfl (fm_dec dtX6_begin 0 rfl) ?_
  refine pv_getR (k := 3) (j := 4) (ci := 8) (pc := 1) 8 rfl (by decide) pfl_X6_15 (by decide) rfl (by decide) (fm_dec dtX6_begin 1 rfl) ?_
  refine pv_iconst (pc := 4) (v := 0) (by decide) (fm_dec dtX6_begin 2 rfl) ?_
  refine pv_aloadn (pc := 5) (n := 0) 0 rfl rfl (fm_dec dtX6_begin 3 rfl) ?_
  refine pv_getR (k := 47) (j := 0) (ci := 6) (pc := 6) 48 rfl (by decide) pfl_X6_9 (by decide) rfl (by decide) (fm_dec dtX6_begin 4 rfl) ?_
  refine pv_iconst (pc := 9) (v := 0) (by decide) (fm_dec dtX6_begin 5 rfl) ?_
  refine pv_bipush (pc := 10) (v := 8) (by decide) (fm_dec dtX6_begin 6 rfl) ?_
  refine pv_copy (k0 := 8) (k1 := 48) (n0 := 8) (n1 := 8) (pc := 12) pcm_X6_20 pcc_X6_20 (by decide) rfl rfl (by decide) rfl rfl (by decide) (by decide) (by decide) (by decide) (by decide) (Nat.le_of_ble_eq_true rfl) (fm_dec dtX6_begin 7 rfl) ?_
  show pvEv Tx 0 qX6_begin _ _ _ (cpA M 48 8 8) Q
  refine pv_aloadn (pc := 15) (n := 0) 0 rfl rfl (fm_dec dtX6_begin 8 rfl) ?_
  refine pv_iconst (pc := 16) (v := 0) (by decide) (fm_dec dtX6_begin 9 rfl) ?_
  refine pv_putI (k := 47) (j := 1) (ci := 6) (pc := 17) pfl_X6_26 (by decide) rfl (by decide) (fm_dec dtX6_begin 10 rfl) ?_
  refine pv_aloadn (pc := 20) (n := 0) 0 rfl rfl (fm_dec dtX6_begin 11 rfl) ?_
  refine pv_iconst (pc := 21) (v := 0) (by decide) (fm_dec dtX6_begin 12 rfl) ?_
  refine pv_putI (k := 47) (j := 2) (ci := 6) (pc := 22) pfl_X6_30 (by decide) rfl (by decide) (fm_dec dtX6_begin 13 rfl) ?_
  refine pv_aloadn (pc := 25) (n := 0) 0 rfl rfl (fm_dec dtX6_begin 14 rfl) ?_
  refine pv_aloadn (pc := 26) (n := 1) 1 rfl rfl (fm_dec dtX6_begin 15 rfl) ?_
  refine pv_getI (k := 3) (j := 11) (ci := 8) (pc := 27) pfl_X6_33 (by decide) rfl (by decide) (fm_dec dtX6_begin 16 rfl) ?_
  refine pv_putI (k := 47) (j := 3) (ci := 6) (pc := 30) pfl_X6_36 (by decide) rfl (by decide) (fm_dec dtX6_begin 17 rfl) ?_
  refine pv_aloadn (pc := 33) (n := 0) 0 rfl rfl (fm_dec dtX6_begin 18 rfl) ?_
  refine pv_iconst (pc := 34) (v := 0) (by decide) (fm_dec dtX6_begin 19 rfl) ?_
  refine pv_putI (k := 47) (j := 4) (ci := 6) (pc := 35) pfl_X6_39 (by decide) rfl (by decide) (fm_dec dtX6_begin 20 rfl) ?_
  refine pv_aloadn (pc := 38) (n := 0) 0 rfl rfl (fm_dec dtX6_begin 21 rfl) ?_
  refine pv_iconst (pc := 39) (v := 0) (by decide) (fm_dec dtX6_begin 22 rfl) ?_
  refine pv_putI (k := 47) (j := 5) (ci := 6) (pc := 40) pfl_X6_42 (by decide) rfl (by decide) (fm_dec dtX6_begin 23 rfl) ?_
  refine pv_aloadn (pc := 43) (n := 0) 0 rfl rfl (fm_dec dtX6_begin 24 rfl) ?_
  refine pv_lconst (pc := 44) (v := 0) (by decide) (fm_dec dtX6_begin 25 rfl) ?_
  refine pv_putJ (k := 47) (j := 6) (ci := 6) (pc := 45) pfl_X6_45 (by decide) rfl (by decide) (fm_dec dtX6_begin 26 rfl) ?_
  exact pv_return (pc := 48) rfl (fm_dec dtX6_begin 27 rfl) (hq _ ⟨rfl, rfl, rfl, rfl, rfl, rfl, fun i hi => (by show (cpA M 48 8 8).1 48 i = _; rw [cpA_at, if_pos ⟨rfl, hi⟩])⟩)
theorem x_begin {M : fmM} {Q : fmR → fmM → Prop} (hI : scInv Tx invX M) (hq : ∀ M' : fmM, scInv Tx invX M' → scFr [(47, 1, 6), (48, 0, 8)] M M' → bgK M M' → Q (.inl none) M') : pvGood Tx 0 qX6_begin [.ref 47, .ref 3] M Q := ((c_xbegin (Q := fun r M' => r = .inl none ∧ bgK M M') (fun M' h => ⟨rfl, h⟩)).and (s_begin6 (Q := fun _ M' => scInv Tx invX M' ∧ scFr [(47, 1, 6), (48, 0, 8)] M M') hI (fun M' h1 h2 => ⟨h1, h2⟩))).imp (fun r M' h => by
  obtain ⟨⟨rfl, e⟩, h1, h2⟩ := h
  exact hq M' h1 h2 e)
set_option maxRecDepth 20000 in
theorem c_xdrawS {M : fmM} {Q : fmR → fmM → Prop} {T : Nat → tX} {nn : Int32} (hI : scInv Tx invX M) (hT : txF M T) (hrf : ¬ txP nn 600 (M.1 1 1).toInt → Q (.inr fmIAE) (fmI M 0 16 (M.1 0 16 + 1))) (hok : ∀ (n : Nat) (M' : fmM) (D : dD) (r : Int32), nn.toInt = (n : Int) → txP nn 600 (M.1 1 1).toInt → spDrawer (T n) n = .inr D → r.toInt = (D.1 : Int) → dwNew M' D → stNew M' D → Q (.inl (some (.int r))) M') (hbad : ∀ (n k a : Nat) (M' : fmM) (r : Int32), nn.toInt = (n : Int) → txP nn 600 (M.1 1 1).toInt → spDrawer (T n) n = .inl (k, a) → r.toInt = (k : Int) - 10 → tbad (opM M nn) M' k a → Q (.inl (some (.int r))) M') : pvGood Tx 41 qX10_drawer [.ref 0, .int nn] M Q := by
  refine pvGood_of (Nat.le_of_ble_eq_true rfl) ?_
  show pvEv Tx 41 qX10_drawer 0 [some (.ref 0), some (.int nn)] [] M Q
  refine pv_aloadn (pc := 0) (n := 0) 0 rfl rfl (fm_dec dtX10_drawer 0 rfl) ?_
  refine pv_iloadn (pc := 1) (n := 1) 1 rfl rfl (fm_dec dtX10_drawer 1 rfl) ?_
  refine pv_sipush (pc := 2) (v := 600) (by decide) (fm_dec dtX10_drawer 2 rfl) ?_
  refine pv_invV2 (k := 0) (d' := 1) (pc := 5) pcv_X10_108 (by decide) rfl (Nat.le_of_ble_eq_true rfl) (by decide) (fm_dec dtX10_drawer 3 rfl) ?_
  refine c_openT (fun h5 => ?_) (fun h5 => ?_)
  · refine pv_then0 ?_
    have h56 : nn.toInt ≤ 600 := h5.2.1
    obtain ⟨n, hn⟩ : ∃ n : Nat, nn.toInt = (n : Int) := ⟨nn.toInt.toNat, by have := h5.1; omega⟩
    have hI5 := inv_open (n := nn) hI h5.1 (by omega)
    have hT9 := hT n (by have := h5.2.2; omega)
    have hS := op_S hn hT9.1 hT9.2
    have hf5 : (opM M nn).1 1 4 = 0 := rfl
    refine pv_aloadn (pc := 8) (n := 0) 0 rfl rfl (fm_dec dtX10_drawer 4 rfl) ?_
    refine pv_getR (k := 0) (j := 2) (ci := 10) (pc := 9) 13 rfl (by decide) pfl_X10_23 (by decide) rfl (by decide) (fm_dec dtX10_drawer 5 rfl) ?_
    refine pv_aloadn (pc := 12) (n := 0) 0 rfl rfl (fm_dec dtX10_drawer 6 rfl) ?_
    refine pv_getR (k := 0) (j := 0) (ci := 10) (pc := 13) 1 rfl (by decide) pfl_X10_12 (by decide) rfl (by decide) (fm_dec dtX10_drawer 7 rfl) ?_
    refine pv_invV1 (k := 13) (d' := 7) (pc := 16) pcv_X10_112 (by decide) rfl (Nat.le_of_ble_eq_true rfl) (by decide) (fm_dec dtX10_drawer 8 rfl) ?_
    refine c_xdread hS hf5 hI5 (fun M16 D16 e16 k16 => ?_) (fun Mb kb ab eb hB => ?_)  
    · refine pv_then1 ?_
      refine pv_if_ne (pc := 19) 33 (by decide) (fm_dec dtX10_drawer 9 rfl) (fun _ => ?_) (fun hc19 => by exfalso; revert hc19; decide)
      refine pv_aloadn (pc := 33) (n := 0) 0 rfl rfl (fm_dec dtX10_drawer 16 rfl) ?_
      refine pv_getR (k := 0) (j := 1) (ci := 10) (pc := 34) 3 rfl (by decide) pfl_X10_19 (by decide) rfl (by decide) (fm_dec dtX10_drawer 17 rfl) ?_
      refine pv_aloadn (pc := 37) (n := 0) 0 rfl rfl (fm_dec dtX10_drawer 18 rfl) ?_
      refine pv_getR (k := 0) (j := 2) (ci := 10) (pc := 38) 13 rfl (by decide) pfl_X10_23 (by decide) rfl (by decide) (fm_dec dtX10_drawer 19 rfl) ?_
      refine pv_invV1 (k := 3) (d' := 0) (pc := 41) pcv_X10_119 (by decide) rfl (Nat.le_of_ble_eq_true rfl) (by decide) (fm_dec dtX10_drawer 20 rfl) ?_
      refine x_copy k16.2.2.2.2 k16.1 k16.2.1 (fun M41 hI41 hW41 f41 => ?_)
      refine pv_then0 ?_
      refine pv_aloadn (pc := 44) (n := 0) 0 rfl rfl (fm_dec dtX10_drawer 21 rfl) ?_
      refine pv_getR (k := 0) (j := 3) (ci := 10) (pc := 45) 23 rfl (by decide) pfl_X10_29 (by decide) rfl (by decide) (fm_dec dtX10_drawer 22 rfl) ?_
      refine pv_invV0 (k := 23) (d' := 0) (pc := 48) pcv_X10_122 (by decide) rfl (Nat.le_of_ble_eq_true rfl) (by decide) (fm_dec dtX10_drawer 23 rfl) ?_
      refine x_clr1 hI41 (fun M48 hI48 f48 c48 => ?_)
      refine pv_then0 ?_
      refine pv_aloadn (pc := 51) (n := 0) 0 rfl rfl (fm_dec dtX10_drawer 24 rfl) ?_
      refine pv_getR (k := 0) (j := 4) (ci := 10) (pc := 52) 27 rfl (by decide) pfl_X10_36 (by decide) rfl (by decide) (fm_dec dtX10_drawer 25 rfl) ?_
      refine pv_invV0 (k := 27) (d' := 0) (pc := 55) pcv_X10_125 (by decide) rfl (Nat.le_of_ble_eq_true rfl) (by decide) (fm_dec dtX10_drawer 26 rfl) ?_
      refine x_clr2 hI48 (fun M55 hI55 f55 c55 => ?_)
      refine pv_then0 ?_
      refine pv_aloadn (pc := 58) (n := 0) 0 rfl rfl (fm_dec dtX10_drawer 27 rfl) ?_
      refine pv_getR (k := 0) (j := 9) (ci := 10) (pc := 59) 46 rfl (by decide) pfl_X10_75 (by decide) rfl (by decide) (fm_dec dtX10_drawer 28 rfl) ?_
      refine pv_getR (k := 46) (j := 0) (ci := 5) (pc := 62) 47 rfl (by decide) pfl_X10_90 (by decide) rfl (by decide) (fm_dec dtX10_drawer 29 rfl) ?_
      refine pv_aloadn (pc := 65) (n := 0) 0 rfl rfl (fm_dec dtX10_drawer 30 rfl) ?_
      refine pv_getR (k := 0) (j := 1) (ci := 10) (pc := 66) 3 rfl (by decide) pfl_X10_19 (by decide) rfl (by decide) (fm_dec dtX10_drawer 31 rfl) ?_
      refine pv_invV1 (k := 47) (d' := 0) (pc := 69) pcv_X10_94 (by decide) rfl (Nat.le_of_ble_eq_true rfl) (by decide) (fm_dec dtX10_drawer 32 rfl) ?_
      refine x_begin hI55 (fun M69 hI69 f69 c69 => ?_)
      refine pv_then0 ?_
      refine pv_aloadn (pc := 72) (n := 0) 0 rfl rfl (fm_dec dtX10_drawer 33 rfl) ?_
      refine pv_getR (k := 0) (j := 9) (ci := 10) (pc := 73) 46 rfl (by decide) pfl_X10_75 (by decide) rfl (by decide) (fm_dec dtX10_drawer 34 rfl) ?_
      refine pv_iconst (pc := 76) (v := 0) (by decide) (fm_dec dtX10_drawer 35 rfl) ?_
      refine pv_putI (k := 46) (j := 2) (ci := 5) (pc := 77) pfl_X10_126 (by decide) rfl (by decide) (fm_dec dtX10_drawer 36 rfl) ?_
      refine pv_aloadn (pc := 80) (n := 0) 0 rfl rfl (fm_dec dtX10_drawer 37 rfl) ?_
      refine pv_iconst (pc := 81) (v := 0) (by decide) (fm_dec dtX10_drawer 38 rfl) ?_
      refine pv_putI (k := 0) (j := 13) (ci := 10) (pc := 82) pfl_X10_129 (by decide) rfl (by decide) (fm_dec dtX10_drawer 39 rfl) ?_
      refine pv_aloadn (pc := 85) (n := 0) 0 rfl rfl (fm_dec dtX10_drawer 40 rfl) ?_
      refine pv_iconst (pc := 86) (v := 0) (by decide) (fm_dec dtX10_drawer 41 rfl) ?_
      refine pv_putI (k := 0) (j := 14) (ci := 10) (pc := 87) pfl_X10_132 (by decide) rfl (by decide) (fm_dec dtX10_drawer 42 rfl) ?_
      refine pv_aloadn (pc := 90) (n := 0) 0 rfl rfl (fm_dec dtX10_drawer 43 rfl) ?_
      refine pv_getR (k := 0) (j := 7) (ci := 10) (pc := 91) 34 rfl (by decide) pfl_X10_61 (by decide) rfl (by decide) (fm_dec dtX10_drawer 44 rfl) ?_
      refine pv_invV0 (k := 34) (d' := 0) (pc := 94) pcv_X10_135 (by decide) rfl (Nat.le_of_ble_eq_true rfl) (by decide) (fm_dec dtX10_drawer 45 rfl) ?_
      refine s_forget (xInv.put (xInv.put (xInv.put hI69 (by decide)) (by decide)) (scq_t 0)) (fun M94 hI94 f94 => ?_)
      refine pv_then0 ?_
      refine pv_aloadn (pc := 97) (n := 0) 0 rfl rfl (fm_dec dtX10_drawer 46 rfl) ?_
      refine pv_getR (k := 0) (j := 1) (ci := 10) (pc := 98) 3 rfl (by decide) pfl_X10_19 (by decide) rfl (by decide) (fm_dec dtX10_drawer 47 rfl) ?_
      refine pv_getI (k := 3) (j := 9) (ci := 8) (pc := 101) pfl_X10_138 (by decide) rfl (by decide) (fm_dec dtX10_drawer 48 rfl) ?_
      exact pv_ireturn (pc := 104) rfl (fm_dec dtX10_drawer 49 rfl) (hok n _ D16 _ hn h5 e16 (by rw [(f94 3 9 rfl).1]; show (M69.1 3 9).toInt = _; rw [(f69 3 9 rfl).1, (f55 3 9 rfl).1, (f48 3 9 rfl).1]; exact hW41.1.1) ⟨k16.2.1, hW41.of (fun k j a b => by rw [kp_of (P := ([(3, 12)], [])) f94 (by decide) k j (kp_in12 a b), fmI_at, if_neg (by omega), fmI_at, if_neg (by omega), fmI_at, if_neg (by omega), kp_of (P := ([(3, 12)], [])) f69 (by decide) k j (kp_in12 a b), kp_of (P := ([(3, 12)], [])) f55 (by decide) k j (kp_in12 a b), kp_of (P := ([(3, 12)], [])) f48 (by decide) k j (kp_in12 a b)]), ⟨(f94 0 13 rfl).1.trans rfl, (f94 46 2 rfl).1.trans rfl⟩, ⟨(f94 27 1 rfl).1.trans ((f69 27 1 rfl).1.trans c55.1), (f94 27 2 rfl).1.trans ((f69 27 2 rfl).1.trans c55.2)⟩, (f94 23 3 rfl).1.trans ((f69 23 3 rfl).1.trans ((f55 23 3 rfl).1.trans c48.1)), (f94 24 0 rfl).1.trans ((f69 24 0 rfl).1.trans ((f55 24 0 rfl).1.trans c48.2.1)), (f94 24 1 rfl).1.trans ((f69 24 1 rfl).1.trans ((f55 24 1 rfl).1.trans c48.2.2.1)), (f94 24 2 rfl).1.trans ((f69 24 2 rfl).1.trans ((f55 24 2 rfl).1.trans c48.2.2.2))⟩ ⟨(f94 47 1 rfl).1.trans c69.1, (f94 47 2 rfl).1.trans c69.2.1, (by rw [(f94 47 3 rfl).1]; show (M69.1 47 3).toInt = _; rw [c69.2.2.1, (f55 3 11 rfl).1, (f48 3 11 rfl).1]; exact hW41.1.2.2.1), (f94 47 4 rfl).1.trans c69.2.2.2.1, (f94 47 5 rfl).1.trans c69.2.2.2.2.1, (f94 47 6 rfl).2.trans c69.2.2.2.2.2.1, fun i hi => (by rw [(f94 48 i rfl).1]; show (M69.1 48 i).toInt = _; rw [c69.2.2.2.2.2.2 i (by have := k16.2.1.1; omega), (f55 8 i rfl).1, (f48 8 i rfl).1]; exact hW41.2.1 i hi 4 (by decide)), (f94 0 14 rfl).1.trans rfl⟩)
    · refine pv_then1 ?_
      refine pv_if_ne (pc := 19) 33 (by decide) (fm_dec dtX10_drawer 9 rfl) (fun hc19 => by exfalso; revert hc19; decide) (fun _ => ?_)
      refine pv_aloadn (pc := 22) (n := 0) 0 rfl rfl (fm_dec dtX10_drawer 10 rfl) ?_
      refine pv_getR (k := 0) (j := 0) (ci := 10) (pc := 23) 1 rfl (by decide) pfl_X10_12 (by decide) rfl (by decide) (fm_dec dtX10_drawer 11 rfl) ?_
      refine pv_getI (k := 1) (j := 4) (ci := 7) (pc := 26) pfl_X10_116 (by decide) rfl (by decide) (fm_dec dtX10_drawer 12 rfl) ?_
      refine pv_bipush (pc := 29) (v := 10) (by decide) (fm_dec dtX10_drawer 13 rfl) ?_
      refine pv_isub (pc := 31) (fm_dec dtX10_drawer 14 rfl) ?_
      exact pv_ireturn (pc := 32) rfl (fm_dec dtX10_drawer 15 rfl) (hbad n kb ab Mb _ hn h5 eb (law_r hB.1 (by have h9 : (Mb.1 1 4).toInt ≤ 3 := (hB.2.2.2.2.1 1 4 (by decide)).2; have h8 := hB.1; omega)) hB)
  · refine pv_thenX ?_
    exact hrf h5
theorem z_i : (0 : Int32).toInt = ((0 : Nat) : Int) := by decide
theorem z_k : (0 : Int32).toInt = (0 : Int) := by decide
theorem z_j : (0 : Int64).toInt = (0 : Int) := by decide
/-- the state at the start -/
def st0 (D : dD) : aS := ((0, (D.2.2.2.2 2).toNat, 0, 0, 0, 0), fun i => D.2.1 i 4)
theorem st0_O {D : dD} (hD : dOk D) : stO D (st0 D) := by
  have h2 := hD.2.2.2.2.1
  refine ⟨Nat.zero_le _, ?_, (by show (0 : Nat) < 256; decide), (by show (0 : Nat) + 0 = pop8 0; decide), Int.le_refl _, (by show (0 : Int) ≤ 57024 * ((pop8 0 : Nat) : Int); decide), ⟨fun i hi => ?_, Nat.two_pow_pos _⟩⟩
  · show (D.2.2.2.2 2).toNat ≤ 12
    omega
  · show -1 ≤ D.2.1 i 4 ∧ D.2.1 i 4 ≤ ((0 : Nat) : Int) + 40
    have h9 := (hD.2.2.1 i hi).2.2.2.2.1
    omega
theorem st0_x {M : fmM} {D : dD} (hD : dOk D) (h : stNew M D) : xsA 47 48 M D (st0 D) := by
  have h2 := hD.2.2.2.2.1
  obtain ⟨a, b, c, d, e, f, g, -⟩ := h
  refine ⟨by rw [a]; exact z_i, by rw [b]; exact z_i, ?_, by rw [d]; exact z_i, by rw [e]; exact z_i, by rw [f]; exact z_j, g⟩
  rw [c]
  show D.2.2.2.2 2 = (((D.2.2.2.2 2).toNat : Nat) : Int)
  omega
theorem st0_m {M M' : fmM} {D : dD} (hD : dOk D) (h : sdOk M M' D) : msA (M'.1 7) D (st0 D) := by
  have h2 := hD.2.2.2.2.1
  have d8 := hD.1
  obtain ⟨h7, h9, hz⟩ := h.2.1
  refine ⟨by rw [hz 0 (Or.inl rfl)]; exact z_i, by rw [hz 10 (Or.inr ⟨by decide, by decide⟩)]; exact z_i, ?_, by rw [hz 11 (Or.inr ⟨by decide, by decide⟩)]; exact z_i, by rw [hz 12 (Or.inr ⟨by decide, by decide⟩)]; exact z_i, by rw [hz 13 (Or.inr ⟨by decide, by decide⟩)]; exact z_k, fun i hi => ?_⟩
  · rw [h9]
    show D.2.2.2.2 2 = (((D.2.2.2.2 2).toNat : Nat) : Int)
    omega
  · rw [h7 i (by omega)]
    show _ = if D.2.1 i 4 = -1 then -1000 else ((0 : Nat) : Int) - D.2.1 i 4
    by_cases e : D.2.1 i 4 = -1
    · rw [if_pos e, if_neg (fun h => h.2 e)]
    · rw [if_neg e, if_pos ⟨hi, e⟩]
      omega
theorem rSt_new {M M2 M3 : fmM} {D : dD} (h : dwNew M D) (hs : stNew M D) (h2 : sdOk M3 M2 D) : rSt M M2 D := by
  have e1 : M2.1 0 32 = 0 := h2.2.2.1.2.2.1
  have e2 : M.1 0 13 = 0 := h.2.2.1.1
  have z0 : (0 : Int32).toInt = 0 := by decide
  refine ⟨⟨h.2.2.1.2.trans e1.symm, ⟨st0 D, st0_x h.1 hs, st0_m h.1 h2, st0_O h.1⟩, fun w hw => ?_⟩, e2.trans h2.2.2.1.2.2.2.2.symm, fun i hi => ?_⟩
  · rw [e1, z0] at hw
    omega
  · rw [e2, z0] at hi
    omega
theorem rSt_0 {M M2 : fmM} (hx : xInit M) (hm : mInit M2) : rSt M (m9 M2) dD0 := by
  have e1 : (m9 M2).1 0 32 = 0 := by rw [m9_k (by decide)]; exact hm.2.2.1.2.2.1
  have e2 : M.1 0 13 = 0 := by rw [hx.1 0 (by decide) (by decide)]; rfl
  have e3 : (m9 M2).1 0 34 = 0 := by rw [m9_k (by decide)]; exact hm.2.2.1.2.2.2.2
  have e46 : M.1 46 2 = 0 := by rw [hx.1 46 (by decide) (by decide)]; rfl
  have z0 : (0 : Int32).toInt = 0 := by decide
  have h7 : (m9 M2).1 7 = M2.1 7 := m9_k (by decide)
  refine ⟨⟨e46.trans e1.symm, ⟨st0 dD0, st0_x dOk_0 ⟨hx.2.1, hx.2.2.1, by rw [hx.2.2.2.1]; decide, hx.2.2.2.2.1, hx.2.2.2.2.2.1, hx.2.2.2.2.2.2, fun i h => (by cases h), by rw [hx.1 0 (by decide) (by decide)]; rfl⟩, by rw [h7]; exact st0_m dOk_0 hm, st0_O dOk_0⟩, fun w hw => ?_⟩, e2.trans e3.symm, fun i hi => ?_⟩
  · rw [e1, z0] at hw
    omega
  · rw [e2, z0] at hi
    omega
