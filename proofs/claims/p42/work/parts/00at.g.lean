-- P 18f
section
-- THE TAPE, exactly
/-- a text of n bytes may be taken -/
def txP (n : Int32) (most fill : Int) : Prop := 0 ≤ n.toInt ∧ n.toInt ≤ most ∧ n.toInt ≤ fill
def opM (M : fmM) (n : Int32) : fmM := fmI (fmI (fmI (fmI (fmI M 1 2 n) 1 3 0) 1 1 0) 1 4 0) 1 5 (-1)
theorem mn_t {n x z : Int32} (h : n.toInt ≤ (pvMx false x z).toInt) : n.toInt ≤ x.toInt ∧ n.toInt ≤ z.toInt := by
  have h : n.toInt ≤ (if x.toInt ≤ z.toInt then x else z).toInt := h
  split at h <;> omega
theorem mn_f {n x z : Int32} (h : n.toInt ≤ x.toInt ∧ n.toInt ≤ z.toInt) : n.toInt ≤ (pvMx false x z).toInt := by
  show n.toInt ≤ (if x.toInt ≤ z.toInt then x else z).toInt
  split <;> omega
theorem inv_open {M : fmM} {n : Int32} (hI : scInv Tx invX M) (h0 : 0 ≤ n.toInt) (h6 : n.toInt ≤ 600) : scInv Tx invX (opM M n) := xInv.put (xInv.put (xInv.put (xInv.put (xInv.put hI ⟨h0, h6⟩) (by decide)) (by decide)) (by decide)) (by decide)
/-- what a text's call leaves of the tape -/
def txE (M : fmM) (n : Int32) (most : Int) (M' : fmM) : Prop := (txP n most (M.1 1 1).toInt ∧ M'.1 1 1 = 0) ∨ (¬ txP n most (M.1 1 1).toInt ∧ M'.1 1 1 = M.1 1 1 ∧ M'.1 2 = M.1 2)
def txG (M : fmM) (n : Int32) (most : Int) (M' : fmM) : Prop := (txP n most (M.1 0 1).toInt ∧ M'.1 0 1 = 0) ∨ (¬ txP n most (M.1 0 1).toInt ∧ M'.1 0 1 = M.1 0 1 ∧ M'.1 1 = M.1 1)
theorem tx_eq {M M' M2 M2' : fmM} {n : Int32} {most : Int} (h : M.1 1 1 = M2.1 0 1) (h1 : txE M n most M') (h2 : txG M2 n most M2') : M'.1 1 1 = M2'.1 0 1 := by
  unfold txE at h1
  unfold txG at h2
  rw [h] at h1
  rcases h1 with ⟨p, e⟩ | ⟨p, e, -⟩ <;> rcases h2 with ⟨q, e2⟩ | ⟨q, e2, -⟩
  · rw [e, e2]
  · exact absurd p q
  · exact absurd q p
  · rw [e, e2]
set_option maxRecDepth 20000 in
theorem c_open {M : fmM} {Q : fmR → fmM → Prop} {n : Int32} (hq : Q (.inl none) (opM M n)) : pvGood Tx 0 qX7_open [.ref 1, .int n] M Q := by
  refine pvGood_of (Nat.le_of_ble_eq_true rfl) ?_
  show pvEv Tx 0 qX7_open 0 [some (.ref 1), some (.int n)] [] M Q
  refine pv_aloadn (pc := 0) (n := 0) 0 rfl rfl (fm_dec dtX7_open 0 rfl) ?_
  refine pv_iloadn (pc := 1) (n := 1) 1 rfl rfl (fm_dec dtX7_open 1 rfl) ?_
  refine pv_putI (k := 1) (j := 2) (ci := 7) (pc := 2) pfl_X7_22 (by decide) rfl (by decide) (fm_dec dtX7_open 2 rfl) ?_
  refine pv_aloadn (pc := 5) (n := 0) 0 rfl rfl (fm_dec dtX7_open 3 rfl) ?_
  refine pv_iconst (pc := 6) (v := 0) (by decide) (fm_dec dtX7_open 4 rfl) ?_
  refine pv_putI (k := 1) (j := 3) (ci := 7) (pc := 7) pfl_X7_25 (by decide) rfl (by decide) (fm_dec dtX7_open 5 rfl) ?_
  refine pv_aloadn (pc := 10) (n := 0) 0 rfl rfl (fm_dec dtX7_open 6 rfl) ?_
  refine pv_iconst (pc := 11) (v := 0) (by decide) (fm_dec dtX7_open 7 rfl) ?_
  refine pv_putI (k := 1) (j := 1) (ci := 7) (pc := 12) pfl_X7_19 (by decide) rfl (by decide) (fm_dec dtX7_open 8 rfl) ?_
  refine pv_aloadn (pc := 15) (n := 0) 0 rfl rfl (fm_dec dtX7_open 9 rfl) ?_
  refine pv_iconst (pc := 16) (v := 0) (by decide) (fm_dec dtX7_open 10 rfl) ?_
  refine pv_putI (k := 1) (j := 4) (ci := 7) (pc := 17) pfl_X7_28 (by decide) rfl (by decide) (fm_dec dtX7_open 11 rfl) ?_
  refine pv_aloadn (pc := 20) (n := 0) 0 rfl rfl (fm_dec dtX7_open 12 rfl) ?_
  refine pv_iconst (pc := 21) (v := (-1)) (by decide) (fm_dec dtX7_open 13 rfl) ?_
  refine pv_putI (k := 1) (j := 5) (ci := 7) (pc := 22) pfl_X7_15 (by decide) rfl (by decide) (fm_dec dtX7_open 14 rfl) ?_
  exact pv_return (pc := 25) rfl (fm_dec dtX7_open 15 rfl) hq
set_option maxRecDepth 20000 in
theorem c_openT {M : fmM} {Q : fmR → fmM → Prop} {n mo : Int32} (ht : txP n mo.toInt (M.1 1 1).toInt → Q (.inl none) (opM M n)) (hf : ¬ txP n mo.toInt (M.1 1 1).toInt → Q (.inr fmIAE) (fmI M 0 16 (M.1 0 16 + 1))) : pvGood Tx 1 qX10_openText [.ref 0, .int n, .int mo] M Q := by
  refine pvGood_of (Nat.le_of_ble_eq_true rfl) ?_
  show pvEv Tx 1 qX10_openText 0 [some (.ref 0), some (.int n), some (.int mo)] [] M Q
  refine pv_aloadn (pc := 0) (n := 0) 0 rfl rfl (fm_dec dtX10_openText 0 rfl) ?_
  refine pv_iloadn (pc := 1) (n := 1) 1 rfl rfl (fm_dec dtX10_openText 1 rfl) ?_
  refine pv_iconst (pc := 2) (v := 0) (by decide) (fm_dec dtX10_openText 2 rfl) ?_
  refine pv_iloadn (pc := 3) (n := 2) 2 rfl rfl (fm_dec dtX10_openText 3 rfl) ?_
  refine pv_aloadn (pc := 4) (n := 0) 0 rfl rfl (fm_dec dtX10_openText 4 rfl) ?_
  refine pv_getR (k := 0) (j := 0) (ci := 10) (pc := 5) 1 rfl (by decide) pfl_X10_12 (by decide) rfl (by decide) (fm_dec dtX10_openText 5 rfl) ?_
  refine pv_getI (k := 1) (j := 1) (ci := 7) (pc := 8) pfl_X10_100 (by decide) rfl (by decide) (fm_dec dtX10_openText 6 rfl) ?_
  refine pv_mm (pc := 11) pmm_X10_352 (by decide) (Nat.le_of_ble_eq_true rfl) (fm_dec dtX10_openText 7 rfl) ?_
  refine pv_invV3 (k := 0) (d' := 0) (pc := 14) pcv_X10_169 (by decide) rfl (Nat.le_of_ble_eq_true rfl) (by decide) (fm_dec dtX10_openText 8 rfl) ?_
  refine c_needW (fun h14a h14b => ?_) (fun h14 => ?_)
  · refine pv_then0 ?_
    refine pv_aloadn (pc := 17) (n := 0) 0 rfl rfl (fm_dec dtX10_openText 9 rfl) ?_
    refine pv_getR (k := 0) (j := 0) (ci := 10) (pc := 18) 1 rfl (by decide) pfl_X10_12 (by decide) rfl (by decide) (fm_dec dtX10_openText 10 rfl) ?_
    refine pv_iloadn (pc := 21) (n := 1) 1 rfl rfl (fm_dec dtX10_openText 11 rfl) ?_
    refine pv_invV1 (k := 1) (d' := 0) (pc := 22) pcv_X10_381 (by decide) rfl (Nat.le_of_ble_eq_true rfl) (by decide) (fm_dec dtX10_openText 12 rfl) ?_
    refine c_open ?_
    refine pv_then0 ?_
    exact pv_return (pc := 25) rfl (fm_dec dtX10_openText 13 rfl) (ht ⟨h14a, (mn_t h14b).1, (mn_t h14b).2⟩)
  · refine pv_thenX ?_
    exact hf (fun h9 => h14 ⟨h9.1, mn_f h9.2⟩)
theorem s_read8 {M : fmM} {Q : fmR → fmM → Prop}  (hI : scInv Tx invX M) (q0 : ∀ (n : Int32) (M' : fmM), (0 ≤ n.toInt ∧ n.toInt ≤ 1) → scInv Tx invX M' → scFr [(1, 3, 3), (13, 9, 6), (14, 0, 8), (15, 0, 8), (16, 0, 8), (17, 0, 8), (18, 0, 8), (19, 0, 8), (20, 0, 24), (21, 0, 24), (22, 0, 24)] M M' → Q (.inl (some (.int n))) M') : pvGood Tx 7 qX8_read [.ref 13, .ref 1] M Q := (hh_X8_read_0 M [] [.ref 13, .ref 1] scEk.n0 ⟨⟨13, by simp, rfl⟩, ⟨1, by simp, rfl⟩, trivial⟩ (fun f hf => by cases hf) hI).imp (fun r M' h => by
  obtain ⟨⟨o, ho, hr, hf9, hm⟩, h1, h2⟩ := h
  rcases List.mem_cons.mp ho with rfl | ho
  · obtain ⟨n, rfl, c1, c2⟩ := hr; exact q0 n M' ⟨c1, c2⟩ h1 h2
  · cases ho)
theorem s_copy8 {M : fmM} {Q : fmR → fmM → Prop}  (hI : scInv Tx invX M) (q0 : ∀ M' : fmM, scInv Tx invX M' → scFr [(3, 9, 6), (4, 0, 8), (5, 0, 8), (6, 0, 8), (7, 0, 8), (8, 0, 8), (9, 0, 8), (10, 0, 24), (11, 0, 24), (12, 0, 24)] M M' → Q (.inl none) M') : pvGood Tx 0 qX8_copyFrom [.ref 3, .ref 13] M Q := (hh_X8_copyFrom_0 M [] [.ref 3, .ref 13] scEk.n0 ⟨⟨3, by simp, rfl⟩, ⟨13, by simp, rfl⟩, trivial⟩ (fun f hf => by cases hf) hI).imp (fun r M' h => by
  obtain ⟨⟨o, ho, hr, hf9, hm⟩, h1, h2⟩ := h
  rcases List.mem_cons.mp ho with rfl | ho
  · have hr : r = .inl none := hr; subst hr; exact q0 M' h1 h2
  · cases ho)
theorem s_clear1 {M : fmM} {Q : fmR → fmM → Prop}  (hI : scInv Tx invX M) (q0 : ∀ M' : fmM, scInv Tx invX M' → scFr [(23, 3, 1), (24, 0, 3)] M M' → Q (.inl none) M') : pvGood Tx 0 qX1_clear [.ref 23] M Q := (hh_X1_clear_0 M [] [.ref 23] scEk.n0 ⟨⟨23, by simp, rfl⟩, trivial⟩ (fun f hf => by cases hf) hI).imp (fun r M' h => by
  obtain ⟨⟨o, ho, hr, hf9, hm⟩, h1, h2⟩ := h
  rcases List.mem_cons.mp ho with rfl | ho
  · have hr : r = .inl none := hr; subst hr; exact q0 M' h1 h2
  · cases ho)
theorem s_clear2 {M : fmM} {Q : fmR → fmM → Prop}  (hI : scInv Tx invX M) (q0 : ∀ M' : fmM, scInv Tx invX M' → scFr [(27, 0, 3)] M M' → Q (.inl none) M') : pvGood Tx 0 qX2_clear [.ref 27] M Q := (hh_X2_clear_0 M [] [.ref 27] scEk.n0 ⟨⟨27, by simp, rfl⟩, trivial⟩ (fun f hf => by cases hf) hI).imp (fun r M' h => by
  obtain ⟨⟨o, ho, hr, hf9, hm⟩, h1, h2⟩ := h
  rcases List.mem_cons.mp ho with rfl | ho
  · have hr : r = .inl none := hr; subst hr; exact q0 M' h1 h2
  · cases ho)
theorem s_begin6 {M : fmM} {Q : fmR → fmM → Prop}  (hI : scInv Tx invX M) (q0 : ∀ M' : fmM, scInv Tx invX M' → scFr [(47, 1, 6), (48, 0, 8)] M M' → Q (.inl none) M') : pvGood Tx 0 qX6_begin [.ref 47, .ref 3] M Q := (hh_X6_begin_0 M [] [.ref 47, .ref 3] scEk.n0 ⟨⟨47, by simp, rfl⟩, ⟨3, by simp, rfl⟩, trivial⟩ (fun f hf => by cases hf) hI).imp (fun r M' h => by
  obtain ⟨⟨o, ho, hr, hf9, hm⟩, h1, h2⟩ := h
  rcases List.mem_cons.mp ho with rfl | ho
  · have hr : r = .inl none := hr; subst hr; exact q0 M' h1 h2
  · cases ho)
theorem s_read1 {M : fmM} {Q : fmR → fmM → Prop}  (hI : scInv Tx invX M) (q0 : ∀ (n : Int32) (M' : fmM), (0 ≤ n.toInt ∧ n.toInt ≤ 1) → scInv Tx invX M' → scFr [(1, 3, 3), (23, 3, 2), (24, 0, 150), (25, 0, 150)] M M' → Q (.inl (some (.int n))) M') : pvGood Tx 33 qX1_read [.ref 23, .ref 1] M Q := (hh_X1_read_0 M [] [.ref 23, .ref 1] scEk.n0 ⟨⟨23, by simp, rfl⟩, ⟨1, by simp, rfl⟩, trivial⟩ (fun f hf => by cases hf) hI).imp (fun r M' h => by
  obtain ⟨⟨o, ho, hr, hf9, hm⟩, h1, h2⟩ := h
  rcases List.mem_cons.mp ho with rfl | ho
  · obtain ⟨n, rfl, c1, c2⟩ := hr; exact q0 n M' ⟨c1, c2⟩ h1 h2
  · cases ho)
theorem s_read2 {M : fmM} {Q : fmR → fmM → Prop}  (hI : scInv Tx invX M) (q0 : ∀ (n : Int32) (M' : fmM), (0 ≤ n.toInt ∧ n.toInt ≤ 1) → scInv Tx invX M' → scFr [(1, 3, 3), (27, 0, 3)] M M' → Q (.inl (some (.int n))) M') : pvGood Tx 3 qX2_read [.ref 27, .ref 1] M Q := (hh_X2_read_0 M [] [.ref 27, .ref 1] scEk.n0 ⟨⟨27, by simp, rfl⟩, ⟨1, by simp, rfl⟩, trivial⟩ (fun f hf => by cases hf) hI).imp (fun r M' h => by
  obtain ⟨⟨o, ho, hr, hf9, hm⟩, h1, h2⟩ := h
  rcases List.mem_cons.mp ho with rfl | ho
  · obtain ⟨n, rfl, c1, c2⟩ := hr; exact q0 n M' ⟨c1, c2⟩ h1 h2
  · cases ho)
set_option maxRecDepth 20000 in
theorem c_odrawer {M : fmM} {Q : fmR → fmM → Prop} {nn : Int32} (hI : scInv Tx invX M) (hq : ∀ (r : fmR) (M' : fmM), txE M nn 600 M' → Q r M') : pvGood Tx 40 qX10_drawer [.ref 0, .int nn] M Q := by
  refine pvGood_of (Nat.le_of_ble_eq_true rfl) ?_
  show pvEv Tx 40 qX10_drawer 0 [some (.ref 0), some (.int nn)] [] M Q
  refine pv_aloadn (pc := 0) (n := 0) 0 rfl rfl (fm_dec dtX10_drawer 0 rfl) ?_
  refine pv_iloadn (pc := 1) (n := 1) 1 rfl rfl (fm_dec dtX10_drawer 1 rfl) ?_
  refine pv_sipush (pc := 2) (v := 600) (by decide) (fm_dec dtX10_drawer 2 rfl) ?_
  refine pv_invV2 (k := 0) (d' := 1) (pc := 5) pcv_X10_108 (by decide) rfl (Nat.le_of_ble_eq_true rfl) (by decide) (fm_dec dtX10_drawer 3 rfl) ?_
  refine c_openT (fun h5 => ?_) (fun h5 => ?_)
  · refine pv_then0 ?_
    have hI5 := inv_open (n := nn) hI h5.1 h5.2.1
    refine pv_aloadn (pc := 8) (n := 0) 0 rfl rfl (fm_dec dtX10_drawer 4 rfl) ?_
    refine pv_getR (k := 0) (j := 2) (ci := 10) (pc := 9) 13 rfl (by decide) pfl_X10_23 (by decide) rfl (by decide) (fm_dec dtX10_drawer 5 rfl) ?_
    refine pv_aloadn (pc := 12) (n := 0) 0 rfl rfl (fm_dec dtX10_drawer 6 rfl) ?_
    refine pv_getR (k := 0) (j := 0) (ci := 10) (pc := 13) 1 rfl (by decide) pfl_X10_12 (by decide) rfl (by decide) (fm_dec dtX10_drawer 7 rfl) ?_
    refine pv_invV1 (k := 13) (d' := 7) (pc := 16) pcv_X10_112 (by decide) rfl (Nat.le_of_ble_eq_true rfl) (by decide) (fm_dec dtX10_drawer 8 rfl) ?_
    refine s_read8 hI5 (fun n16 M16 b16 hI16 f16 => ?_)
    refine pv_then1 ?_
    refine pv_if_ne (pc := 19) 33 (by decide) (fm_dec dtX10_drawer 9 rfl) (fun hc19 => ?_) (fun hc19 => ?_)
    · refine pv_aloadn (pc := 33) (n := 0) 0 rfl rfl (fm_dec dtX10_drawer 16 rfl) ?_
      refine pv_getR (k := 0) (j := 1) (ci := 10) (pc := 34) 3 rfl (by decide) pfl_X10_19 (by decide) rfl (by decide) (fm_dec dtX10_drawer 17 rfl) ?_
      refine pv_aloadn (pc := 37) (n := 0) 0 rfl rfl (fm_dec dtX10_drawer 18 rfl) ?_
      refine pv_getR (k := 0) (j := 2) (ci := 10) (pc := 38) 13 rfl (by decide) pfl_X10_23 (by decide) rfl (by decide) (fm_dec dtX10_drawer 19 rfl) ?_
      refine pv_invV1 (k := 3) (d' := 0) (pc := 41) pcv_X10_119 (by decide) rfl (Nat.le_of_ble_eq_true rfl) (by decide) (fm_dec dtX10_drawer 20 rfl) ?_
      refine s_copy8 hI16 (fun M41 hI41 f41 => ?_)
      refine pv_then0 ?_
      refine pv_aloadn (pc := 44) (n := 0) 0 rfl rfl (fm_dec dtX10_drawer 21 rfl) ?_
      refine pv_getR (k := 0) (j := 3) (ci := 10) (pc := 45) 23 rfl (by decide) pfl_X10_29 (by decide) rfl (by decide) (fm_dec dtX10_drawer 22 rfl) ?_
      refine pv_invV0 (k := 23) (d' := 0) (pc := 48) pcv_X10_122 (by decide) rfl (Nat.le_of_ble_eq_true rfl) (by decide) (fm_dec dtX10_drawer 23 rfl) ?_
      refine s_clear1 hI41 (fun M48 hI48 f48 => ?_)
      refine pv_then0 ?_
      refine pv_aloadn (pc := 51) (n := 0) 0 rfl rfl (fm_dec dtX10_drawer 24 rfl) ?_
      refine pv_getR (k := 0) (j := 4) (ci := 10) (pc := 52) 27 rfl (by decide) pfl_X10_36 (by decide) rfl (by decide) (fm_dec dtX10_drawer 25 rfl) ?_
      refine pv_invV0 (k := 27) (d' := 0) (pc := 55) pcv_X10_125 (by decide) rfl (Nat.le_of_ble_eq_true rfl) (by decide) (fm_dec dtX10_drawer 26 rfl) ?_
      refine s_clear2 hI48 (fun M55 hI55 f55 => ?_)
      refine pv_then0 ?_
      refine pv_aloadn (pc := 58) (n := 0) 0 rfl rfl (fm_dec dtX10_drawer 27 rfl) ?_
      refine pv_getR (k := 0) (j := 9) (ci := 10) (pc := 59) 46 rfl (by decide) pfl_X10_75 (by decide) rfl (by decide) (fm_dec dtX10_drawer 28 rfl) ?_
      refine pv_getR (k := 46) (j := 0) (ci := 5) (pc := 62) 47 rfl (by decide) pfl_X10_90 (by decide) rfl (by decide) (fm_dec dtX10_drawer 29 rfl) ?_
      refine pv_aloadn (pc := 65) (n := 0) 0 rfl rfl (fm_dec dtX10_drawer 30 rfl) ?_
      refine pv_getR (k := 0) (j := 1) (ci := 10) (pc := 66) 3 rfl (by decide) pfl_X10_19 (by decide) rfl (by decide) (fm_dec dtX10_drawer 31 rfl) ?_
      refine pv_invV1 (k := 47) (d' := 0) (pc := 69) pcv_X10_94 (by decide) rfl (Nat.le_of_ble_eq_true rfl) (by decide) (fm_dec dtX10_drawer 32 rfl) ?_
      refine s_begin6 hI55 (fun M69 hI69 f69 => ?_)
      refine pv_then0 ?_
      refine pv_aloadn (pc := 72) (n := 0) 0 rfl rfl (fm_dec dtX10_drawer 33 rfl) ?_
      refine pv_getR (k := 0) (j := 9) (ci := 10) (pc := 73) 46 rfl (by decide) pfl_X10_75 (by decide) rfl (by decide) (fm_dec dtX10_drawer 34 rfl) ?_
      refine pv_iconst (pc := 76) (v := 0) (by decide) (fm_dec dtX10_drawer 35 rfl) ?_
      refine pv_putI (k := 46) (j := 2) (ci := 5) (pc := 77) pfl_X10_126 (by decide) rfl (by decide) (fm_dec dtX10_drawer 36 rfl) ?_
      refine pv_aloadn (pc := 80) (n := 0) 0 rfl rfl (fm_dec dtX10_drawer 37 rfl) ?_
      refine pv_iconst (pc := 81) (v := 0) (by decide) (fm_dec dtX10_drawer 38 rfl) ?_
      refine pv_putI (k := 0) (j := 13) (ci := 10) (pc := 82) pfl_X10_129 (by decide) rfl (by decide) (fm_dec dtX10_drawer 39 rfl) ?_
      refine pv_aloadn (pc := 85) (n := 0) 0 rfl rfl (fm_dec dtX10_drawer 40 rfl) ?_
      refine pv_iconst (pc := 86) (v := 0) (by decide) (fm_dec dtX10_drawer 41 rfl) ?_
      refine pv_putI (k := 0) (j := 14) (ci := 10) (pc := 87) pfl_X10_132 (by decide) rfl (by decide) (fm_dec dtX10_drawer 42 rfl) ?_
      refine pv_aloadn (pc := 90) (n := 0) 0 rfl rfl (fm_dec dtX10_drawer 43 rfl) ?_
      refine pv_getR (k := 0) (j := 7) (ci := 10) (pc := 91) 34 rfl (by decide) pfl_X10_61 (by decide) rfl (by decide) (fm_dec dtX10_drawer 44 rfl) ?_
      refine pv_invV0 (k := 34) (d' := 0) (pc := 94) pcv_X10_135 (by decide) rfl (Nat.le_of_ble_eq_true rfl) (by decide) (fm_dec dtX10_drawer 45 rfl) ?_
      refine s_forget (xInv.put (xInv.put (xInv.put hI69 (by decide)) (by decide)) (scq_t 0)) (fun M94 hI94 f94 => ?_)
      refine pv_then0 ?_
      refine pv_aloadn (pc := 97) (n := 0) 0 rfl rfl (fm_dec dtX10_drawer 46 rfl) ?_
      refine pv_getR (k := 0) (j := 1) (ci := 10) (pc := 98) 3 rfl (by decide) pfl_X10_19 (by decide) rfl (by decide) (fm_dec dtX10_drawer 47 rfl) ?_
      refine pv_getI (k := 3) (j := 9) (ci := 8) (pc := 101) pfl_X10_138 (by decide) rfl (by decide) (fm_dec dtX10_drawer 48 rfl) ?_
      exact pv_ireturn (pc := 104) rfl (fm_dec dtX10_drawer 49 rfl) (hq _ _ (Or.inl ⟨h5, (f94 1 1 rfl).1.trans ((f69 1 1 rfl).1.trans ((f55 1 1 rfl).1.trans ((f48 1 1 rfl).1.trans ((f41 1 1 rfl).1.trans ((f16 1 1 rfl).1.trans rfl)))))⟩))
    · refine pv_aloadn (pc := 22) (n := 0) 0 rfl rfl (fm_dec dtX10_drawer 10 rfl) ?_
      refine pv_getR (k := 0) (j := 0) (ci := 10) (pc := 23) 1 rfl (by decide) pfl_X10_12 (by decide) rfl (by decide) (fm_dec dtX10_drawer 11 rfl) ?_
      refine pv_getI (k := 1) (j := 4) (ci := 7) (pc := 26) pfl_X10_116 (by decide) rfl (by decide) (fm_dec dtX10_drawer 12 rfl) ?_
      refine pv_bipush (pc := 29) (v := 10) (by decide) (fm_dec dtX10_drawer 13 rfl) ?_
      refine pv_isub (pc := 31) (fm_dec dtX10_drawer 14 rfl) ?_
      exact pv_ireturn (pc := 32) rfl (fm_dec dtX10_drawer 15 rfl) (hq _ _ (Or.inl ⟨h5, ((f16 1 1 rfl).1.trans rfl)⟩))
  · refine pv_thenX ?_
    exact hq _ _ (Or.inr ⟨h5, rfl, rfl⟩)
set_option maxRecDepth 20000 in
theorem c_olaw {M : fmM} {Q : fmR → fmM → Prop} {nn : Int32} (hI : scInv Tx invX M) (hq : ∀ (r : fmR) (M' : fmM), txE M nn 150 M' → Q r M') : pvGood Tx 40 qX10_law [.ref 0, .int nn] M Q := by
  refine pvGood_of (Nat.le_of_ble_eq_true rfl) ?_
  show pvEv Tx 40 qX10_law 0 [some (.ref 0), some (.int nn)] [] M Q
  refine pv_aloadn (pc := 0) (n := 0) 0 rfl rfl (fm_dec dtX10_law 0 rfl) ?_
  refine pv_iloadn (pc := 1) (n := 1) 1 rfl rfl (fm_dec dtX10_law 1 rfl) ?_
  refine pv_sipush (pc := 2) (v := 150) (by decide) (fm_dec dtX10_law 2 rfl) ?_
  refine pv_invV2 (k := 0) (d' := 1) (pc := 5) pcv_X10_108 (by decide) rfl (Nat.le_of_ble_eq_true rfl) (by decide) (fm_dec dtX10_law 3 rfl) ?_
  refine c_openT (fun h5 => ?_) (fun h5 => ?_)
  · refine pv_then0 ?_
    have hI5 := inv_open (n := nn) hI h5.1 (by have h9 : nn.toInt ≤ 150 := h5.2.1; omega)
    refine pv_aloadn (pc := 8) (n := 0) 0 rfl rfl (fm_dec dtX10_law 4 rfl) ?_
    refine pv_getR (k := 0) (j := 3) (ci := 10) (pc := 9) 23 rfl (by decide) pfl_X10_29 (by decide) rfl (by decide) (fm_dec dtX10_law 5 rfl) ?_
    refine pv_aloadn (pc := 12) (n := 0) 0 rfl rfl (fm_dec dtX10_law 6 rfl) ?_
    refine pv_getR (k := 0) (j := 0) (ci := 10) (pc := 13) 1 rfl (by decide) pfl_X10_12 (by decide) rfl (by decide) (fm_dec dtX10_law 7 rfl) ?_
    refine pv_invV1 (k := 23) (d' := 33) (pc := 16) pcv_X10_141 (by decide) rfl (Nat.le_of_ble_eq_true rfl) (by decide) (fm_dec dtX10_law 8 rfl) ?_
    refine s_read1 hI5 (fun n16 M16 b16 hI16 f16 => ?_)
    refine pv_then1 ?_
    refine pv_if_ne (pc := 19) 33 (by decide) (fm_dec dtX10_law 9 rfl) (fun hc19 => ?_) (fun hc19 => ?_)
    · refine pv_aloadn (pc := 33) (n := 0) 0 rfl rfl (fm_dec dtX10_law 16 rfl) ?_
      refine pv_getR (k := 0) (j := 7) (ci := 10) (pc := 34) 34 rfl (by decide) pfl_X10_61 (by decide) rfl (by decide) (fm_dec dtX10_law 17 rfl) ?_
      refine pv_invV0 (k := 34) (d' := 0) (pc := 37) pcv_X10_135 (by decide) rfl (Nat.le_of_ble_eq_true rfl) (by decide) (fm_dec dtX10_law 18 rfl) ?_
      refine s_forget hI16 (fun M37 hI37 f37 => ?_)
      refine pv_then0 ?_
      refine pv_iconst (pc := 40) (v := 1) (by decide) (fm_dec dtX10_law 19 rfl) ?_
      exact pv_ireturn (pc := 41) rfl (fm_dec dtX10_law 20 rfl) (hq _ _ (Or.inl ⟨h5, (f37 1 1 rfl).1.trans ((f16 1 1 rfl).1.trans rfl)⟩))
    · refine pv_aloadn (pc := 22) (n := 0) 0 rfl rfl (fm_dec dtX10_law 10 rfl) ?_
      refine pv_getR (k := 0) (j := 0) (ci := 10) (pc := 23) 1 rfl (by decide) pfl_X10_12 (by decide) rfl (by decide) (fm_dec dtX10_law 11 rfl) ?_
      refine pv_getI (k := 1) (j := 4) (ci := 7) (pc := 26) pfl_X10_116 (by decide) rfl (by decide) (fm_dec dtX10_law 12 rfl) ?_
      refine pv_bipush (pc := 29) (v := 10) (by decide) (fm_dec dtX10_law 13 rfl) ?_
      refine pv_isub (pc := 31) (fm_dec dtX10_law 14 rfl) ?_
      exact pv_ireturn (pc := 32) rfl (fm_dec dtX10_law 15 rfl) (hq _ _ (Or.inl ⟨h5, ((f16 1 1 rfl).1.trans rfl)⟩))
  · refine pv_thenX ?_
    exact hq _ _ (Or.inr ⟨h5, rfl, rfl⟩)
set_option maxRecDepth 20000 in
theorem c_opage {M : fmM} {Q : fmR → fmM → Prop} {nn : Int32} (hI : scInv Tx invX M) (hq : ∀ (r : fmR) (M' : fmM), txE M nn 60 M' → Q r M') : pvGood Tx 40 qX10_page [.ref 0, .int nn] M Q := by
  refine pvGood_of (Nat.le_of_ble_eq_true rfl) ?_
  show pvEv Tx 40 qX10_page 0 [some (.ref 0), some (.int nn)] [] M Q
  refine pv_aloadn (pc := 0) (n := 0) 0 rfl rfl (fm_dec dtX10_page 0 rfl) ?_
  refine pv_iloadn (pc := 1) (n := 1) 1 rfl rfl (fm_dec dtX10_page 1 rfl) ?_
  refine pv_bipush (pc := 2) (v := 60) (by decide) (fm_dec dtX10_page 2 rfl) ?_
  refine pv_invV2 (k := 0) (d' := 1) (pc := 4) pcv_X10_108 (by decide) rfl (Nat.le_of_ble_eq_true rfl) (by decide) (fm_dec dtX10_page 3 rfl) ?_
  refine c_openT (fun h4 => ?_) (fun h4 => ?_)
  · refine pv_then0 ?_
    have h5 := h4
    have hI5 := inv_open (n := nn) hI h5.1 (by have h9 : nn.toInt ≤ 60 := h5.2.1; omega)
    refine pv_aloadn (pc := 7) (n := 0) 0 rfl rfl (fm_dec dtX10_page 4 rfl) ?_
    refine pv_getR (k := 0) (j := 4) (ci := 10) (pc := 8) 27 rfl (by decide) pfl_X10_36 (by decide) rfl (by decide) (fm_dec dtX10_page 5 rfl) ?_
    refine pv_aloadn (pc := 11) (n := 0) 0 rfl rfl (fm_dec dtX10_page 6 rfl) ?_
    refine pv_getR (k := 0) (j := 0) (ci := 10) (pc := 12) 1 rfl (by decide) pfl_X10_12 (by decide) rfl (by decide) (fm_dec dtX10_page 7 rfl) ?_
    refine pv_invV1 (k := 27) (d' := 3) (pc := 15) pcv_X10_161 (by decide) rfl (Nat.le_of_ble_eq_true rfl) (by decide) (fm_dec dtX10_page 8 rfl) ?_
    refine s_read2 hI5 (fun n15 M15 b15 hI15 f15 => ?_)
    refine pv_then1 ?_
    refine pv_if_ne (pc := 18) 32 (by decide) (fm_dec dtX10_page 9 rfl) (fun hc18 => ?_) (fun hc18 => ?_)
    · refine pv_aloadn (pc := 32) (n := 0) 0 rfl rfl (fm_dec dtX10_page 16 rfl) ?_
      refine pv_getR (k := 0) (j := 4) (ci := 10) (pc := 33) 27 rfl (by decide) pfl_X10_36 (by decide) rfl (by decide) (fm_dec dtX10_page 17 rfl) ?_
      refine pv_getI (k := 27) (j := 0) (ci := 2) (pc := 36) pfl_X10_162 (by decide) rfl (by decide) (fm_dec dtX10_page 18 rfl) ?_
      exact pv_ireturn (pc := 39) rfl (fm_dec dtX10_page 19 rfl) (hq _ _ (Or.inl ⟨h5, ((f15 1 1 rfl).1.trans rfl)⟩))
    · refine pv_aloadn (pc := 21) (n := 0) 0 rfl rfl (fm_dec dtX10_page 10 rfl) ?_
      refine pv_getR (k := 0) (j := 0) (ci := 10) (pc := 22) 1 rfl (by decide) pfl_X10_12 (by decide) rfl (by decide) (fm_dec dtX10_page 11 rfl) ?_
      refine pv_getI (k := 1) (j := 4) (ci := 7) (pc := 25) pfl_X10_116 (by decide) rfl (by decide) (fm_dec dtX10_page 12 rfl) ?_
      refine pv_bipush (pc := 28) (v := 10) (by decide) (fm_dec dtX10_page 13 rfl) ?_
      refine pv_isub (pc := 30) (fm_dec dtX10_page 14 rfl) ?_
      exact pv_ireturn (pc := 31) rfl (fm_dec dtX10_page 15 rfl) (hq _ _ (Or.inl ⟨h5, ((f15 1 1 rfl).1.trans rfl)⟩))
  · refine pv_thenX ?_
    exact hq _ _ (Or.inr ⟨h4, rfl, rfl⟩)
set_option maxRecDepth 20000 in
theorem c_owork {M : fmM} {Q : fmR → fmM → Prop} {nn : Int32} (hI : scInv Tx invX M) (hq : ∀ (r : fmR) (M' : fmM), txE M nn 150 M' → Q r M') : pvGood Tx 213 qX10_work [.ref 0, .int nn] M Q := by
  refine pvGood_of (Nat.le_of_ble_eq_true rfl) ?_
  show pvEv Tx 213 qX10_work 0 [some (.ref 0), some (.int nn)] [] M Q
  refine pv_aloadn (pc := 0) (n := 0) 0 rfl rfl (fm_dec dtX10_work 0 rfl) ?_
  refine pv_iloadn (pc := 1) (n := 1) 1 rfl rfl (fm_dec dtX10_work 1 rfl) ?_
  refine pv_sipush (pc := 2) (v := 150) (by decide) (fm_dec dtX10_work 2 rfl) ?_
  refine pv_invV2 (k := 0) (d' := 1) (pc := 5) pcv_X10_108 (by decide) rfl (Nat.le_of_ble_eq_true rfl) (by decide) (fm_dec dtX10_work 3 rfl) ?_
  refine c_openT (fun h5 => ?_) (fun h5 => ?_)
  · refine pv_then0 ?_
    have hI5 := inv_open (n := nn) hI h5.1 (by have h9 : nn.toInt ≤ 150 := h5.2.1; omega)
    refine pv_aloadn (pc := 8) (n := 0) 0 rfl rfl (fm_dec dtX10_work 4 rfl) ?_
    refine pv_getR (k := 0) (j := 9) (ci := 10) (pc := 9) 46 rfl (by decide) pfl_X10_75 (by decide) rfl (by decide) (fm_dec dtX10_work 5 rfl) ?_
    refine pv_getI (k := 46) (j := 2) (ci := 5) (pc := 12) pfl_X10_126 (by decide) rfl (by decide) (fm_dec dtX10_work 6 rfl) ?_
    refine pv_bipush (pc := 15) (v := 16) (by decide) (fm_dec dtX10_work 7 rfl) ?_
    refine pv_icmp_lt (pc := 17) 23 (by decide) (fm_dec dtX10_work 8 rfl) (fun hc17 => ?_) (fun hc17 => ?_)
    · refine pv_aloadn (pc := 23) (n := 0) 0 rfl rfl (fm_dec dtX10_work 11 rfl) ?_
      refine pv_getR (k := 0) (j := 5) (ci := 10) (pc := 24) 28 rfl (by decide) pfl_X10_43 (by decide) rfl (by decide) (fm_dec dtX10_work 12 rfl) ?_
      refine pv_aloadn (pc := 27) (n := 0) 0 rfl rfl (fm_dec dtX10_work 13 rfl) ?_
      refine pv_getR (k := 0) (j := 0) (ci := 10) (pc := 28) 1 rfl (by decide) pfl_X10_12 (by decide) rfl (by decide) (fm_dec dtX10_work 14 rfl) ?_
      refine pv_aloadn (pc := 31) (n := 0) 0 rfl rfl (fm_dec dtX10_work 15 rfl) ?_
      refine pv_getR (k := 0) (j := 1) (ci := 10) (pc := 32) 3 rfl (by decide) pfl_X10_19 (by decide) rfl (by decide) (fm_dec dtX10_work 16 rfl) ?_
      refine pv_getI (k := 3) (j := 9) (ci := 8) (pc := 35) pfl_X10_138 (by decide) rfl (by decide) (fm_dec dtX10_work 17 rfl) ?_
      refine pv_invV2 (k := 28) (d' := 27) (pc := 38) pcv_X10_142 (by decide) rfl (Nat.le_of_ble_eq_true rfl) (by decide) (fm_dec dtX10_work 18 rfl) ?_
      refine c_xread hI5 (hI5.1 3 9 (by decide)) (fun M38 z hI38 f38 h4 hz hz2 hS => ?_) (fun M38 hI38 f38 => ?_)  
      · refine pv_then1 ?_
        refine pv_if_ne (pc := 41) 55 (by decide) (fm_dec dtX10_work 19 rfl) (fun _ => ?_) (fun hc41 => by exfalso; revert hc41; decide)
        refine pv_aloadn (pc := 55) (n := 0) 0 rfl rfl (fm_dec dtX10_work 26 rfl) ?_
        refine pv_getR (k := 0) (j := 9) (ci := 10) (pc := 56) 46 rfl (by decide) pfl_X10_75 (by decide) rfl (by decide) (fm_dec dtX10_work 27 rfl) ?_
        refine pv_invV0 (k := 46) (d' := 1) (pc := 59) pcv_X10_145 (by decide) rfl (Nat.le_of_ble_eq_true rfl) (by decide) (fm_dec dtX10_work 28 rfl) ?_
        refine s_keepx hI38 (fun M59 hI59 f59 => ?_)
        refine pv_then0 ?_
        have hQ9 : xQ M59 z 0 := ⟨hz2, fun i a b => (hS i a b).up (Nat.le_refl _) (fun k hk => (f59 k i (kpW_k (by omega))).1), hI59, (by rw [(f59 28 4 (kpW_k (by decide))).1]; exact h4), by decide⟩
        refine pv_aloadn (pc := 62) (n := 0) 0 rfl rfl (fm_dec dtX10_work 29 rfl) ?_
        refine pv_getR (k := 0) (j := 5) (ci := 10) (pc := 63) 28 rfl (by decide) pfl_X10_43 (by decide) rfl (by decide) (fm_dec dtX10_work 30 rfl) ?_
        refine pv_aloadn (pc := 66) (n := 0) 0 rfl rfl (fm_dec dtX10_work 31 rfl) ?_
        refine pv_getR (k := 0) (j := 6) (ci := 10) (pc := 67) 32 rfl (by decide) pfl_X10_52 (by decide) rfl (by decide) (fm_dec dtX10_work 32 rfl) ?_
        refine pv_aloadn (pc := 70) (n := 0) 0 rfl rfl (fm_dec dtX10_work 33 rfl) ?_
        refine pv_getR (k := 0) (j := 9) (ci := 10) (pc := 71) 46 rfl (by decide) pfl_X10_75 (by decide) rfl (by decide) (fm_dec dtX10_work 34 rfl) ?_
        refine pv_getR (k := 46) (j := 0) (ci := 5) (pc := 74) 47 rfl (by decide) pfl_X10_90 (by decide) rfl (by decide) (fm_dec dtX10_work 35 rfl) ?_
        refine pv_iconst (pc := 77) (v := 0) (by decide) (fm_dec dtX10_work 36 rfl) ?_
        refine pv_aloadn (pc := 78) (n := 0) 0 rfl rfl (fm_dec dtX10_work 37 rfl) ?_
        refine pv_getR (k := 0) (j := 5) (ci := 10) (pc := 79) 28 rfl (by decide) pfl_X10_43 (by decide) rfl (by decide) (fm_dec dtX10_work 38 rfl) ?_
        refine pv_getI (k := 28) (j := 3) (ci := 9) (pc := 82) pfl_X10_148 (by decide) rfl (by decide) (fm_dec dtX10_work 39 rfl) ?_
        refine pv_iconst (pc := 85) (v := 0) (by decide) (fm_dec dtX10_work 40 rfl) ?_
        refine pv_invV5 (k := 28) (d' := (12 + 200)) (pc := 86) pcv_X10_151 (by decide) rfl (Nat.le_of_ble_eq_true rfl) (by decide) (fm_dec dtX10_work 41 rfl) ?_
        refine xp_G (xp_P 200) M59 _ z 0 0 z _ 0 0 hQ9 (by omega) (by decide) (by rw [(f59 28 3 (kpW_k (by decide))).1]; exact hz) (Nat.le_refl _) (fun M86 g86 hI86 f86 hg86 _ _ => ?_) 
        refine pv_then0 ?_
        refine pv_aloadn (pc := 89) (n := 0) 0 rfl rfl (fm_dec dtX10_work 42 rfl) ?_
        refine pv_aloadn (pc := 90) (n := 0) 0 rfl rfl (fm_dec dtX10_work 43 rfl) ?_
        refine pv_getR (k := 0) (j := 5) (ci := 10) (pc := 91) 28 rfl (by decide) pfl_X10_43 (by decide) rfl (by decide) (fm_dec dtX10_work 44 rfl) ?_
        refine pv_getI (k := 28) (j := 6) (ci := 9) (pc := 94) pfl_X10_155 (by decide) rfl (by decide) (fm_dec dtX10_work 45 rfl) ?_
        refine pv_putI (k := 0) (j := 14) (ci := 10) (pc := 97) pfl_X10_132 (by decide) rfl (by decide) (fm_dec dtX10_work 46 rfl) ?_
        refine pv_aloadn (pc := 100) (n := 0) 0 rfl rfl (fm_dec dtX10_work 47 rfl) ?_
        refine pv_getR (k := 0) (j := 7) (ci := 10) (pc := 101) 34 rfl (by decide) pfl_X10_61 (by decide) rfl (by decide) (fm_dec dtX10_work 48 rfl) ?_
        refine pv_invV0 (k := 34) (d' := 0) (pc := 104) pcv_X10_135 (by decide) rfl (Nat.le_of_ble_eq_true rfl) (by decide) (fm_dec dtX10_work 49 rfl) ?_
        refine s_forget (xInv.put hI86 (scq_t _)) (fun M104 hI104 f104 => ?_)
        refine pv_then0 ?_
        refine pv_aloadn (pc := 107) (n := 0) 0 rfl rfl (fm_dec dtX10_work 50 rfl) ?_
        refine pv_getR (k := 0) (j := 5) (ci := 10) (pc := 108) 28 rfl (by decide) pfl_X10_43 (by decide) rfl (by decide) (fm_dec dtX10_work 51 rfl) ?_
        refine pv_getI (k := 28) (j := 5) (ci := 9) (pc := 111) pfl_X10_158 (by decide) rfl (by decide) (fm_dec dtX10_work 52 rfl) ?_
        exact pv_ireturn (pc := 114) rfl (fm_dec dtX10_work 53 rfl) (hq _ _ (Or.inl ⟨h5, (f104 1 1 rfl).1.trans ((f86 1 1 rfl).1.trans ((f59 1 1 (kpW_k (by decide))).1.trans ((f38 1 1 rfl).1.trans rfl)))⟩))
      · refine pv_then1 ?_
        refine pv_if_ne (pc := 41) 55 (by decide) (fm_dec dtX10_work 19 rfl) (fun hc41 => by exfalso; revert hc41; decide) (fun _ => ?_)
        refine pv_aloadn (pc := 44) (n := 0) 0 rfl rfl (fm_dec dtX10_work 20 rfl) ?_
        refine pv_getR (k := 0) (j := 0) (ci := 10) (pc := 45) 1 rfl (by decide) pfl_X10_12 (by decide) rfl (by decide) (fm_dec dtX10_work 21 rfl) ?_
        refine pv_getI (k := 1) (j := 4) (ci := 7) (pc := 48) pfl_X10_116 (by decide) rfl (by decide) (fm_dec dtX10_work 22 rfl) ?_
        refine pv_bipush (pc := 51) (v := 10) (by decide) (fm_dec dtX10_work 23 rfl) ?_
        refine pv_isub (pc := 53) (fm_dec dtX10_work 24 rfl) ?_
        exact pv_ireturn (pc := 54) rfl (fm_dec dtX10_work 25 rfl) (hq _ _ (Or.inl ⟨h5, ((f38 1 1 rfl).1.trans rfl)⟩))
    · refine pv_bipush (pc := 20) (v := (-20)) (by decide) (fm_dec dtX10_work 9 rfl) ?_
      exact pv_ireturn (pc := 22) rfl (fm_dec dtX10_work 10 rfl) (hq _ _ (Or.inl ⟨h5, rfl⟩))
  · refine pv_thenX ?_
    exact hq _ _ (Or.inr ⟨h5, rfl, rfl⟩)
theorem tape6 {M : fmM} (hI : scInv Tm invM M) : (M.1 0 1).toInt ≤ 600 := (hI.1 0 1 (by decide)).2
theorem c_gdrawer {M : fmM} {Q : fmR → fmM → Prop} {nn : Int32} (hI : scInv Tm invM M) (hq : ∀ (r : fmR) (M' : fmM), txG M nn 600 M' → Q r M') : pvGood Tm 6 qX11_drawer [.ref 0, .int nn] M Q := by
  have h6 := tape6 hI
  refine c_drawer (inv_fed hI) h6 (fun hn => hq _ _ (Or.inr ⟨fun h => hn ⟨h.1, h.2.2⟩, rfl, rfl⟩)) (fun n0 M1 M2 D r e1 e2 hs _ hD h _ => hq _ _ (Or.inl ⟨⟨by omega, by omega, by omega⟩, ?_⟩)) (fun n0 k a M1 M2 r e1 e2 hs _ hka h _ => hq _ _ (Or.inl ⟨⟨by omega, by omega, by omega⟩, ?_⟩))
  · obtain ⟨h3, Mx, hF, -, -, -, -, d2, -⟩ := h
    rw [d2 1 (by decide) (by decide) (by decide) (by decide) (by decide), fmI_j _ _ (by decide), hF.2.1 1 (by decide) (by decide) (by decide) (by decide)]
    exact hs.2.2.2.2.1
  · obtain ⟨h1, Mx, hF, rfl⟩ := h
    rw [fmI_j _ _ (by decide), hF.2.1 1 (by decide) (by decide) (by decide) (by decide)]
    exact hs.2.2.2.2.1
theorem c_glaw {M : fmM} {Q : fmR → fmM → Prop} {nn : Int32} (hI : scInv Tm invM M) (hq : ∀ (r : fmR) (M' : fmM), txG M nn 150 M' → Q r M') : pvGood Tm 27 qX11_law [.ref 0, .int nn] M Q := c_law (inv_fed hI) (fun hn => hq _ _ (Or.inr ⟨fun h => hn ⟨h.1, h.2.2, h.2.1⟩, rfl, rfl⟩)) (fun n0 cs M' e1 e2 e3 _ hd h => hq _ _ (Or.inl ⟨⟨by omega, by omega, by omega⟩, h.1.2⟩)) (fun n0 k a r M' e1 e2 e3 _ _ _ h => hq _ _ (Or.inl ⟨⟨by omega, by omega, by omega⟩, h.1.2⟩))
theorem c_gpage {M : fmM} {Q : fmR → fmM → Prop} {nn : Int32} (hI : scInv Tm invM M) (hq : ∀ (r : fmR) (M' : fmM), txG M nn 60 M' → Q r M') : pvGood Tm 3 qX11_page [.ref 0, .int nn] M Q := by
  refine c_page (inv_fed hI) (fun hn => hq _ _ (Or.inr ⟨fun h => hn ⟨h.1, h.2.2, h.2.1⟩, rfl, rfl⟩)) (fun n0 M1 M2 ls r e1 e2 e3 hs _ h _ => hq _ _ (Or.inl ⟨⟨by omega, by omega, by omega⟩, ?_⟩)) (fun n0 k a M1 M2 r e1 e2 e3 hs _ hka h _ => hq _ _ (Or.inl ⟨⟨by omega, by omega, by omega⟩, ?_⟩))
  · obtain ⟨h1, h2, h3, h4, h5, h5b, h6, h7, h8⟩ := h
    exact (h7 1 (by decide) (by decide) (by decide) (by decide) (by decide)).trans hs.2.2.2.2.1
  · obtain ⟨h1, h2, h3, h6, h7, h8⟩ := h
    exact (h7 1 (by decide) (by decide) (by decide) (by decide) (by decide)).trans hs.2.2.2.2.1
set_option maxRecDepth 20000 in
theorem wk_f0 {Q : fmR → fmM → Prop} {M : fmM} {nn : Int32} {ss : tS} {l w : Nat} (hf : M.1 0 5 = 0) (hI : scInv Tm invM M) (hw : (M.1 0 32).toInt = w) (hw16 : w < 16) (hR : stRep M 0 ss) (hO : ssOk l 0 ss) (hn : ss.length ≤ 80) (hl : l ≤ 8) (h4 : (M.1 4 0).toInt = l) (h26 : (M.1 0 26).toInt = (ss.length : Int)) (hq : ∀ (n : Int32) (M' : fmM), scInv Tm invM M' → M'.1 0 1 = M.1 0 1 → Q (.inl (some (.int n))) M') : pvEv Tm 213 qX11_work 101 [some (.ref 0), some (.int nn)] [] M Q := by
  refine pv_aloadn (pc := 101) (n := 0) 0 rfl rfl (fm_dec dtX11_work 53 rfl) ?_
  refine pv_getI (k := 0) (j := 5) (ci := 11) (pc := 102) pfl_X11_117 (by decide) rfl (by decide) (fm_dec dtX11_work 54 rfl) ?_
  refine pv_if_eq (pc := 105) 113 (by decide) (fm_dec dtX11_work 55 rfl) (fun _ => ?_) (fun hc105 => by exfalso; exact hc105 hf)
  refine pv_aloadn (pc := 113) (n := 0) 0 rfl rfl (fm_dec dtX11_work 59 rfl) ?_
  refine pv_iconst (pc := 114) (v := (-1)) (by decide) (fm_dec dtX11_work 60 rfl) ?_
  refine pv_putI (k := 0) (j := 3) (ci := 11) (pc := 115) pfl_X11_9 (by decide) rfl (by decide) (fm_dec dtX11_work 61 rfl) ?_
  refine pv_aloadn (pc := 118) (n := 0) 0 rfl rfl (fm_dec dtX11_work 62 rfl) ?_
  refine pv_getR (k := 0) (j := 27) (ci := 11) (pc := 119) 7 rfl (by decide) pfl_X11_61 (by decide) rfl (by decide) (fm_dec dtX11_work 63 rfl) ?_
  refine pv_aloadn (pc := 122) (n := 0) 0 rfl rfl (fm_dec dtX11_work 64 rfl) ?_
  refine pv_getR (k := 0) (j := 29) (ci := 11) (pc := 123) 25 rfl (by decide) pfl_X11_67 (by decide) rfl (by decide) (fm_dec dtX11_work 65 rfl) ?_
  refine pv_aloadn (pc := 126) (n := 0) 0 rfl rfl (fm_dec dtX11_work 66 rfl) ?_
  refine pv_getI (k := 0) (j := 32) (ci := 11) (pc := 127) pfl_X11_200 (by decide) rfl (by decide) (fm_dec dtX11_work 67 rfl) ?_
  refine pv_aald (k := 25) (n := 16) (r := (503 + w)) (pc := 130) (by decide) (Or.inr (Or.inr rfl)) rfl (rw_before.inb hw hw16) (rw_before.at hw hw16) (rw_before.2.2.2 _ hw16).2.1 (fm_dec dtX11_work 68 rfl) ?_
  refine pv_iS2 (d' := 0) (pc := 131) pcs_X11_323 (Nat.le_of_ble_eq_true rfl) (by omega) (fm_dec dtX11_work 69 rfl) ?_
  refine s_keep hw16 (hI.put (k := 0) (j := 3) (x := -1) (by decide) rfl) (fun M131 hI131 f131 => ?_) 
  refine pv_then0 ?_
  refine pv_aloadn (pc := 134) (n := 0) 0 rfl rfl (fm_dec dtX11_work 70 rfl) ?_
  refine pv_dup (pc := 135) rfl (fm_dec dtX11_work 71 rfl) ?_
  refine pv_getI (k := 0) (j := 32) (ci := 11) (pc := 136) pfl_X11_200 (by decide) rfl (by decide) (fm_dec dtX11_work 72 rfl) ?_
  refine pv_iconst (pc := 139) (v := 1) (by decide) (fm_dec dtX11_work 73 rfl) ?_
  refine pv_iadd (pc := 140) (fm_dec dtX11_work 74 rfl) ?_
  refine pv_putI (k := 0) (j := 32) (ci := 11) (pc := 141) pfl_X11_200 (by decide) rfl (by decide) (fm_dec dtX11_work 75 rfl) ?_
  refine pv_aloadn (pc := 144) (n := 0) 0 rfl rfl (fm_dec dtX11_work 76 rfl) ?_
  refine pv_iconst (pc := 145) (v := 0) (by decide) (fm_dec dtX11_work 77 rfl) ?_
  refine pv_putI (k := 0) (j := 36) (ci := 11) (pc := 146) pfl_X11_310 (by decide) rfl (by decide) (fm_dec dtX11_work 78 rfl) ?_
  refine pv_aloadn (pc := 149) (n := 0) 0 rfl rfl (fm_dec dtX11_work 79 rfl) ?_
  refine pv_iconst (pc := 150) (v := 0) (by decide) (fm_dec dtX11_work 80 rfl) ?_
  refine pv_putI (k := 0) (j := 37) (ci := 11) (pc := 151) pfl_X11_320 (by decide) rfl (by decide) (fm_dec dtX11_work 81 rfl) ?_
  refine pv_aloadn (pc := 154) (n := 0) 0 rfl rfl (fm_dec dtX11_work 82 rfl) ?_
  refine pv_iconst (pc := 155) (v := 0) (by decide) (fm_dec dtX11_work 83 rfl) ?_
  refine pv_putI (k := 0) (j := 33) (ci := 11) (pc := 156) pfl_X11_203 (by decide) rfl (by decide) (fm_dec dtX11_work 84 rfl) ?_
  have h32 : M131.1 0 32 = M.1 0 32 := (f131 0 32 rfl).1
  have hI5 : scInv Tm invM (wkM M131) := (by unfold wkM; refine inv_c0g (inv_c0g (inv_c0g (hI131.put (k := 0) (j := 32) ?_ rfl) (Or.inr (Or.inl rfl))) (Or.inr (Or.inr rfl))) (Or.inl rfl); rw [h32]; have h9 := i32_p1 hw (by omega); exact ⟨by show (0 : Int) ≤ _; omega, by show _ ≤ (16 : Int); omega⟩)
  have ek : ∀ k j, k ≠ 0 → k < 503 → (wkM M131).1 k j = M.1 k j := fun k j h0 h1 => (by unfold wkM; rw [fmI_k _ _ h0, fmI_k _ _ h0, fmI_k _ _ h0, fmI_k _ _ h0, (f131 k j (cpW_k h1)).1, fmI_k _ _ h0])
  have e26 : (wkM M131).1 0 26 = M.1 0 26 := (by unfold wkM; rw [fmI_j _ _ (by decide), fmI_j _ _ (by decide), fmI_j _ _ (by decide), fmI_j _ _ (by decide), (f131 0 26 rfl).1, fmI_j _ _ (by decide)])
  have hG5 : gSt (wkM M131) ss.length l 0 := gSt_of (hR.of (by omega) (fun k j a b => ek k j (by omega) b)) hO hn hl (by rw [ek 4 0 (by decide) (by decide)]; exact h4) hI5 rfl
  refine pv_aloadn (pc := 159) (n := 0) 0 rfl rfl (fm_dec dtX11_work 85 rfl) ?_
  refine pv_iconst (pc := 160) (v := 0) (by decide) (fm_dec dtX11_work 86 rfl) ?_
  refine pv_aloadn (pc := 161) (n := 0) 0 rfl rfl (fm_dec dtX11_work 87 rfl) ?_
  refine pv_getI (k := 0) (j := 26) (ci := 11) (pc := 162) pfl_X11_250 (by decide) rfl (by decide) (fm_dec dtX11_work 88 rfl) ?_
  refine pv_invV2 (k := 0) (d' := (12 + 200)) (pc := 165) pcv_X11_313 (by decide) rfl (Nat.le_of_ble_eq_true rfl) (by omega) (fm_dec dtX11_work 89 rfl) ?_
  refine gs_G (gs_P 200) _ _ ss.length l 0 0 ss.length 0 _ hG5 (by omega) (by decide) ((congrArg Int32.toInt e26).trans h26) (Nat.le_refl _) (fun M165 g165 hI165 f165 hg165 _ _ => ?_) 
  refine pv_then0 ?_
  refine pv_aloadn (pc := 168) (n := 0) 0 rfl rfl (fm_dec dtX11_work 90 rfl) ?_
  refine pv_getI (k := 0) (j := 37) (ci := 11) (pc := 169) pfl_X11_320 (by decide) rfl (by decide) (fm_dec dtX11_work 91 rfl) ?_
  exact pv_ireturn (pc := 172) rfl (fm_dec dtX11_work 92 rfl) (hq _ M165 hI165 (((f165 0 1 rfl).1).trans ((f131 0 1 rfl).1)))
set_option maxRecDepth 20000 in
theorem c_gwork {M : fmM} {Q : fmR → fmM → Prop} {nn : Int32} (hI : scInv Tm invM M) (hq : ∀ (r : fmR) (M' : fmM), txG M nn 150 M' → Q r M') : pvGood Tm 213 qX11_work [.ref 0, .int nn] M Q := by
  refine pvGood_of (Nat.le_of_ble_eq_true rfl) ?_
  show pvEv Tm 213 qX11_work 0 [some (.ref 0), some (.int nn)] [] M Q
  obtain ⟨l, h4, hl⟩ := told8 hI
  obtain ⟨w, hw, hw16⟩ := works16 hI
  have hI0 := hI.p00 (x := 0) (Or.inl rfl)
  have hfed := inv_fed hI
  refine pv_aloadn (pc := 0) (n := 0) 0 rfl rfl (fm_dec dtX11_work 0 rfl) ?_
  refine pv_iconst (pc := 1) (v := 0) (by decide) (fm_dec dtX11_work 1 rfl) ?_
  refine pv_putI (k := 0) (j := 0) (ci := 11) (pc := 2) pfl_X11_101 (by decide) rfl (by decide) (fm_dec dtX11_work 2 rfl) ?_
  refine pv_aloadn (pc := 5) (n := 0) 0 rfl rfl (fm_dec dtX11_work 3 rfl) ?_
  refine pv_iloadn (pc := 6) (n := 1) 1 rfl rfl (fm_dec dtX11_work 4 rfl) ?_
  refine pv_iconst (pc := 7) (v := 0) (by decide) (fm_dec dtX11_work 5 rfl) ?_
  refine pv_aloadn (pc := 8) (n := 0) 0 rfl rfl (fm_dec dtX11_work 6 rfl) ?_
  refine pv_getI (k := 0) (j := 1) (ci := 11) (pc := 9) pfl_X11_104 (by decide) rfl (by decide) (fm_dec dtX11_work 7 rfl) ?_
  refine pv_iS3 (d' := 0) (pc := 12) pcs_X11_135 (Nat.le_of_ble_eq_true rfl) (by decide) (fm_dec dtX11_work 8 rfl) ?_
  refine c_in (fun h12a h12b => ?_) (fun h12 => ?_)
  · refine pv_then1 ?_
    refine pv_if_eq (pc := 15) 25 (by decide) (fm_dec dtX11_work 9 rfl) (fun hc15 => by exfalso; revert hc15; decide) (fun _ => ?_)
    refine pv_iloadn (pc := 18) (n := 1) 1 rfl rfl (fm_dec dtX11_work 10 rfl) ?_
    refine pv_sipush (pc := 19) (v := 150) (by decide) (fm_dec dtX11_work 11 rfl) ?_
    refine pv_icmp_le (pc := 22) 29 (by decide) (fm_dec dtX11_work 12 rfl) (fun hc22 => ?_) (fun hc22 => ?_)
    · refine pv_iconst (pc := 29) (v := 0) (by decide) (fm_dec dtX11_work 15 rfl) ?_
      refine pv_iconst (pc := 30) (v := 1) (by decide) (fm_dec dtX11_work 16 rfl) ?_
      refine pv_iconst (pc := 31) (v := 1) (by decide) (fm_dec dtX11_work 17 rfl) ?_
      refine pv_invV3 (k := 0) (d' := 0) (pc := 32) pcv_X11_177 (by decide) rfl (Nat.le_of_ble_eq_true rfl) (by decide) (fm_dec dtX11_work 18 rfl) ?_
      refine c_badF1 rfl ?_
      refine pv_then1 ?_
      refine pv_if_eq (pc := 35) 40 (by decide) (fm_dec dtX11_work 19 rfl) (fun _ => ?_) (fun hc35 => by exfalso; revert hc35; decide)
      refine pv_aloadn (pc := 40) (n := 0) 0 rfl rfl (fm_dec dtX11_work 22 rfl) ?_
      refine pv_getI (k := 0) (j := 32) (ci := 11) (pc := 41) pfl_X11_200 (by decide) rfl (by decide) (fm_dec dtX11_work 23 rfl) ?_
      refine pv_bipush (pc := 44) (v := 16) (by decide) (fm_dec dtX11_work 24 rfl) ?_
      refine pv_icmp_ne (pc := 46) 62 (by decide) (fm_dec dtX11_work 25 rfl) (fun hc46 => ?_) (fun hc46 => ?_)
      · obtain ⟨n0, hn0⟩ : ∃ n0 : Nat, nn.toInt = n0 := ⟨nn.toInt.toNat, by have h9 : (0 : Int32).toInt = 0 := (by decide); omega⟩
        have hn150 : n0 ≤ 150 := (by have h9 := hc22; rw [sc_le] at h9; have h8 : (150 : Int32).toInt = 150 := (by decide); omega)
        have hn6 : n0 ≤ 600 := (by omega)
        refine pv_aloadn (pc := 62) (n := 0) 0 rfl rfl (fm_dec dtX11_work 34 rfl) ?_
        refine pv_iloadn (pc := 63) (n := 1) 1 rfl rfl (fm_dec dtX11_work 35 rfl) ?_
        refine pv_invV1 (k := 0) (d' := 2) (pc := 64) pcv_X11_181 (by decide) rfl (Nat.le_of_ble_eq_true rfl) (by omega) (fm_dec dtX11_work 36 rfl) ?_
        refine c_starts (n := n0) (M := fmI M 0 0 0) hfed hn6 hn0 (fun M64 h64 => ?_) 
        refine pv_then0 ?_
        refine pv_aloadn (pc := 67) (n := 0) 0 rfl rfl (fm_dec dtX11_work 37 rfl) ?_
        refine pv_iconst (pc := 68) (v := 0) (by decide) (fm_dec dtX11_work 38 rfl) ?_
        refine pv_putI (k := 0) (j := 26) (ci := 11) (pc := 69) pfl_X11_250 (by decide) rfl (by decide) (fm_dec dtX11_work 39 rfl) ?_
        have hI64 := inv_st hI h64
        have hok9 := rT_ok (n := n0) hfed hn6
        have hs0 : sk (rT M n0) 0 ≤ n0 := sp_le tB_1 hok9 (Nat.zero_le _)
        have hIs : scInv Tm invM (fmI M64 0 26 0) := hI64.put (scq_t 0) rfl
        have h4s : ((fmI M64 0 26 0).1 4 0).toInt = l := (by rw [fmI_k _ _ (by decide), st_k h64 (by decide)]; exact h4)
        have hP : srPre (fmI M64 0 26 0) (rT M n0) n0 (sk (rT M n0) 0) 0 0 l := ⟨h64.1.of rfl rfl rfl, h64.2.1, (by show (M64.1 0 8).toInt = _; rw [h64.2.2.1]; decide), by decide, (by rw [fmI_s]; decide), by omega, hn150, h4s, hl⟩
        have hbd := fun e he => wkL_bad hok9 hn150 700 0 (sk (rT M n0) 0) e hs0 (by omega) he (l := l)
        refine wk_loop (l := l) 700 0 _ _ hP (fun a h9 => by have h8 := (hbd _ h9).1.2; exact absurd h8 (show ¬ 9 ≤ 3 by decide)) (fun M2 ss q e h => ?_) (fun M2 k a e hB => ?_)
        · have g := wkL_ok hok9 700 0 _ ss hs0 e
          refine wk_f0 (l := l) (w := w) h.2.1 (inv_sr hIs h.2.2.2.2.2) (by rw [h.2.2.2.2.2.2.1 32 (by decide) (by decide) (by decide) (by decide) (by decide), fmI_j _ _ (by decide), st_j h64 (by decide)]; exact hw) (by have h9 : ¬ w = 16 := (fun h9 => hc46 (i32_ext (hw.trans (by rw [h9]; decide)))); omega) h.2.2.2.2.1 g.1 (by omega) hl (by rw [h.2.2.2.2.2.1 4 0 (by decide) (by omega)]; exact h4s) (by rw [h.2.2.2.1]; congr 1; omega) (fun n M9 _ h9 => hq _ _ (Or.inl ⟨⟨by omega, by omega, by exact h12b⟩, h9.trans ((h.2.2.2.2.2.2.1 1 (by decide) (by decide) (by decide) (by decide) (by decide)).trans ((fmI_j _ _ (by decide)).trans h64.2.2.2.2.1))⟩))
        · have hk := hbd _ e
          exact wk_e1 hB.nz (hq _ _ (Or.inl ⟨⟨by omega, by omega, by exact h12b⟩, (hB.2.2.2.2.2.1 1 (by decide) (by decide) (by decide) (by decide) (by decide)).trans ((fmI_j _ _ (by decide)).trans h64.2.2.2.2.1)⟩))
      · refine pv_aloadn (pc := 49) (n := 0) 0 rfl rfl (fm_dec dtX11_work 26 rfl) ?_
        refine pv_iconst (pc := 50) (v := 0) (by decide) (fm_dec dtX11_work 27 rfl) ?_
        refine pv_putI (k := 0) (j := 1) (ci := 11) (pc := 51) pfl_X11_104 (by decide) rfl (by decide) (fm_dec dtX11_work 28 rfl) ?_
        refine pv_aloadn (pc := 54) (n := 0) 0 rfl rfl (fm_dec dtX11_work 29 rfl) ?_
        refine pv_iconst (pc := 55) (v := (-1)) (by decide) (fm_dec dtX11_work 30 rfl) ?_
        refine pv_putI (k := 0) (j := 3) (ci := 11) (pc := 56) pfl_X11_9 (by decide) rfl (by decide) (fm_dec dtX11_work 31 rfl) ?_
        refine pv_bipush (pc := 59) (v := (-20)) (by decide) (fm_dec dtX11_work 32 rfl) ?_
        exact pv_ireturn (pc := 61) rfl (fm_dec dtX11_work 33 rfl) (hq _ _ (Or.inl ⟨⟨h12a, (by have h8 := hc22; rw [sc_le] at h8; have h7 : (150 : Int32).toInt = 150 := (by decide); omega), h12b⟩, rfl⟩))
    · refine pv_iconst (pc := 25) (v := 1) (by decide) (fm_dec dtX11_work 13 rfl) ?_
      refine pv_goto (pc := 26) 30 (by decide) (fm_dec dtX11_work 14 rfl) ?_
      refine pv_iconst (pc := 30) (v := 1) (by decide) (fm_dec dtX11_work 16 rfl) ?_
      refine pv_iconst (pc := 31) (v := 1) (by decide) (fm_dec dtX11_work 17 rfl) ?_
      refine pv_invV3 (k := 0) (d' := 0) (pc := 32) pcv_X11_177 (by decide) rfl (Nat.le_of_ble_eq_true rfl) (by decide) (fm_dec dtX11_work 18 rfl) ?_
      refine c_badT1 rfl (by decide) ?_
      refine pv_then1 ?_
      refine pv_if_eq (pc := 35) 40 (by decide) (fm_dec dtX11_work 19 rfl) (fun hc35 => by exfalso; revert hc35; decide) (fun _ => ?_)
      refine pv_iconst (pc := 38) (v := 0) (by decide) (fm_dec dtX11_work 20 rfl) ?_
      exact pv_ireturn (pc := 39) rfl (fm_dec dtX11_work 21 rfl) (hq _ _ (Or.inr ⟨(by intro h9; first | (have h8 := hc22; rw [sc_le] at h8; have h7 : (150 : Int32).toInt = 150 := (by decide); have h6 := h9.2.1; omega) | exact h12 ⟨(show (0 : Int32).toInt ≤ _ from h9.1), h9.2.2⟩), rfl, rfl⟩))
  · refine pv_then1 ?_
    refine pv_if_eq (pc := 15) 25 (by decide) (fm_dec dtX11_work 9 rfl) (fun _ => ?_) (fun hc15 => by exfalso; revert hc15; decide)
    refine pv_iconst (pc := 25) (v := 1) (by decide) (fm_dec dtX11_work 13 rfl) ?_
    refine pv_goto (pc := 26) 30 (by decide) (fm_dec dtX11_work 14 rfl) ?_
    refine pv_iconst (pc := 30) (v := 1) (by decide) (fm_dec dtX11_work 16 rfl) ?_
    refine pv_iconst (pc := 31) (v := 1) (by decide) (fm_dec dtX11_work 17 rfl) ?_
    refine pv_invV3 (k := 0) (d' := 0) (pc := 32) pcv_X11_177 (by decide) rfl (Nat.le_of_ble_eq_true rfl) (by decide) (fm_dec dtX11_work 18 rfl) ?_
    refine c_badT1 rfl (by decide) ?_
    refine pv_then1 ?_
    refine pv_if_eq (pc := 35) 40 (by decide) (fm_dec dtX11_work 19 rfl) (fun hc35 => by exfalso; revert hc35; decide) (fun _ => ?_)
    refine pv_iconst (pc := 38) (v := 0) (by decide) (fm_dec dtX11_work 20 rfl) ?_
    exact pv_ireturn (pc := 39) rfl (fm_dec dtX11_work 21 rfl) (hq _ _ (Or.inr ⟨(by intro h9; first | (have h8 := hc22; rw [sc_le] at h8; have h7 : (150 : Int32).toInt = 150 := (by decide); have h6 := h9.2.1; omega) | exact h12 ⟨(show (0 : Int32).toInt ≤ _ from h9.1), h9.2.2⟩), rfl, rfl⟩))
def xb (x s : Int32) : Int32 := vp_nar .byte (x >>> (s &&& 31)).toInt8.toInt32
def ptM (M : fmM) (f : Nat) (b : Int32) : fmM := fmI (fmI M 2 f b) 1 1 (M.1 1 1 + 1)
def puM (M : fmM) (f : Nat) (x : Int32) : fmM := ptM (ptM (ptM (ptM M f (xb x 24)) (f + 1) (xb x 16)) (f + 2) (xb x 8)) (f + 3) (xb x 0)
theorem pt_f {M : fmM} {f : Nat} {b : Int32} (h : (M.1 1 1).toInt = (f : Int)) (hf : f < 600) : ((ptM M f b).1 1 1).toInt = ((f + 1 : Nat) : Int) := by
  unfold ptM
  rw [fmI_s]
  exact i32_p1 h (by omega)
theorem pu_f {M : fmM} {f : Nat} {x : Int32} (h : (M.1 1 1).toInt = (f : Int)) (hf : f + 4 ≤ 600) : ((puM M f x).1 1 1).toInt = ((f + 4 : Nat) : Int) := pt_f (pt_f (pt_f (pt_f h (by omega)) (by omega)) (by omega)) (by omega)
set_option maxRecDepth 20000 in
theorem pt_24 {Q : fmR → fmM → Prop} {M : fmM} {x : Int32} {f : Nat} (hf : (M.1 1 1).toInt = (f : Int)) (h6 : f < 600) (k : pvEv Tx 0 qX7_put 3 [some (.ref 1), some (.int x), some (.int 16)] [] (ptM M f (xb x 24)) Q) : pvEv Tx 0 qX7_put 3 [some (.ref 1), some (.int x), some (.int 24)] [] M Q := by
  refine pv_iloadn (pc := 3) (n := 2) 2 rfl rfl (fm_dec dtX7_put 2 rfl) ?_
  refine pv_if_lt (pc := 4) 46 (by decide) (fm_dec dtX7_put 3 rfl) (fun hc4 => by exfalso; revert hc4; decide) (fun _ => ?_)
  refine pv_aloadn (pc := 7) (n := 0) 0 rfl rfl (fm_dec dtX7_put 4 rfl) ?_
  refine pv_getI (k := 1) (j := 1) (ci := 7) (pc := 8) pfl_X7_19 (by decide) rfl (by decide) (fm_dec dtX7_put 5 rfl) ?_
  refine pv_sipush (pc := 11) (v := 600) (by decide) (fm_dec dtX7_put 6 rfl) ?_
  refine pv_icmp_ge (pc := 14) 46 (by decide) (fm_dec dtX7_put 7 rfl) (fun hc14 => by exfalso; rw [sc_le] at hc14; have h9 : (600 : Int32).toInt = 600 := (by decide); omega) (fun _ => ?_)
  refine pv_aloadn (pc := 17) (n := 0) 0 rfl rfl (fm_dec dtX7_put 8 rfl) ?_
  refine pv_getR (k := 1) (j := 0) (ci := 7) (pc := 18) 2 rfl (by decide) pfl_X7_9 (by decide) rfl (by decide) (fm_dec dtX7_put 9 rfl) ?_
  refine pv_aloadn (pc := 21) (n := 0) 0 rfl rfl (fm_dec dtX7_put 10 rfl) ?_
  refine pv_getI (k := 1) (j := 1) (ci := 7) (pc := 22) pfl_X7_19 (by decide) rfl (by decide) (fm_dec dtX7_put 11 rfl) ?_
  refine pv_iloadn (pc := 25) (n := 1) 1 rfl rfl (fm_dec dtX7_put 12 rfl) ?_
  refine pv_iloadn (pc := 26) (n := 2) 2 rfl rfl (fm_dec dtX7_put 13 rfl) ?_
  refine pv_ishr (pc := 27) (fm_dec dtX7_put 14 rfl) ?_
  refine pv_i2b (pc := 28) (fm_dec dtX7_put 15 rfl) ?_
  refine pv_bast (k := 2) (n := 600) (pc := 29) (by decide) rfl rfl (ix_in hf h6) (fm_dec dtX7_put 16 rfl) ?_
  rw [i32_cl hf]
  refine pv_aloadn (pc := 30) (n := 0) 0 rfl rfl (fm_dec dtX7_put 17 rfl) ?_
  refine pv_dup (pc := 31) rfl (fm_dec dtX7_put 18 rfl) ?_
  refine pv_getI (k := 1) (j := 1) (ci := 7) (pc := 32) pfl_X7_19 (by decide) rfl (by decide) (fm_dec dtX7_put 19 rfl) ?_
  refine pv_iconst (pc := 35) (v := 1) (by decide) (fm_dec dtX7_put 20 rfl) ?_
  refine pv_iadd (pc := 36) (fm_dec dtX7_put 21 rfl) ?_
  refine pv_putI (k := 1) (j := 1) (ci := 7) (pc := 37) pfl_X7_19 (by decide) rfl (by decide) (fm_dec dtX7_put 22 rfl) ?_
  refine pv_iincc (pc := 40) 2 (-8) (by decide) rfl (by decide) rfl (fm_dec dtX7_put 23 rfl) ?_
  dsimp only [List.set_cons_zero, List.set_cons_succ]
  rw [show (24 : Int32) + (-8) = 16 by decide]
  refine pv_goto (pc := 43) 3 (by decide) (fm_dec dtX7_put 24 rfl) ?_
  exact k
set_option maxRecDepth 20000 in
theorem pt_16 {Q : fmR → fmM → Prop} {M : fmM} {x : Int32} {f : Nat} (hf : (M.1 1 1).toInt = (f : Int)) (h6 : f < 600) (k : pvEv Tx 0 qX7_put 3 [some (.ref 1), some (.int x), some (.int 8)] [] (ptM M f (xb x 16)) Q) : pvEv Tx 0 qX7_put 3 [some (.ref 1), some (.int x), some (.int 16)] [] M Q := by
  refine pv_iloadn (pc := 3) (n := 2) 2 rfl rfl (fm_dec dtX7_put 2 rfl) ?_
  refine pv_if_lt (pc := 4) 46 (by decide) (fm_dec dtX7_put 3 rfl) (fun hc4 => by exfalso; revert hc4; decide) (fun _ => ?_)
  refine pv_aloadn (pc := 7) (n := 0) 0 rfl rfl (fm_dec dtX7_put 4 rfl) ?_
  refine pv_getI (k := 1) (j := 1) (ci := 7) (pc := 8) pfl_X7_19 (by decide) rfl (by decide) (fm_dec dtX7_put 5 rfl) ?_
  refine pv_sipush (pc := 11) (v := 600) (by decide) (fm_dec dtX7_put 6 rfl) ?_
  refine pv_icmp_ge (pc := 14) 46 (by decide) (fm_dec dtX7_put 7 rfl) (fun hc14 => by exfalso; rw [sc_le] at hc14; have h9 : (600 : Int32).toInt = 600 := (by decide); omega) (fun _ => ?_)
  refine pv_aloadn (pc := 17) (n := 0) 0 rfl rfl (fm_dec dtX7_put 8 rfl) ?_
  refine pv_getR (k := 1) (j := 0) (ci := 7) (pc := 18) 2 rfl (by decide) pfl_X7_9 (by decide) rfl (by decide) (fm_dec dtX7_put 9 rfl) ?_
  refine pv_aloadn (pc := 21) (n := 0) 0 rfl rfl (fm_dec dtX7_put 10 rfl) ?_
  refine pv_getI (k := 1) (j := 1) (ci := 7) (pc := 22) pfl_X7_19 (by decide) rfl (by decide) (fm_dec dtX7_put 11 rfl) ?_
  refine pv_iloadn (pc := 25) (n := 1) 1 rfl rfl (fm_dec dtX7_put 12 rfl) ?_
  refine pv_iloadn (pc := 26) (n := 2) 2 rfl rfl (fm_dec dtX7_put 13 rfl) ?_
  refine pv_ishr (pc := 27) (fm_dec dtX7_put 14 rfl) ?_
  refine pv_i2b (pc := 28) (fm_dec dtX7_put 15 rfl) ?_
  refine pv_bast (k := 2) (n := 600) (pc := 29) (by decide) rfl rfl (ix_in hf h6) (fm_dec dtX7_put 16 rfl) ?_
  rw [i32_cl hf]
  refine pv_aloadn (pc := 30) (n := 0) 0 rfl rfl (fm_dec dtX7_put 17 rfl) ?_
  refine pv_dup (pc := 31) rfl (fm_dec dtX7_put 18 rfl) ?_
  refine pv_getI (k := 1) (j := 1) (ci := 7) (pc := 32) pfl_X7_19 (by decide) rfl (by decide) (fm_dec dtX7_put 19 rfl) ?_
  refine pv_iconst (pc := 35) (v := 1) (by decide) (fm_dec dtX7_put 20 rfl) ?_
  refine pv_iadd (pc := 36) (fm_dec dtX7_put 21 rfl) ?_
  refine pv_putI (k := 1) (j := 1) (ci := 7) (pc := 37) pfl_X7_19 (by decide) rfl (by decide) (fm_dec dtX7_put 22 rfl) ?_
  refine pv_iincc (pc := 40) 2 (-8) (by decide) rfl (by decide) rfl (fm_dec dtX7_put 23 rfl) ?_
  dsimp only [List.set_cons_zero, List.set_cons_succ]
  rw [show (16 : Int32) + (-8) = 8 by decide]
  refine pv_goto (pc := 43) 3 (by decide) (fm_dec dtX7_put 24 rfl) ?_
  exact k
set_option maxRecDepth 20000 in
theorem pt_8 {Q : fmR → fmM → Prop} {M : fmM} {x : Int32} {f : Nat} (hf : (M.1 1 1).toInt = (f : Int)) (h6 : f < 600) (k : pvEv Tx 0 qX7_put 3 [some (.ref 1), some (.int x), some (.int 0)] [] (ptM M f (xb x 8)) Q) : pvEv Tx 0 qX7_put 3 [some (.ref 1), some (.int x), some (.int 8)] [] M Q := by
  refine pv_iloadn (pc := 3) (n := 2) 2 rfl rfl (fm_dec dtX7_put 2 rfl) ?_
  refine pv_if_lt (pc := 4) 46 (by decide) (fm_dec dtX7_put 3 rfl) (fun hc4 => by exfalso; revert hc4; decide) (fun _ => ?_)
  refine pv_aloadn (pc := 7) (n := 0) 0 rfl rfl (fm_dec dtX7_put 4 rfl) ?_
  refine pv_getI (k := 1) (j := 1) (ci := 7) (pc := 8) pfl_X7_19 (by decide) rfl (by decide) (fm_dec dtX7_put 5 rfl) ?_
  refine pv_sipush (pc := 11) (v := 600) (by decide) (fm_dec dtX7_put 6 rfl) ?_
  refine pv_icmp_ge (pc := 14) 46 (by decide) (fm_dec dtX7_put 7 rfl) (fun hc14 => by exfalso; rw [sc_le] at hc14; have h9 : (600 : Int32).toInt = 600 := (by decide); omega) (fun _ => ?_)
  refine pv_aloadn (pc := 17) (n := 0) 0 rfl rfl (fm_dec dtX7_put 8 rfl) ?_
  refine pv_getR (k := 1) (j := 0) (ci := 7) (pc := 18) 2 rfl (by decide) pfl_X7_9 (by decide) rfl (by decide) (fm_dec dtX7_put 9 rfl) ?_
  refine pv_aloadn (pc := 21) (n := 0) 0 rfl rfl (fm_dec dtX7_put 10 rfl) ?_
  refine pv_getI (k := 1) (j := 1) (ci := 7) (pc := 22) pfl_X7_19 (by decide) rfl (by decide) (fm_dec dtX7_put 11 rfl) ?_
  refine pv_iloadn (pc := 25) (n := 1) 1 rfl rfl (fm_dec dtX7_put 12 rfl) ?_
  refine pv_iloadn (pc := 26) (n := 2) 2 rfl rfl (fm_dec dtX7_put 13 rfl) ?_
  refine pv_ishr (pc := 27) (fm_dec dtX7_put 14 rfl) ?_
  refine pv_i2b (pc := 28) (fm_dec dtX7_put 15 rfl) ?_
  refine pv_bast (k := 2) (n := 600) (pc := 29) (by decide) rfl rfl (ix_in hf h6) (fm_dec dtX7_put 16 rfl) ?_
  rw [i32_cl hf]
  refine pv_aloadn (pc := 30) (n := 0) 0 rfl rfl (fm_dec dtX7_put 17 rfl) ?_
  refine pv_dup (pc := 31) rfl (fm_dec dtX7_put 18 rfl) ?_
  refine pv_getI (k := 1) (j := 1) (ci := 7) (pc := 32) pfl_X7_19 (by decide) rfl (by decide) (fm_dec dtX7_put 19 rfl) ?_
  refine pv_iconst (pc := 35) (v := 1) (by decide) (fm_dec dtX7_put 20 rfl) ?_
  refine pv_iadd (pc := 36) (fm_dec dtX7_put 21 rfl) ?_
  refine pv_putI (k := 1) (j := 1) (ci := 7) (pc := 37) pfl_X7_19 (by decide) rfl (by decide) (fm_dec dtX7_put 22 rfl) ?_
  refine pv_iincc (pc := 40) 2 (-8) (by decide) rfl (by decide) rfl (fm_dec dtX7_put 23 rfl) ?_
  dsimp only [List.set_cons_zero, List.set_cons_succ]
  rw [show (8 : Int32) + (-8) = 0 by decide]
  refine pv_goto (pc := 43) 3 (by decide) (fm_dec dtX7_put 24 rfl) ?_
  exact k
set_option maxRecDepth 20000 in
theorem pt_0 {Q : fmR → fmM → Prop} {M : fmM} {x : Int32} {f : Nat} (hf : (M.1 1 1).toInt = (f : Int)) (h6 : f < 600) (k : pvEv Tx 0 qX7_put 3 [some (.ref 1), some (.int x), some (.int (-8))] [] (ptM M f (xb x 0)) Q) : pvEv Tx 0 qX7_put 3 [some (.ref 1), some (.int x), some (.int 0)] [] M Q := by
  refine pv_iloadn (pc := 3) (n := 2) 2 rfl rfl (fm_dec dtX7_put 2 rfl) ?_
  refine pv_if_lt (pc := 4) 46 (by decide) (fm_dec dtX7_put 3 rfl) (fun hc4 => by exfalso; revert hc4; decide) (fun _ => ?_)
  refine pv_aloadn (pc := 7) (n := 0) 0 rfl rfl (fm_dec dtX7_put 4 rfl) ?_
  refine pv_getI (k := 1) (j := 1) (ci := 7) (pc := 8) pfl_X7_19 (by decide) rfl (by decide) (fm_dec dtX7_put 5 rfl) ?_
  refine pv_sipush (pc := 11) (v := 600) (by decide) (fm_dec dtX7_put 6 rfl) ?_
  refine pv_icmp_ge (pc := 14) 46 (by decide) (fm_dec dtX7_put 7 rfl) (fun hc14 => by exfalso; rw [sc_le] at hc14; have h9 : (600 : Int32).toInt = 600 := (by decide); omega) (fun _ => ?_)
  refine pv_aloadn (pc := 17) (n := 0) 0 rfl rfl (fm_dec dtX7_put 8 rfl) ?_
  refine pv_getR (k := 1) (j := 0) (ci := 7) (pc := 18) 2 rfl (by decide) pfl_X7_9 (by decide) rfl (by decide) (fm_dec dtX7_put 9 rfl) ?_
  refine pv_aloadn (pc := 21) (n := 0) 0 rfl rfl (fm_dec dtX7_put 10 rfl) ?_
  refine pv_getI (k := 1) (j := 1) (ci := 7) (pc := 22) pfl_X7_19 (by decide) rfl (by decide) (fm_dec dtX7_put 11 rfl) ?_
  refine pv_iloadn (pc := 25) (n := 1) 1 rfl rfl (fm_dec dtX7_put 12 rfl) ?_
  refine pv_iloadn (pc := 26) (n := 2) 2 rfl rfl (fm_dec dtX7_put 13 rfl) ?_
  refine pv_ishr (pc := 27) (fm_dec dtX7_put 14 rfl) ?_
  refine pv_i2b (pc := 28) (fm_dec dtX7_put 15 rfl) ?_
  refine pv_bast (k := 2) (n := 600) (pc := 29) (by decide) rfl rfl (ix_in hf h6) (fm_dec dtX7_put 16 rfl) ?_
  rw [i32_cl hf]
  refine pv_aloadn (pc := 30) (n := 0) 0 rfl rfl (fm_dec dtX7_put 17 rfl) ?_
  refine pv_dup (pc := 31) rfl (fm_dec dtX7_put 18 rfl) ?_
  refine pv_getI (k := 1) (j := 1) (ci := 7) (pc := 32) pfl_X7_19 (by decide) rfl (by decide) (fm_dec dtX7_put 19 rfl) ?_
  refine pv_iconst (pc := 35) (v := 1) (by decide) (fm_dec dtX7_put 20 rfl) ?_
  refine pv_iadd (pc := 36) (fm_dec dtX7_put 21 rfl) ?_
  refine pv_putI (k := 1) (j := 1) (ci := 7) (pc := 37) pfl_X7_19 (by decide) rfl (by decide) (fm_dec dtX7_put 22 rfl) ?_
  refine pv_iincc (pc := 40) 2 (-8) (by decide) rfl (by decide) rfl (fm_dec dtX7_put 23 rfl) ?_
  dsimp only [List.set_cons_zero, List.set_cons_succ]
  rw [show (0 : Int32) + (-8) = (-8) by decide]
  refine pv_goto (pc := 43) 3 (by decide) (fm_dec dtX7_put 24 rfl) ?_
  exact k
set_option maxRecDepth 20000 in
theorem c_put {M : fmM} {Q : fmR → fmM → Prop} {x : Int32} {f : Nat} (hf : (M.1 1 1).toInt = (f : Int)) (h6 : f + 4 ≤ 600) (hq : Q (.inl none) (puM M f x)) : pvGood Tx 0 qX7_put [.ref 1, .int x] M Q := by
  refine pvGood_of (Nat.le_of_ble_eq_true rfl) ?_
  show pvEv Tx 0 qX7_put 0 [some (.ref 1), some (.int x), none] [] M Q
  refine pv_bipush (pc := 0) (v := 24) (by decide) (fm_dec dtX7_put 0 rfl) ?_
  refine pv_istoren (pc := 2) (n := 2) 2 rfl (by decide) rfl (fm_dec dtX7_put 1 rfl) ?_
  dsimp only [List.set_cons_zero, List.set_cons_succ]
  refine pt_24 hf (by omega) ?_
  have h1 := pt_f (b := xb x 24) hf (by omega)
  refine pt_16 h1 (by omega) ?_
  have h2 := pt_f (b := xb x 16) h1 (by omega)
  refine pt_8 h2 (by omega) ?_
  have h3 := pt_f (b := xb x 8) h2 (by omega)
  refine pt_0 h3 (by omega) ?_
  refine pv_iloadn (pc := 3) (n := 2) 2 rfl rfl (fm_dec dtX7_put 2 rfl) ?_
  refine pv_if_lt (pc := 4) 46 (by decide) (fm_dec dtX7_put 3 rfl) (fun _ => ?_) (fun hc4 => by exfalso; revert hc4; decide)
  exact pv_return (pc := 46) rfl (fm_dec dtX7_put 25 rfl) hq
set_option maxRecDepth 20000 in
theorem c_xfeed {M : fmM} {Q : fmR → fmM → Prop} {a b c d e : Int32} {f : Nat} (hf : (M.1 1 1).toInt = (f : Int)) (h600 : f ≤ 600) (hn : 600 < f + 20 → Q (.inl (some (.int (-1)))) M) (hq : f + 20 ≤ 600 → Q (.inl (some (.int ((puM (puM (puM (puM (puM M f a) (f + 4) b) (f + 4 + 4) c) (f + 4 + 4 + 4) d) (f + 4 + 4 + 4 + 4) e).1 1 1)))) (puM (puM (puM (puM (puM M f a) (f + 4) b) (f + 4 + 4) c) (f + 4 + 4 + 4) d) (f + 4 + 4 + 4 + 4) e)) : pvGood Tx 1 qX10_feed [.ref 0, .int a, .int b, .int c, .int d, .int e] M Q := by
  refine pvGood_of (Nat.le_of_ble_eq_true rfl) ?_
  show pvEv Tx 1 qX10_feed 0 [some (.ref 0), some (.int a), some (.int b), some (.int c), some (.int d), some (.int e)] [] M Q
  have e20 : (M.1 1 1 + 20).toInt = (f : Int) + 20 := (by have h7 : (20 : Int32).toInt = 20 := (by decide); rw [sc_add (by omega) (by omega)]; omega)
  refine pv_aloadn (pc := 0) (n := 0) 0 rfl rfl (fm_dec dtX10_feed 0 rfl) ?_
  refine pv_getR (k := 0) (j := 0) (ci := 10) (pc := 1) 1 rfl (by decide) pfl_X10_12 (by decide) rfl (by decide) (fm_dec dtX10_feed 1 rfl) ?_
  refine pv_getI (k := 1) (j := 1) (ci := 7) (pc := 4) pfl_X10_100 (by decide) rfl (by decide) (fm_dec dtX10_feed 2 rfl) ?_
  refine pv_bipush (pc := 7) (v := 20) (by decide) (fm_dec dtX10_feed 3 rfl) ?_
  refine pv_iadd (pc := 9) (fm_dec dtX10_feed 4 rfl) ?_
  refine pv_sipush (pc := 10) (v := 600) (by decide) (fm_dec dtX10_feed 5 rfl) ?_
  refine pv_icmp_le (pc := 13) 18 (by decide) (fm_dec dtX10_feed 6 rfl) (fun hc13 => ?_) (fun hc13 => ?_)
  · have h20 : f + 20 ≤ 600 := (by rw [sc_le] at hc13; have h8 : (600 : Int32).toInt = 600 := (by decide); have h7 : (20 : Int32).toInt = 20 := (by decide); omega)
    refine pv_aloadn (pc := 18) (n := 0) 0 rfl rfl (fm_dec dtX10_feed 9 rfl) ?_
    refine pv_getR (k := 0) (j := 0) (ci := 10) (pc := 19) 1 rfl (by decide) pfl_X10_12 (by decide) rfl (by decide) (fm_dec dtX10_feed 10 rfl) ?_
    refine pv_iloadn (pc := 22) (n := 1) 1 rfl rfl (fm_dec dtX10_feed 11 rfl) ?_
    refine pv_invV1 (k := 1) (d' := 0) (pc := 23) pcv_X10_104 (by decide) rfl (Nat.le_of_ble_eq_true rfl) (by decide) (fm_dec dtX10_feed 12 rfl) ?_
    refine c_put hf (by omega) ?_
    refine pv_then0 ?_
    have g1 := pu_f (x := a) hf (by omega)
    refine pv_aloadn (pc := 26) (n := 0) 0 rfl rfl (fm_dec dtX10_feed 13 rfl) ?_
    refine pv_getR (k := 0) (j := 0) (ci := 10) (pc := 27) 1 rfl (by decide) pfl_X10_12 (by decide) rfl (by decide) (fm_dec dtX10_feed 14 rfl) ?_
    refine pv_iloadn (pc := 30) (n := 2) 2 rfl rfl (fm_dec dtX10_feed 15 rfl) ?_
    refine pv_invV1 (k := 1) (d' := 0) (pc := 31) pcv_X10_104 (by decide) rfl (Nat.le_of_ble_eq_true rfl) (by decide) (fm_dec dtX10_feed 16 rfl) ?_
    refine c_put g1 (by omega) ?_
    refine pv_then0 ?_
    have g2 := pu_f (x := b) g1 (by omega)
    refine pv_aloadn (pc := 34) (n := 0) 0 rfl rfl (fm_dec dtX10_feed 17 rfl) ?_
    refine pv_getR (k := 0) (j := 0) (ci := 10) (pc := 35) 1 rfl (by decide) pfl_X10_12 (by decide) rfl (by decide) (fm_dec dtX10_feed 18 rfl) ?_
    refine pv_iloadn (pc := 38) (n := 3) 3 rfl rfl (fm_dec dtX10_feed 19 rfl) ?_
    refine pv_invV1 (k := 1) (d' := 0) (pc := 39) pcv_X10_104 (by decide) rfl (Nat.le_of_ble_eq_true rfl) (by decide) (fm_dec dtX10_feed 20 rfl) ?_
    refine c_put g2 (by omega) ?_
    refine pv_then0 ?_
    have g3 := pu_f (x := c) g2 (by omega)
    refine pv_aloadn (pc := 42) (n := 0) 0 rfl rfl (fm_dec dtX10_feed 21 rfl) ?_
    refine pv_getR (k := 0) (j := 0) (ci := 10) (pc := 43) 1 rfl (by decide) pfl_X10_12 (by decide) rfl (by decide) (fm_dec dtX10_feed 22 rfl) ?_
    refine pv_iload (pc := 46) (i := 4) rfl (fm_dec dtX10_feed 23 rfl) ?_
    refine pv_invV1 (k := 1) (d' := 0) (pc := 48) pcv_X10_104 (by decide) rfl (Nat.le_of_ble_eq_true rfl) (by decide) (fm_dec dtX10_feed 24 rfl) ?_
    refine c_put g3 (by omega) ?_
    refine pv_then0 ?_
    have g4 := pu_f (x := d) g3 (by omega)
    refine pv_aloadn (pc := 51) (n := 0) 0 rfl rfl (fm_dec dtX10_feed 25 rfl) ?_
    refine pv_getR (k := 0) (j := 0) (ci := 10) (pc := 52) 1 rfl (by decide) pfl_X10_12 (by decide) rfl (by decide) (fm_dec dtX10_feed 26 rfl) ?_
    refine pv_iload (pc := 55) (i := 5) rfl (fm_dec dtX10_feed 27 rfl) ?_
    refine pv_invV1 (k := 1) (d' := 0) (pc := 57) pcv_X10_104 (by decide) rfl (Nat.le_of_ble_eq_true rfl) (by decide) (fm_dec dtX10_feed 28 rfl) ?_
    refine c_put g4 (by omega) ?_
    refine pv_then0 ?_
    have g5 := pu_f (x := e) g4 (by omega)
    refine pv_aloadn (pc := 60) (n := 0) 0 rfl rfl (fm_dec dtX10_feed 29 rfl) ?_
    refine pv_getR (k := 0) (j := 0) (ci := 10) (pc := 61) 1 rfl (by decide) pfl_X10_12 (by decide) rfl (by decide) (fm_dec dtX10_feed 30 rfl) ?_
    refine pv_getI (k := 1) (j := 1) (ci := 7) (pc := 64) pfl_X10_100 (by decide) rfl (by decide) (fm_dec dtX10_feed 31 rfl) ?_
    exact pv_ireturn (pc := 67) rfl (fm_dec dtX10_feed 32 rfl) (hq h20)
  · refine pv_iconst (pc := 16) (v := (-1)) (by decide) (fm_dec dtX10_feed 7 rfl) ?_
    exact pv_ireturn (pc := 17) rfl (fm_dec dtX10_feed 8 rfl) (hn (by rw [sc_le] at hc13; have h8 : (600 : Int32).toInt = 600 := (by decide); have h7 : (20 : Int32).toInt = 20 := (by decide); omega))
def fdS (a b c d e k : Int32) : Int32 := if 4 ≤ k then (if 8 ≤ k then (if 12 ≤ k then (if 16 ≤ k then e else d) else c) else b) else a
def fdB (a b c d e k : Int32) : Int32 := fdS a b c d e k >>> ((24 - 8 * (k - k / 4 * 4)) &&& 31) &&& 255
def feM (M : fmM) (f : Nat) (b : Int32) : fmM := fmI (fmI M 1 f b) 0 1 (M.1 0 1 + 1)
/-- bytes k to 20 are fed from place f on -/
def feR (M M' : fmM) (f k : Nat) (B : Nat → Int32) : Prop := (M'.1 0 1).toInt = ((f + 20 : Nat) : Int) ∧ (∀ i, k ≤ i → i < 20 → M'.1 1 (f + i) = B i) ∧ (∀ q j, ¬ (q = 0 ∧ j = 1) → ¬ (q = 1 ∧ f + k ≤ j ∧ j < f + 20) → M'.1 q j = M.1 q j) ∧ M'.2 = M.2
theorem feR.step {M M' : fmM} {f k : Nat} {B : Nat → Int32} (hk : k < 20) (h : feR (feM M (f + k) (B k)) M' f (k + 1) B) : feR M M' f k B := by
  obtain ⟨h1, h2, h3, h4⟩ := h
  refine ⟨h1, fun i hi h20 => ?_, fun q j n1 n2 => ?_, h4⟩
  · by_cases e : i = k
    · subst e
      rw [h3 1 (f + i) (by omega) (by omega)]
      unfold feM
      rw [fmI_k _ _ (by decide), fmI_s]
    · exact h2 i (by omega) h20
  · rw [h3 q j n1 (by omega)]
    unfold feM
    rw [fmI_at, if_neg n1, fmI_at, if_neg (by omega)]
set_option maxRecDepth 20000 in
theorem fe_loop {Q : fmR → fmM → Prop} {a b c d e : Int32} {f : Nat} (h20 : f + 20 ≤ 600) : ∀ (m k : Nat) (M : fmM) (v7 : Option Value), (M.1 0 1).toInt = ((f + k : Nat) : Int) → k + m = 20 → (∀ (M' : fmM) (x6 v7 : Option Value), feR M M' f k (fun i => fdB a b c d e (nI i)) → pvEv Tm 0 qX11_feed 120 [some (.ref 0), some (.int a), some (.int b), some (.int c), some (.int d), some (.int e), x6, v7] [] M' Q) → pvEv Tm 0 qX11_feed 23 [some (.ref 0), some (.int a), some (.int b), some (.int c), some (.int d), some (.int e), some (.int (nI k)), v7] [] M Q := by
  intro m
  induction m with
  | zero =>
    intro k M v7 hf hk hq
    refine pv_iload (pc := 23) (i := 6) rfl (fm_dec dtX11_feed 13 rfl) ?_
    refine pv_bipush (pc := 25) (v := 20) (by decide) (fm_dec dtX11_feed 14 rfl) ?_
    refine pv_icmp_ge (pc := 27) 120 (by decide) (fm_dec dtX11_feed 15 rfl) (fun _ => ?_) (fun hc27 => by exfalso; apply hc27; rw [sc_le]; have h8 : (20 : Int32).toInt = 20 := (by decide); have h7 : (nI k).toInt = (k : Int) := nI_toInt (by omega); omega)
    exact hq M _ _ ⟨by rw [hf]; congr 1; omega, fun i h1 h2 => by omega, fun _ _ _ _ => rfl, rfl⟩
  | succ m ih =>
    intro k M v7 hf hk hq
    refine pv_iload (pc := 23) (i := 6) rfl (fm_dec dtX11_feed 13 rfl) ?_
    refine pv_bipush (pc := 25) (v := 20) (by decide) (fm_dec dtX11_feed 14 rfl) ?_
    refine pv_icmp_ge (pc := 27) 120 (by decide) (fm_dec dtX11_feed 15 rfl) (fun hc27 => by exfalso; rw [sc_le] at hc27; have h8 : (20 : Int32).toInt = 20 := (by decide); have h7 : (nI k).toInt = (k : Int) := nI_toInt (by omega); omega) (fun _ => ?_)
    refine pv_iload (pc := 30) (i := 6) rfl (fm_dec dtX11_feed 16 rfl) ?_
    refine pv_iconst (pc := 32) (v := 4) (by decide) (fm_dec dtX11_feed 17 rfl) ?_
    refine pv_icmp_ge (pc := 33) 40 (by decide) (fm_dec dtX11_feed 18 rfl) (fun hc33 => ?_) (fun hc33 => ?_)
    · refine pv_iload (pc := 40) (i := 6) rfl (fm_dec dtX11_feed 21 rfl) ?_
      refine pv_bipush (pc := 42) (v := 8) (by decide) (fm_dec dtX11_feed 22 rfl) ?_
      refine pv_icmp_ge (pc := 44) 51 (by decide) (fm_dec dtX11_feed 23 rfl) (fun hc44 => ?_) (fun hc44 => ?_)
      · refine pv_iload (pc := 51) (i := 6) rfl (fm_dec dtX11_feed 26 rfl) ?_
        refine pv_bipush (pc := 53) (v := 12) (by decide) (fm_dec dtX11_feed 27 rfl) ?_
        refine pv_icmp_ge (pc := 55) 62 (by decide) (fm_dec dtX11_feed 28 rfl) (fun hc55 => ?_) (fun hc55 => ?_)
        · refine pv_iload (pc := 62) (i := 6) rfl (fm_dec dtX11_feed 31 rfl) ?_
          refine pv_bipush (pc := 64) (v := 16) (by decide) (fm_dec dtX11_feed 32 rfl) ?_
          refine pv_icmp_ge (pc := 66) 74 (by decide) (fm_dec dtX11_feed 33 rfl) (fun hc66 => ?_) (fun hc66 => ?_)
          · refine pv_iload (pc := 74) (i := 5) rfl (fm_dec dtX11_feed 36 rfl) ?_
            refine pv_istore (pc := 76) (i := 7) (by decide) rfl (fm_dec dtX11_feed 37 rfl) ?_
            dsimp only [List.set_cons_zero, List.set_cons_succ]
            refine pv_aloadn (pc := 78) (n := 0) 0 rfl rfl (fm_dec dtX11_feed 38 rfl) ?_
            refine pv_getR (k := 0) (j := 9) (ci := 11) (pc := 79) 1 rfl (by decide) pfl_X11_13 (by decide) rfl (by decide) (fm_dec dtX11_feed 39 rfl) ?_
            refine pv_aloadn (pc := 82) (n := 0) 0 rfl rfl (fm_dec dtX11_feed 40 rfl) ?_
            refine pv_getI (k := 0) (j := 1) (ci := 11) (pc := 83) pfl_X11_104 (by decide) rfl (by decide) (fm_dec dtX11_feed 41 rfl) ?_
            refine pv_iload (pc := 86) (i := 7) rfl (fm_dec dtX11_feed 42 rfl) ?_
            refine pv_bipush (pc := 88) (v := 24) (by decide) (fm_dec dtX11_feed 43 rfl) ?_
            refine pv_bipush (pc := 90) (v := 8) (by decide) (fm_dec dtX11_feed 44 rfl) ?_
            refine pv_iload (pc := 92) (i := 6) rfl (fm_dec dtX11_feed 45 rfl) ?_
            refine pv_iconst (pc := 94) (v := 4) (by decide) (fm_dec dtX11_feed 46 rfl) ?_
            refine pv_irem (pc := 95) (by decide) (fm_dec dtX11_feed 47 rfl) ?_
            refine pv_imul (pc := 96) (fm_dec dtX11_feed 48 rfl) ?_
            refine pv_isub (pc := 97) (fm_dec dtX11_feed 49 rfl) ?_
            refine pv_ishr (pc := 98) (fm_dec dtX11_feed 50 rfl) ?_
            refine pv_sipush (pc := 99) (v := 255) (by decide) (fm_dec dtX11_feed 51 rfl) ?_
            refine pv_iand (pc := 102) (fm_dec dtX11_feed 52 rfl) ?_
            refine pv_iast (k := 1) (n := 600) (pc := 103) (by decide) rfl rfl (ix_in hf (by omega)) (fm_dec dtX11_feed 53 rfl) ?_
            refine pv_aloadn (pc := 104) (n := 0) 0 rfl rfl (fm_dec dtX11_feed 54 rfl) ?_
            refine pv_dup (pc := 105) rfl (fm_dec dtX11_feed 55 rfl) ?_
            refine pv_getI (k := 0) (j := 1) (ci := 11) (pc := 106) pfl_X11_104 (by decide) rfl (by decide) (fm_dec dtX11_feed 56 rfl) ?_
            refine pv_iconst (pc := 109) (v := 1) (by decide) (fm_dec dtX11_feed 57 rfl) ?_
            refine pv_iadd (pc := 110) (fm_dec dtX11_feed 58 rfl) ?_
            refine pv_putI (k := 0) (j := 1) (ci := 11) (pc := 111) pfl_X11_104 (by decide) rfl (by decide) (fm_dec dtX11_feed 59 rfl) ?_
            refine pv_iincc (pc := 114) 6 1 (by decide) rfl (by decide) rfl (fm_dec dtX11_feed 60 rfl) ?_
            dsimp only [List.set_cons_zero, List.set_cons_succ]
            refine pv_goto (pc := 117) 23 (by decide) (fm_dec dtX11_feed 61 rfl) ?_
            rw [i32_cl hf]
            have eB : fdB a b c d e (nI k) = e >>> ((24 - 8 * (nI k - nI k / 4 * 4)) &&& 31) &&& 255 := (by unfold fdB fdS; rw [if_pos hc33, if_pos hc44, if_pos hc55, if_pos hc66])
            rw [nI_succ1, ← eB]
            exact ih (k + 1) (feM M (f + k) (fdB a b c d e (nI k))) _ (by unfold feM; rw [fmI_s]; exact i32_p1 (p := f + k) hf (by omega)) (by omega) (fun M9 x9 w9 h9 => hq M9 x9 w9 (feR.step (by omega) h9))
          · refine pv_iload (pc := 69) (i := 4) rfl (fm_dec dtX11_feed 34 rfl) ?_
            refine pv_goto (pc := 71) 76 (by decide) (fm_dec dtX11_feed 35 rfl) ?_
            refine pv_istore (pc := 76) (i := 7) (by decide) rfl (fm_dec dtX11_feed 37 rfl) ?_
            dsimp only [List.set_cons_zero, List.set_cons_succ]
            refine pv_aloadn (pc := 78) (n := 0) 0 rfl rfl (fm_dec dtX11_feed 38 rfl) ?_
            refine pv_getR (k := 0) (j := 9) (ci := 11) (pc := 79) 1 rfl (by decide) pfl_X11_13 (by decide) rfl (by decide) (fm_dec dtX11_feed 39 rfl) ?_
            refine pv_aloadn (pc := 82) (n := 0) 0 rfl rfl (fm_dec dtX11_feed 40 rfl) ?_
            refine pv_getI (k := 0) (j := 1) (ci := 11) (pc := 83) pfl_X11_104 (by decide) rfl (by decide) (fm_dec dtX11_feed 41 rfl) ?_
            refine pv_iload (pc := 86) (i := 7) rfl (fm_dec dtX11_feed 42 rfl) ?_
            refine pv_bipush (pc := 88) (v := 24) (by decide) (fm_dec dtX11_feed 43 rfl) ?_
            refine pv_bipush (pc := 90) (v := 8) (by decide) (fm_dec dtX11_feed 44 rfl) ?_
            refine pv_iload (pc := 92) (i := 6) rfl (fm_dec dtX11_feed 45 rfl) ?_
            refine pv_iconst (pc := 94) (v := 4) (by decide) (fm_dec dtX11_feed 46 rfl) ?_
            refine pv_irem (pc := 95) (by decide) (fm_dec dtX11_feed 47 rfl) ?_
            refine pv_imul (pc := 96) (fm_dec dtX11_feed 48 rfl) ?_
            refine pv_isub (pc := 97) (fm_dec dtX11_feed 49 rfl) ?_
            refine pv_ishr (pc := 98) (fm_dec dtX11_feed 50 rfl) ?_
            refine pv_sipush (pc := 99) (v := 255) (by decide) (fm_dec dtX11_feed 51 rfl) ?_
            refine pv_iand (pc := 102) (fm_dec dtX11_feed 52 rfl) ?_
            refine pv_iast (k := 1) (n := 600) (pc := 103) (by decide) rfl rfl (ix_in hf (by omega)) (fm_dec dtX11_feed 53 rfl) ?_
            refine pv_aloadn (pc := 104) (n := 0) 0 rfl rfl (fm_dec dtX11_feed 54 rfl) ?_
            refine pv_dup (pc := 105) rfl (fm_dec dtX11_feed 55 rfl) ?_
            refine pv_getI (k := 0) (j := 1) (ci := 11) (pc := 106) pfl_X11_104 (by decide) rfl (by decide) (fm_dec dtX11_feed 56 rfl) ?_
            refine pv_iconst (pc := 109) (v := 1) (by decide) (fm_dec dtX11_feed 57 rfl) ?_
            refine pv_iadd (pc := 110) (fm_dec dtX11_feed 58 rfl) ?_
            refine pv_putI (k := 0) (j := 1) (ci := 11) (pc := 111) pfl_X11_104 (by decide) rfl (by decide) (fm_dec dtX11_feed 59 rfl) ?_
            refine pv_iincc (pc := 114) 6 1 (by decide) rfl (by decide) rfl (fm_dec dtX11_feed 60 rfl) ?_
            dsimp only [List.set_cons_zero, List.set_cons_succ]
            refine pv_goto (pc := 117) 23 (by decide) (fm_dec dtX11_feed 61 rfl) ?_
            rw [i32_cl hf]
            have eB : fdB a b c d e (nI k) = d >>> ((24 - 8 * (nI k - nI k / 4 * 4)) &&& 31) &&& 255 := (by unfold fdB fdS; rw [if_pos hc33, if_pos hc44, if_pos hc55, if_neg hc66])
            rw [nI_succ1, ← eB]
            exact ih (k + 1) (feM M (f + k) (fdB a b c d e (nI k))) _ (by unfold feM; rw [fmI_s]; exact i32_p1 (p := f + k) hf (by omega)) (by omega) (fun M9 x9 w9 h9 => hq M9 x9 w9 (feR.step (by omega) h9))
        · refine pv_iloadn (pc := 58) (n := 3) 3 rfl rfl (fm_dec dtX11_feed 29 rfl) ?_
          refine pv_goto (pc := 59) 76 (by decide) (fm_dec dtX11_feed 30 rfl) ?_
          refine pv_istore (pc := 76) (i := 7) (by decide) rfl (fm_dec dtX11_feed 37 rfl) ?_
          dsimp only [List.set_cons_zero, List.set_cons_succ]
          refine pv_aloadn (pc := 78) (n := 0) 0 rfl rfl (fm_dec dtX11_feed 38 rfl) ?_
          refine pv_getR (k := 0) (j := 9) (ci := 11) (pc := 79) 1 rfl (by decide) pfl_X11_13 (by decide) rfl (by decide) (fm_dec dtX11_feed 39 rfl) ?_
          refine pv_aloadn (pc := 82) (n := 0) 0 rfl rfl (fm_dec dtX11_feed 40 rfl) ?_
          refine pv_getI (k := 0) (j := 1) (ci := 11) (pc := 83) pfl_X11_104 (by decide) rfl (by decide) (fm_dec dtX11_feed 41 rfl) ?_
          refine pv_iload (pc := 86) (i := 7) rfl (fm_dec dtX11_feed 42 rfl) ?_
          refine pv_bipush (pc := 88) (v := 24) (by decide) (fm_dec dtX11_feed 43 rfl) ?_
          refine pv_bipush (pc := 90) (v := 8) (by decide) (fm_dec dtX11_feed 44 rfl) ?_
          refine pv_iload (pc := 92) (i := 6) rfl (fm_dec dtX11_feed 45 rfl) ?_
          refine pv_iconst (pc := 94) (v := 4) (by decide) (fm_dec dtX11_feed 46 rfl) ?_
          refine pv_irem (pc := 95) (by decide) (fm_dec dtX11_feed 47 rfl) ?_
          refine pv_imul (pc := 96) (fm_dec dtX11_feed 48 rfl) ?_
          refine pv_isub (pc := 97) (fm_dec dtX11_feed 49 rfl) ?_
          refine pv_ishr (pc := 98) (fm_dec dtX11_feed 50 rfl) ?_
          refine pv_sipush (pc := 99) (v := 255) (by decide) (fm_dec dtX11_feed 51 rfl) ?_
          refine pv_iand (pc := 102) (fm_dec dtX11_feed 52 rfl) ?_
          refine pv_iast (k := 1) (n := 600) (pc := 103) (by decide) rfl rfl (ix_in hf (by omega)) (fm_dec dtX11_feed 53 rfl) ?_
          refine pv_aloadn (pc := 104) (n := 0) 0 rfl rfl (fm_dec dtX11_feed 54 rfl) ?_
          refine pv_dup (pc := 105) rfl (fm_dec dtX11_feed 55 rfl) ?_
          refine pv_getI (k := 0) (j := 1) (ci := 11) (pc := 106) pfl_X11_104 (by decide) rfl (by decide) (fm_dec dtX11_feed 56 rfl) ?_
          refine pv_iconst (pc := 109) (v := 1) (by decide) (fm_dec dtX11_feed 57 rfl) ?_
          refine pv_iadd (pc := 110) (fm_dec dtX11_feed 58 rfl) ?_
          refine pv_putI (k := 0) (j := 1) (ci := 11) (pc := 111) pfl_X11_104 (by decide) rfl (by decide) (fm_dec dtX11_feed 59 rfl) ?_
          refine pv_iincc (pc := 114) 6 1 (by decide) rfl (by decide) rfl (fm_dec dtX11_feed 60 rfl) ?_
          dsimp only [List.set_cons_zero, List.set_cons_succ]
          refine pv_goto (pc := 117) 23 (by decide) (fm_dec dtX11_feed 61 rfl) ?_
          rw [i32_cl hf]
          have eB : fdB a b c d e (nI k) = c >>> ((24 - 8 * (nI k - nI k / 4 * 4)) &&& 31) &&& 255 := (by unfold fdB fdS; rw [if_pos hc33, if_pos hc44, if_neg hc55])
          rw [nI_succ1, ← eB]
          exact ih (k + 1) (feM M (f + k) (fdB a b c d e (nI k))) _ (by unfold feM; rw [fmI_s]; exact i32_p1 (p := f + k) hf (by omega)) (by omega) (fun M9 x9 w9 h9 => hq M9 x9 w9 (feR.step (by omega) h9))
      · refine pv_iloadn (pc := 47) (n := 2) 2 rfl rfl (fm_dec dtX11_feed 24 rfl) ?_
        refine pv_goto (pc := 48) 76 (by decide) (fm_dec dtX11_feed 25 rfl) ?_
        refine pv_istore (pc := 76) (i := 7) (by decide) rfl (fm_dec dtX11_feed 37 rfl) ?_
        dsimp only [List.set_cons_zero, List.set_cons_succ]
        refine pv_aloadn (pc := 78) (n := 0) 0 rfl rfl (fm_dec dtX11_feed 38 rfl) ?_
        refine pv_getR (k := 0) (j := 9) (ci := 11) (pc := 79) 1 rfl (by decide) pfl_X11_13 (by decide) rfl (by decide) (fm_dec dtX11_feed 39 rfl) ?_
        refine pv_aloadn (pc := 82) (n := 0) 0 rfl rfl (fm_dec dtX11_feed 40 rfl) ?_
        refine pv_getI (k := 0) (j := 1) (ci := 11) (pc := 83) pfl_X11_104 (by decide) rfl (by decide) (fm_dec dtX11_feed 41 rfl) ?_
        refine pv_iload (pc := 86) (i := 7) rfl (fm_dec dtX11_feed 42 rfl) ?_
        refine pv_bipush (pc := 88) (v := 24) (by decide) (fm_dec dtX11_feed 43 rfl) ?_
        refine pv_bipush (pc := 90) (v := 8) (by decide) (fm_dec dtX11_feed 44 rfl) ?_
        refine pv_iload (pc := 92) (i := 6) rfl (fm_dec dtX11_feed 45 rfl) ?_
        refine pv_iconst (pc := 94) (v := 4) (by decide) (fm_dec dtX11_feed 46 rfl) ?_
        refine pv_irem (pc := 95) (by decide) (fm_dec dtX11_feed 47 rfl) ?_
        refine pv_imul (pc := 96) (fm_dec dtX11_feed 48 rfl) ?_
        refine pv_isub (pc := 97) (fm_dec dtX11_feed 49 rfl) ?_
        refine pv_ishr (pc := 98) (fm_dec dtX11_feed 50 rfl) ?_
        refine pv_sipush (pc := 99) (v := 255) (by decide) (fm_dec dtX11_feed 51 rfl) ?_
        refine pv_iand (pc := 102) (fm_dec dtX11_feed 52 rfl) ?_
        refine pv_iast (k := 1) (n := 600) (pc := 103) (by decide) rfl rfl (ix_in hf (by omega)) (fm_dec dtX11_feed 53 rfl) ?_
        refine pv_aloadn (pc := 104) (n := 0) 0 rfl rfl (fm_dec dtX11_feed 54 rfl) ?_
        refine pv_dup (pc := 105) rfl (fm_dec dtX11_feed 55 rfl) ?_
        refine pv_getI (k := 0) (j := 1) (ci := 11) (pc := 106) pfl_X11_104 (by decide) rfl (by decide) (fm_dec dtX11_feed 56 rfl) ?_
        refine pv_iconst (pc := 109) (v := 1) (by decide) (fm_dec dtX11_feed 57 rfl) ?_
        refine pv_iadd (pc := 110) (fm_dec dtX11_feed 58 rfl) ?_
        refine pv_putI (k := 0) (j := 1) (ci := 11) (pc := 111) pfl_X11_104 (by decide) rfl (by decide) (fm_dec dtX11_feed 59 rfl) ?_
        refine pv_iincc (pc := 114) 6 1 (by decide) rfl (by decide) rfl (fm_dec dtX11_feed 60 rfl) ?_
        dsimp only [List.set_cons_zero, List.set_cons_succ]
        refine pv_goto (pc := 117) 23 (by decide) (fm_dec dtX11_feed 61 rfl) ?_
        rw [i32_cl hf]
        have eB : fdB a b c d e (nI k) = b >>> ((24 - 8 * (nI k - nI k / 4 * 4)) &&& 31) &&& 255 := (by unfold fdB fdS; rw [if_pos hc33, if_neg hc44])
        rw [nI_succ1, ← eB]
        exact ih (k + 1) (feM M (f + k) (fdB a b c d e (nI k))) _ (by unfold feM; rw [fmI_s]; exact i32_p1 (p := f + k) hf (by omega)) (by omega) (fun M9 x9 w9 h9 => hq M9 x9 w9 (feR.step (by omega) h9))
    · refine pv_iloadn (pc := 36) (n := 1) 1 rfl rfl (fm_dec dtX11_feed 19 rfl) ?_
      refine pv_goto (pc := 37) 76 (by decide) (fm_dec dtX11_feed 20 rfl) ?_
      refine pv_istore (pc := 76) (i := 7) (by decide) rfl (fm_dec dtX11_feed 37 rfl) ?_
      dsimp only [List.set_cons_zero, List.set_cons_succ]
      refine pv_aloadn (pc := 78) (n := 0) 0 rfl rfl (fm_dec dtX11_feed 38 rfl) ?_
      refine pv_getR (k := 0) (j := 9) (ci := 11) (pc := 79) 1 rfl (by decide) pfl_X11_13 (by decide) rfl (by decide) (fm_dec dtX11_feed 39 rfl) ?_
      refine pv_aloadn (pc := 82) (n := 0) 0 rfl rfl (fm_dec dtX11_feed 40 rfl) ?_
      refine pv_getI (k := 0) (j := 1) (ci := 11) (pc := 83) pfl_X11_104 (by decide) rfl (by decide) (fm_dec dtX11_feed 41 rfl) ?_
      refine pv_iload (pc := 86) (i := 7) rfl (fm_dec dtX11_feed 42 rfl) ?_
      refine pv_bipush (pc := 88) (v := 24) (by decide) (fm_dec dtX11_feed 43 rfl) ?_
      refine pv_bipush (pc := 90) (v := 8) (by decide) (fm_dec dtX11_feed 44 rfl) ?_
      refine pv_iload (pc := 92) (i := 6) rfl (fm_dec dtX11_feed 45 rfl) ?_
      refine pv_iconst (pc := 94) (v := 4) (by decide) (fm_dec dtX11_feed 46 rfl) ?_
      refine pv_irem (pc := 95) (by decide) (fm_dec dtX11_feed 47 rfl) ?_
      refine pv_imul (pc := 96) (fm_dec dtX11_feed 48 rfl) ?_
      refine pv_isub (pc := 97) (fm_dec dtX11_feed 49 rfl) ?_
      refine pv_ishr (pc := 98) (fm_dec dtX11_feed 50 rfl) ?_
      refine pv_sipush (pc := 99) (v := 255) (by decide) (fm_dec dtX11_feed 51 rfl) ?_
      refine pv_iand (pc := 102) (fm_dec dtX11_feed 52 rfl) ?_
      refine pv_iast (k := 1) (n := 600) (pc := 103) (by decide) rfl rfl (ix_in hf (by omega)) (fm_dec dtX11_feed 53 rfl) ?_
      refine pv_aloadn (pc := 104) (n := 0) 0 rfl rfl (fm_dec dtX11_feed 54 rfl) ?_
      refine pv_dup (pc := 105) rfl (fm_dec dtX11_feed 55 rfl) ?_
      refine pv_getI (k := 0) (j := 1) (ci := 11) (pc := 106) pfl_X11_104 (by decide) rfl (by decide) (fm_dec dtX11_feed 56 rfl) ?_
      refine pv_iconst (pc := 109) (v := 1) (by decide) (fm_dec dtX11_feed 57 rfl) ?_
      refine pv_iadd (pc := 110) (fm_dec dtX11_feed 58 rfl) ?_
      refine pv_putI (k := 0) (j := 1) (ci := 11) (pc := 111) pfl_X11_104 (by decide) rfl (by decide) (fm_dec dtX11_feed 59 rfl) ?_
      refine pv_iincc (pc := 114) 6 1 (by decide) rfl (by decide) rfl (fm_dec dtX11_feed 60 rfl) ?_
      dsimp only [List.set_cons_zero, List.set_cons_succ]
      refine pv_goto (pc := 117) 23 (by decide) (fm_dec dtX11_feed 61 rfl) ?_
      rw [i32_cl hf]
      have eB : fdB a b c d e (nI k) = a >>> ((24 - 8 * (nI k - nI k / 4 * 4)) &&& 31) &&& 255 := (by unfold fdB fdS; rw [if_neg hc33])
      rw [nI_succ1, ← eB]
      exact ih (k + 1) (feM M (f + k) (fdB a b c d e (nI k))) _ (by unfold feM; rw [fmI_s]; exact i32_p1 (p := f + k) hf (by omega)) (by omega) (fun M9 x9 w9 h9 => hq M9 x9 w9 (feR.step (by omega) h9))
set_option maxRecDepth 20000 in
theorem c_mfeed {M : fmM} {Q : fmR → fmM → Prop} {a b c d e : Int32} {f : Nat} (hf : (M.1 0 1).toInt = (f : Int)) (h600 : f ≤ 600) (hn : 600 < f + 20 → Q (.inl (some (.int (-1)))) (fmI M 0 0 0)) (hq : f + 20 ≤ 600 → ∀ M' : fmM, feR (fmI M 0 0 0) M' f 0 (fun i => fdB a b c d e (nI i)) → Q (.inl (some (.int (M'.1 0 1)))) M') : pvGood Tm 0 qX11_feed [.ref 0, .int a, .int b, .int c, .int d, .int e] M Q := by
  refine pvGood_of (Nat.le_of_ble_eq_true rfl) ?_
  show pvEv Tm 0 qX11_feed 0 [some (.ref 0), some (.int a), some (.int b), some (.int c), some (.int d), some (.int e), none, none] [] M Q
  have e20 : ((fmI M 0 0 0).1 0 1 + 20).toInt = (f : Int) + 20 := (by have h7 : (20 : Int32).toInt = 20 := (by decide); have h6 : ((fmI M 0 0 0).1 0 1).toInt = (f : Int) := hf; rw [sc_add (by omega) (by omega)]; omega)
  refine pv_aloadn (pc := 0) (n := 0) 0 rfl rfl (fm_dec dtX11_feed 0 rfl) ?_
  refine pv_iconst (pc := 1) (v := 0) (by decide) (fm_dec dtX11_feed 1 rfl) ?_
  refine pv_putI (k := 0) (j := 0) (ci := 11) (pc := 2) pfl_X11_101 (by decide) rfl (by decide) (fm_dec dtX11_feed 2 rfl) ?_
  refine pv_aloadn (pc := 5) (n := 0) 0 rfl rfl (fm_dec dtX11_feed 3 rfl) ?_
  refine pv_getI (k := 0) (j := 1) (ci := 11) (pc := 6) pfl_X11_104 (by decide) rfl (by decide) (fm_dec dtX11_feed 4 rfl) ?_
  refine pv_bipush (pc := 9) (v := 20) (by decide) (fm_dec dtX11_feed 5 rfl) ?_
  refine pv_iadd (pc := 11) (fm_dec dtX11_feed 6 rfl) ?_
  refine pv_sipush (pc := 12) (v := 600) (by decide) (fm_dec dtX11_feed 7 rfl) ?_
  refine pv_icmp_le (pc := 15) 20 (by decide) (fm_dec dtX11_feed 8 rfl) (fun hc15 => ?_) (fun hc15 => ?_)
  · have h20 : f + 20 ≤ 600 := (by rw [sc_le] at hc15; have h8 : (600 : Int32).toInt = 600 := (by decide); have h7 : (20 : Int32).toInt = 20 := (by decide); omega)
    refine pv_iconst (pc := 20) (v := 0) (by decide) (fm_dec dtX11_feed 11 rfl) ?_
    refine pv_istore (pc := 21) (i := 6) (by decide) rfl (fm_dec dtX11_feed 12 rfl) ?_
    dsimp only [List.set_cons_zero, List.set_cons_succ]
    refine fe_loop h20 20 0 (fmI M 0 0 0) _ hf (by decide) (fun M' x6 v7 h9 => ?_)
    refine pv_aloadn (pc := 120) (n := 0) 0 rfl rfl (fm_dec dtX11_feed 62 rfl) ?_
    refine pv_getI (k := 0) (j := 1) (ci := 11) (pc := 121) pfl_X11_104 (by decide) rfl (by decide) (fm_dec dtX11_feed 63 rfl) ?_
    exact pv_ireturn (pc := 124) rfl (fm_dec dtX11_feed 64 rfl) (hq h20 M' h9)
  · refine pv_iconst (pc := 18) (v := (-1)) (by decide) (fm_dec dtX11_feed 9 rfl) ?_
    exact pv_ireturn (pc := 19) rfl (fm_dec dtX11_feed 10 rfl) (hn (by rw [sc_le] at hc15; have h8 : (600 : Int32).toInt = 600 := (by decide); have h7 : (20 : Int32).toInt = 20 := (by decide); omega))
end
-- P 18g
section
-- THE CLASS READS TEXTS
/-- a signed byte and what it says -/
def bt (x : Int32) (c : Int) : Prop := x.toInt = if c < 128 then c else c - 256
theorem and255 (x : Int32) : (x &&& 255).toInt = x.toInt % 256 := by
  have e : (x &&& 255).toBitVec.toNat = x.toBitVec.toNat % 256 := by
    rw [Int32.toBitVec_and, BitVec.toNat_and]
    exact Nat.and_two_pow_sub_one_eq_mod _ 8
  have e3 : (x &&& 255).toInt = ((x &&& 255).toBitVec.toNat : Int) := by
    show (x &&& 255).toBitVec.toInt = _
    rw [BitVec.toInt_eq_toNat_of_lt (by omega)]
  have e4 : x.toInt = if 2 * x.toBitVec.toNat < 2 ^ 32 then (x.toBitVec.toNat : Int) else (x.toBitVec.toNat : Int) - ((2 ^ 32 : Nat) : Int) := by
    show x.toBitVec.toInt = _
    rw [BitVec.toInt_eq_toNat_cond]
  rw [e3, e, e4]
  split <;> omega
theorem bt.and {x : Int32} {c : Int} (h : bt x c) (h0 : 0 ≤ c) (h1 : c ≤ 255) : (x &&& 255).toInt = c := by
  rw [and255, h]
  split <;> omega
theorem bt.eq {x : Int32} {c v : Int} (h : bt x c) (h1 : c ≤ 255) (h2 : 0 ≤ v) (h3 : v < 128) : x.toInt = v ↔ c = v := by
  rw [h]
  split <;> omega
theorem bt.D {x : Int32} {c : Int} (h : bt x c) (h1 : c ≤ 255) : tD c = tD x.toInt := by
  rw [h]
  unfold tD
  split
  · rfl
  · have a1 : decide (c ≤ 57) = false := decide_eq_false (by omega)
    have a2 : decide (48 ≤ c - 256) = false := decide_eq_false (by omega)
    rw [a1, a2, Bool.and_false, Bool.false_and]
theorem bt.W {x : Int32} {c : Int} (h : bt x c) (h1 : c ≤ 255) : tW c = tW x.toInt := by
  rw [h]
  unfold tW
  split
  · rfl
  · have a1 : decide (c ≤ 122) = false := decide_eq_false (by omega)
    have a2 : decide (97 ≤ c - 256) = false := decide_eq_false (by omega)
    rw [a1, a2, Bool.and_false, Bool.false_and]
def xS2 (M : fmM) (tx : tX) (n p : Nat) : Prop := (M.1 1 2).toInt = n ∧ (M.1 1 3).toInt = p ∧ p ≤ n ∧ tOk tx n ∧ ∀ i, i < n → bt (M.1 2 i) (tx i)
theorem xS2.of {M M' : fmM} {tx : tX} {n p : Nat} (h : xS2 M tx n p) (e1 : M'.1 1 2 = M.1 1 2) (e2 : M'.1 1 3 = M.1 1 3) (e3 : M'.1 2 = M.1 2) : xS2 M' tx n p := by
  obtain ⟨a, b, c, d, e⟩ := h
  exact ⟨by rw [e1]; exact a, by rw [e2]; exact b, c, d, by rw [e3]; exact e⟩
theorem xS2.set {M : fmM} {tx : tX} {n p q : Nat} {x : Int32} (h : xS2 M tx n p) (hx : x.toInt = q) (hq : q ≤ n) : xS2 (fmI M 1 3 x) tx n q := by
  obtain ⟨a, b, c, d, e⟩ := h
  exact ⟨a, hx, hq, d, e⟩
theorem xS2.lt {M : fmM} {tx : tX} {n p : Nat} (h : xS2 M tx n p) (hc : ¬ M.1 1 2 ≤ M.1 1 3) : p < n := by
  rw [sc_le] at hc
  have h1 := h.1
  have h2 := h.2.1
  omega
theorem xS2.ge {M : fmM} {tx : tX} {n p : Nat} (h : xS2 M tx n p) (hc : M.1 1 2 ≤ M.1 1 3) : p = n := by
  rw [sc_le] at hc
  have h1 := h.1
  have h2 := h.2.1
  have h3 := h.2.2.1
  omega
theorem xS2.byte {M : fmM} {tx : tX} {n p : Nat} (h : xS2 M tx n p) (hp : p < n) : bt (M.1 2 (M.1 1 3).toNatClampNeg) (tx p) ∧ 0 ≤ tx p ∧ tx p ≤ 255 := by
  rw [i32_cl h.2.1]
  exact ⟨h.2.2.2.2 p hp, h.2.2.2.1.2.2 p hp⟩
theorem xS2.inb {M : fmM} {tx : tX} {n p : Nat} (h : xS2 M tx n p) (hp : p < n) : vp_in (M.1 1 3) 600 := ix_in h.2.1 (by have := h.2.2.2.1.1; omega)
theorem xS2.bl {M : fmM} {tx : tX} {n p : Nat} {x : Int32} (h : xS2 M tx n p) (hx : x.toInt = sk tx p) : xS2 (fmI M 1 3 x) tx n (sk tx p) := h.set hx (sp_le tB_1 h.2.2.2.1 h.2.2.1)
theorem bt.B {x : Int32} {c : Int} (h : bt x c) (h1 : c ≤ 255) : tB c = decide (x = 32) := by
  unfold tB
  have e : (c = 32) ↔ (x = 32) := by
    rw [← h.eq h1 (by decide) (by decide)]
    constructor
    · intro h9
      exact i32_ext (h9.trans (by decide))
    · intro h9
      rw [h9]
      decide
  exact decide_eq_decide.mpr e
def xdFr (M M' : fmM) : Prop := (∀ k j, k ≠ 1 → M'.1 k j = M.1 k j ∧ M'.2 k j = M.2 k j) ∧ (∀ j, j ≠ 3 → j ≠ 4 → j ≠ 5 → M'.1 1 j = M.1 1 j)
def xdOk (M M' : fmM) (tx : tX) (n q : Nat) : Prop := xS2 M' tx n q ∧ M'.1 1 4 = 0 ∧ xdFr M M' ∧ scInv Tx invX M'
def xdBad (M M' : fmM) (k a : Nat) : Prop := (M'.1 1 4).toInt = k ∧ (M'.1 1 5).toInt = a ∧ k ≠ 0 ∧ xdFr M M' ∧ scInv Tx invX M'
theorem xdFr.refl (M : fmM) : xdFr M M := ⟨fun _ _ _ => ⟨rfl, rfl⟩, fun _ _ _ _ => rfl⟩
theorem xdFr.trans {M M1 M2 : fmM} (h : xdFr M M1) (h' : xdFr M1 M2) : xdFr M M2 := ⟨fun k j a => ⟨(h'.1 k j a).1.trans (h.1 k j a).1, (h'.1 k j a).2.trans (h.1 k j a).2⟩, fun j a b c => (h'.2 j a b c).trans (h.2 j a b c)⟩
theorem xdFr.set {M M1 : fmM} {j : Nat} {x : Int32} (h : xdFr M M1) (hj : j = 3 ∨ j = 4 ∨ j = 5) : xdFr M (fmI M1 1 j x) := by
  refine ⟨fun k' j' a => ⟨?_, (h.1 k' j' a).2⟩, fun j' a b c => ?_⟩
  · rw [fmI_k _ _ a]
    exact (h.1 k' j' a).1
  · rw [fmI_j _ _ (by omega)]
    exact h.2 j' a b c
theorem xdFr.of3 {M M' : fmM} (h : scFr [(1, 3, 3)] M M') : xdFr M M' := by
  refine ⟨fun k j hk => h k j ?_, fun j a b c => (h 1 j ?_).1⟩
  · have e : ((1 : Nat) == k) = false := by
      rw [beq_eq_false_iff_ne]
      omega
    simp [scIn, e]
  · by_cases h3 : j < 3
    · have e : Nat.ble 3 j = false := by
        cases h9 : Nat.ble 3 j with
        | false => rfl
        | true => exact absurd (Nat.le_of_ble_eq_true h9) (by omega)
      show ((((1 : Nat) == 1) && Nat.ble 3 j && Nat.blt j (3 + 3)) || false) = false
      rw [e]
      rfl
    · have e : Nat.blt j (3 + 3) = false := by
        cases h9 : Nat.blt j (3 + 3) with
        | false => rfl
        | true => exact absurd (Nat.le_of_ble_eq_true h9) (by omega)
      show ((((1 : Nat) == 1) && Nat.ble 3 j && Nat.blt j (3 + 3)) || false) = false
      rw [e, Bool.and_false]
      rfl
theorem xdFr.of1 {M M' : fmM} (h : scFr [(1, 3, 1)] M M') : xdFr M M' := xdFr.of3 (scFr.trans scFr.rfl h (by decide))
/-- a state with a fault stays one, whatever is read -/
theorem xdBad.go {M M1 M2 : fmM} {k a : Nat} (h : xdBad M M1 k a) (h' : scFr [(1, 3, 1)] M1 M2) (hI : scInv Tx invX M2) : xdBad M M2 k a := ⟨by rw [(h' 1 4 rfl).1]; exact h.1, by rw [(h' 1 5 rfl).1]; exact h.2.1, h.2.2.1, h.2.2.2.1.trans (xdFr.of1 h'), hI⟩
theorem xdBad.nz {M M' : fmM} {k a : Nat} (h : xdBad M M' k a) : ¬ M'.1 1 4 = 0 := by
  intro e
  have h1 := h.1
  rw [e] at h1
  have e0 : (0 : Int32).toInt = 0 := by decide
  have := h.2.2.1
  omega
theorem xdBad.f13 {M M' : fmM} {k a : Nat} (h : xdBad M M' k a) : 1 ≤ (M'.1 1 4).toInt ∧ (M'.1 1 4).toInt ≤ 3 := by
  have h9 : 0 ≤ (M'.1 1 4).toInt ∧ (M'.1 1 4).toInt ≤ 3 := h.2.2.2.2.1 1 4 (by decide)
  have h1 := h.1
  have := h.2.2.1
  omega
theorem xI_3 {M : fmM} {x : Int32} {q n : Nat} (hI : scInv Tx invX M) (hx : x.toInt = q) (hq : q ≤ n) (hn : n ≤ 600) : scInv Tx invX (fmI M 1 3 x) := xInv.put hI ⟨by show (0 : Int) ≤ _; omega, by show _ ≤ (600 : Int); omega⟩
theorem xI_45 {M : fmM} {k a : Int32} {kk aa n : Nat} (hI : scInv Tx invX M) (hk : k.toInt = kk) (h3 : kk ≤ 3) (ha : a.toInt = aa) (h6 : aa ≤ n) (hn : n ≤ 600) : scInv Tx invX (fmI (fmI M 1 4 k) 1 5 a) := xInv.put (xInv.put hI ⟨by show (0 : Int) ≤ _; omega, by show _ ≤ (3 : Int); omega⟩) ⟨by show (-1 : Int) ≤ _; omega, by show _ ≤ (600 : Int); omega⟩
theorem xdOk.at {M : fmM} {tx : tX} {n p q : Nat} {x : Int32} (hS : xS2 M tx n p) (hf : M.1 1 4 = 0) (hI : scInv Tx invX M) (hx : x.toInt = q) (hq : q ≤ n) : xdOk M (fmI M 1 3 x) tx n q := ⟨hS.set hx hq, hf, (xdFr.refl M).set (Or.inl rfl), xI_3 hI hx hq hS.2.2.2.1.1⟩
theorem xdBad.at {M : fmM} {tx : tX} {n p q kk aa : Nat} {x k a : Int32} (hS : xS2 M tx n p) (hI : scInv Tx invX M) (hx : x.toInt = q) (hq : q ≤ n) (hk : k.toInt = kk) (h3 : kk ≤ 3) (h0 : kk ≠ 0) (ha : a.toInt = aa) (h6 : aa ≤ n) : xdBad M (fmI (fmI (fmI M 1 3 x) 1 4 k) 1 5 a) kk aa := ⟨hk, ha, h0, (((xdFr.refl M).set (Or.inl rfl)).set (Or.inr (Or.inl rfl))).set (Or.inr (Or.inr rfl)), xI_45 (xI_3 hI hx hq hS.2.2.2.1.1) hk h3 ha h6 hS.2.2.2.1.1⟩
theorem xnm {tx : tX} {q w : Nat} {x v : Int32} (hb : bt x (tx q)) (h255 : tx q ≤ 255) (hd : tD (tx q) = true) (hv : v.toInt = min (w : Int) 1000000) : (pvMx false 1000000 (v * 10 + x - 48)).toInt = min ((10 * w + (tx q - 48).toNat : Nat) : Int) 1000000 := by
  have hd9 := tD_in hd
  have e1 : x.toInt = tx q := by
    rw [hb, if_pos (by omega)]
  have e10 : (10 : Int32).toInt = 10 := by decide
  have e48 : (48 : Int32).toInt = 48 := by decide
  have eM : (1000000 : Int32).toInt = 1000000 := by decide
  have b1 : 0 ≤ v.toInt ∧ v.toInt ≤ 1000000 := by omega
  have m1 : (v * 10).toInt = v.toInt * 10 := by
    rw [sc_mul (by rw [e10]; omega) (by rw [e10]; omega), e10]
  have m2 : (v * 10 + x).toInt = v.toInt * 10 + x.toInt := by rw [sc_add (by omega) (by omega), m1]
  have m3 : (v * 10 + x - 48).toInt = v.toInt * 10 + x.toInt - 48 := by rw [sc_sub (by omega) (by omega), m2, e48]
  show (if (1000000 : Int32).toInt ≤ (v * 10 + x - 48).toInt then (1000000 : Int32) else v * 10 + x - 48).toInt = _
  rw [eM, m3]
  split
  · rw [eM]
    omega
  · rw [m3]
    omega
/-- words, one behind the other, each with a blank behind it -/
def fndF (tx : tX) (s e : Nat) : List Int → Nat → Nat → Bool → Option Nat
  | [], _, _, _ => none
  | c :: cs, w, a, b => if c = 32 then (if b && decide (a = e) then some w else fndF tx s e cs (w + 1) s true) else fndF tx s e cs w (a + 1) (b && decide (a < e) && decide (tx a = c))
def wdI : List (List Int) → List Int → Nat → Option Nat
  | [], _, _ => none
  | w :: ws, u, k => if u = w then some k else wdI ws u (k + 1)
def flat1 : List (List Int) → List Int
  | [] => []
  | w :: ws => w ++ 32 :: flat1 ws
theorem fnd_w {tx : tX} {n s e : Nat} (ht : tOk tx n) : ∀ (u : List Int) (cs : List Int) (w a : Nat), a ≤ e → e ≤ n → sp tW tx a = e → (∀ c ∈ u, ¬ c = 32) → fndF tx s e (u ++ 32 :: cs) w a true = if wd tx a = u then some w else fndF tx s e cs (w + 1) s true := by
  intro u
  have hdead : ∀ (u : List Int) (cs : List Int) (w a : Nat), (∀ c ∈ u, ¬ c = 32) → fndF tx s e (u ++ 32 :: cs) w a false = fndF tx s e cs (w + 1) s true := by
    intro u
    induction u with
    | nil =>
      intro cs w a _
      show (if (32 : Int) = 32 then (if (false && decide (a = e)) then some w else fndF tx s e cs (w + 1) s true) else _) = _
      rw [if_pos rfl, Bool.false_and]
      rfl
    | cons c u ih =>
      intro cs w a hu
      show (if c = 32 then _ else fndF tx s e (u ++ 32 :: cs) w (a + 1) (false && decide (a < e) && decide (tx a = c))) = _
      rw [if_neg (hu c List.mem_cons_self), Bool.false_and, Bool.false_and]
      exact ih cs w (a + 1) (fun c hc => hu c (List.mem_cons_of_mem _ hc))
  induction u with
  | nil =>
    intro cs w a ha hen he _
    show (if (32 : Int) = 32 then (if (true && decide (a = e)) then some w else fndF tx s e cs (w + 1) s true) else _) = _
    rw [if_pos rfl, Bool.true_and]
    by_cases h : a = e
    · have hf : tW (tx a) = false := by
        have h9 := sp_stop (P := tW) (p := a) tW_1 ht (by omega)
        rw [he, ← h] at h9
        exact h9
      rw [wd_f hf, if_pos rfl, if_pos (decide_eq_true h)]
    · have hw : tW (tx a) = true := by
        cases h9 : tW (tx a) with
        | true => rfl
        | false =>
          rw [sp_f h9] at he
          exact absurd he h
      rw [wd_t (by have := ht.1; omega) hw, if_neg (by simp [h]), if_neg (by simp)]
  | cons c u ih =>
    intro cs w a ha hen he hu
    show (if c = 32 then _ else fndF tx s e (u ++ 32 :: cs) w (a + 1) (true && decide (a < e) && decide (tx a = c))) = _
    rw [if_neg (hu c List.mem_cons_self), Bool.true_and]
    have hu' : ∀ c ∈ u, ¬ c = 32 := fun c hc => hu c (List.mem_cons_of_mem _ hc)
    by_cases h : a = e
    · have hf : tW (tx a) = false := by
        have h9 := sp_stop (P := tW) (p := a) tW_1 ht (by omega)
        rw [he, ← h] at h9
        exact h9
      rw [wd_f hf, if_neg (by simp), decide_eq_false (by omega), Bool.false_and]
      exact hdead u cs w (a + 1) hu'
    · have hw : tW (tx a) = true := by
        cases h9 : tW (tx a) with
        | true => rfl
        | false =>
          rw [sp_f h9] at he
          exact absurd he h
      have h700 : a < 700 := by have := ht.1; omega
      rw [wd_t h700 hw, decide_eq_true (show a < e by omega), Bool.true_and]
      by_cases hc : tx a = c
      · rw [decide_eq_true hc, ih cs w (a + 1) (by omega) hen (by rw [← sp_t h700 hw]; exact he) hu']
        by_cases h8 : wd tx (a + 1) = u
        · rw [if_pos h8, if_pos (by rw [hc, h8])]
        · rw [if_neg h8, if_neg (by intro h7; injection h7 with h6 h5; exact h8 h5)]
      · rw [decide_eq_false hc, if_neg (by intro h7; injection h7 with h6 h5; exact hc h6)]
        exact hdead u cs w (a + 1) hu'
theorem fnd_all {tx : tX} {n s e : Nat} (ht : tOk tx n) (hs : s ≤ e) (hen : e ≤ n) (he : sp tW tx s = e) : ∀ (ws : List (List Int)) (w : Nat), (∀ u ∈ ws, ∀ c ∈ u, ¬ c = 32) → fndF tx s e (flat1 ws) w s true = wdI ws (wd tx s) w := by
  intro ws
  induction ws with
  | nil => intro w _; rfl
  | cons u ws ih =>
    intro w hu
    show fndF tx s e (u ++ 32 :: flat1 ws) w s true = _
    rw [fnd_w ht u (flat1 ws) w s hs hen he (hu u List.mem_cons_self)]
    simp only [wdI]
    rw [ih (w + 1) (fun v hv => hu v (List.mem_cons_of_mem _ hv))]
set_option maxRecDepth 20000 in
theorem xpk_loop {Q : fmR → fmM → Prop} {tx : tX} {n : Nat} : ∀ (m : Nat) (M : fmM) (p : Nat), xS2 M tx n p → n - p = m → (∀ x v : Int32, x.toInt = sk tx p → v.toInt = tx (sk tx p) → Q (.inl (some (.int v))) (fmI M 1 3 x)) → pvEv Tx 0 qX7_peek 0 [some (.ref 1)] [] M Q := by
  intro m
  induction m using Nat.strongRecOn with
  | _ m ih =>
    intro M p hS hm hq
    refine pv_aloadn (pc := 0) (n := 0) 0 rfl rfl (fm_dec dtX7_peek 0 rfl) ?_
    refine pv_getI (k := 1) (j := 3) (ci := 7) (pc := 1) pfl_X7_25 (by decide) rfl (by decide) (fm_dec dtX7_peek 1 rfl) ?_
    refine pv_aloadn (pc := 4) (n := 0) 0 rfl rfl (fm_dec dtX7_peek 2 rfl) ?_
    refine pv_getI (k := 1) (j := 2) (ci := 7) (pc := 5) pfl_X7_22 (by decide) rfl (by decide) (fm_dec dtX7_peek 3 rfl) ?_
    refine pv_icmp_ge (pc := 8) 38 (by decide) (fm_dec dtX7_peek 4 rfl) (fun hc8 => ?_) (fun hc8 => ?_)
    · refine pv_aloadn (pc := 38) (n := 0) 0 rfl rfl (fm_dec dtX7_peek 19 rfl) ?_
      refine pv_getI (k := 1) (j := 3) (ci := 7) (pc := 39) pfl_X7_25 (by decide) rfl (by decide) (fm_dec dtX7_peek 20 rfl) ?_
      refine pv_aloadn (pc := 42) (n := 0) 0 rfl rfl (fm_dec dtX7_peek 21 rfl) ?_
      refine pv_getI (k := 1) (j := 2) (ci := 7) (pc := 43) pfl_X7_22 (by decide) rfl (by decide) (fm_dec dtX7_peek 22 rfl) ?_
      refine pv_icmp_ge (pc := 46) 65 (by decide) (fm_dec dtX7_peek 23 rfl) (fun _ => ?_) (fun hc46 => by exfalso; exact hc46 hc8)
      refine pv_iconst (pc := 65) (v := (-1)) (by decide) (fm_dec dtX7_peek 32 rfl) ?_
      exact pv_ireturn (pc := 66) rfl (fm_dec dtX7_peek 33 rfl) (by have e9 := hS.ge hc8; subst e9; have h9 := hq (M.1 1 3) (-1) (by rw [hS.2.1]; unfold sk; rw [sp_f (by rw [hS.2.2.2.1.2.1 p (Nat.le_refl _)]; exact tB_1)]) (by unfold sk; rw [sp_f (by rw [hS.2.2.2.1.2.1 p (Nat.le_refl _)]; exact tB_1), hS.2.2.2.1.2.1 p (Nat.le_refl _)]; decide); rw [fmI_id] at h9; exact h9)
    · refine pv_aloadn (pc := 11) (n := 0) 0 rfl rfl (fm_dec dtX7_peek 5 rfl) ?_
      refine pv_getR (k := 1) (j := 0) (ci := 7) (pc := 12) 2 rfl (by decide) pfl_X7_9 (by decide) rfl (by decide) (fm_dec dtX7_peek 6 rfl) ?_
      refine pv_aloadn (pc := 15) (n := 0) 0 rfl rfl (fm_dec dtX7_peek 7 rfl) ?_
      refine pv_getI (k := 1) (j := 3) (ci := 7) (pc := 16) pfl_X7_25 (by decide) rfl (by decide) (fm_dec dtX7_peek 8 rfl) ?_
      refine pv_bald (k := 2) (n := 600) (pc := 19) (by decide) rfl rfl (hS.inb (hS.lt hc8)) (fm_dec dtX7_peek 9 rfl) ?_
      refine pv_bipush (pc := 20) (v := 32) (by decide) (fm_dec dtX7_peek 10 rfl) ?_
      refine pv_icmp_ne (pc := 22) 38 (by decide) (fm_dec dtX7_peek 11 rfl) (fun hc22 => ?_) (fun hc22 => ?_)
      · refine pv_aloadn (pc := 38) (n := 0) 0 rfl rfl (fm_dec dtX7_peek 19 rfl) ?_
        refine pv_getI (k := 1) (j := 3) (ci := 7) (pc := 39) pfl_X7_25 (by decide) rfl (by decide) (fm_dec dtX7_peek 20 rfl) ?_
        refine pv_aloadn (pc := 42) (n := 0) 0 rfl rfl (fm_dec dtX7_peek 21 rfl) ?_
        refine pv_getI (k := 1) (j := 2) (ci := 7) (pc := 43) pfl_X7_22 (by decide) rfl (by decide) (fm_dec dtX7_peek 22 rfl) ?_
        refine pv_icmp_ge (pc := 46) 65 (by decide) (fm_dec dtX7_peek 23 rfl) (fun hc46 => by exfalso; exact hc8 hc46) (fun _ => ?_)
        refine pv_aloadn (pc := 49) (n := 0) 0 rfl rfl (fm_dec dtX7_peek 24 rfl) ?_
        refine pv_getR (k := 1) (j := 0) (ci := 7) (pc := 50) 2 rfl (by decide) pfl_X7_9 (by decide) rfl (by decide) (fm_dec dtX7_peek 25 rfl) ?_
        refine pv_aloadn (pc := 53) (n := 0) 0 rfl rfl (fm_dec dtX7_peek 26 rfl) ?_
        refine pv_getI (k := 1) (j := 3) (ci := 7) (pc := 54) pfl_X7_25 (by decide) rfl (by decide) (fm_dec dtX7_peek 27 rfl) ?_
        refine pv_bald (k := 2) (n := 600) (pc := 57) (by decide) rfl rfl (hS.inb (hS.lt hc8)) (fm_dec dtX7_peek 28 rfl) ?_
        refine pv_sipush (pc := 58) (v := 255) (by decide) (fm_dec dtX7_peek 29 rfl) ?_
        refine pv_iand (pc := 61) (fm_dec dtX7_peek 30 rfl) ?_
        refine pv_goto (pc := 62) 66 (by decide) (fm_dec dtX7_peek 31 rfl) ?_
        exact pv_ireturn (pc := 66) rfl (fm_dec dtX7_peek 33 rfl) (by have hp := hS.lt hc8; have hb := hS.byte hp; have hB : tB (tx p) = false := (by rw [hb.1.B hb.2.2]; exact decide_eq_false hc22); have h9 := hq (M.1 1 3) _ (by rw [hS.2.1]; unfold sk; rw [sp_f hB]) (by unfold sk; rw [sp_f hB]; exact hb.1.and hb.2.1 hb.2.2); rw [fmI_id] at h9; exact h9)
      · refine pv_aloadn (pc := 25) (n := 0) 0 rfl rfl (fm_dec dtX7_peek 12 rfl) ?_
        refine pv_dup (pc := 26) rfl (fm_dec dtX7_peek 13 rfl) ?_
        refine pv_getI (k := 1) (j := 3) (ci := 7) (pc := 27) pfl_X7_25 (by decide) rfl (by decide) (fm_dec dtX7_peek 14 rfl) ?_
        refine pv_iconst (pc := 30) (v := 1) (by decide) (fm_dec dtX7_peek 15 rfl) ?_
        refine pv_iadd (pc := 31) (fm_dec dtX7_peek 16 rfl) ?_
        refine pv_putI (k := 1) (j := 3) (ci := 7) (pc := 32) pfl_X7_25 (by decide) rfl (by decide) (fm_dec dtX7_peek 17 rfl) ?_
        refine pv_goto (pc := 35) 0 (by decide) (fm_dec dtX7_peek 18 rfl) ?_
        have hp := hS.lt hc8
        have hb := hS.byte hp
        have hB : tB (tx p) = true := (by rw [hb.1.B hb.2.2]; exact decide_eq_true hc22)
        have h700 : p < 700 := (by have := hS.2.2.2.1.1; omega)
        refine ih (n - (p + 1)) (by omega) _ (p + 1) (hS.set (i32_p1 hS.2.1 (by omega)) hp) rfl (fun x v hx hv => ?_)
        rw [fmI_fmI]
        exact hq x v (by unfold sk at hx ⊢; rw [sp_t h700 hB]; exact hx) (by unfold sk at hv ⊢; rw [sp_t h700 hB]; exact hv)
theorem c_xpeek {M : fmM} {Q : fmR → fmM → Prop} {tx : tX} {n p : Nat} (hS : xS2 M tx n p) (hq : ∀ x v : Int32, x.toInt = sk tx p → v.toInt = tx (sk tx p) → Q (.inl (some (.int v))) (fmI M 1 3 x)) : pvGood Tx 0 qX7_peek [.ref 1] M Q := pvGood_of (Nat.le_of_ble_eq_true rfl) (xpk_loop _ M p hS rfl hq)
theorem x_peek {M : fmM} {Q : fmR → fmM → Prop} {tx : tX} {n p : Nat} (hS : xS2 M tx n p) (hf : M.1 1 4 = 0) (hI : scInv Tx invX M) (hq : ∀ (M' : fmM) (v : Int32), v.toInt = tx (sk tx p) → xdOk M M' tx n (sk tx p) → Q (.inl (some (.int v))) M') : pvGood Tx 0 qX7_peek [.ref 1] M Q := c_xpeek hS (fun x v hx hv => hq _ v hv (xdOk.at hS hf hI hx (sp_le tB_1 hS.2.2.2.1 hS.2.2.1)))
set_option maxRecDepth 20000 in
theorem c_xnext {M : fmM} {Q : fmR → fmM → Prop} {tx : tX} {n p : Nat} (hS : xS2 M tx n p) (hq : ∀ x : Int32, x.toInt = sk tx p → Q (.inl (some (.int x))) (fmI M 1 3 x)) : pvGood Tx 1 qX7_nextPlace [.ref 1] M Q := by
  refine pvGood_of (Nat.le_of_ble_eq_true rfl) ?_
  show pvEv Tx 1 qX7_nextPlace 0 [some (.ref 1)] [] M Q
  refine pv_aloadn (pc := 0) (n := 0) 0 rfl rfl (fm_dec dtX7_nextPlace 0 rfl) ?_
  refine pv_invV0 (k := 1) (d' := 0) (pc := 1) pcv_X7_31 (by decide) rfl (Nat.le_of_ble_eq_true rfl) (by decide) (fm_dec dtX7_nextPlace 1 rfl) ?_
  refine c_xpeek hS (fun x1 v1 hx1 hv1 => ?_)
  refine pv_then1 ?_
  refine pv_pop (pc := 4) rfl (fm_dec dtX7_nextPlace 2 rfl) ?_
  refine pv_aloadn (pc := 5) (n := 0) 0 rfl rfl (fm_dec dtX7_nextPlace 3 rfl) ?_
  refine pv_getI (k := 1) (j := 3) (ci := 7) (pc := 6) pfl_X7_25 (by decide) rfl (by decide) (fm_dec dtX7_nextPlace 4 rfl) ?_
  exact pv_ireturn (pc := 9) rfl (fm_dec dtX7_nextPlace 5 rfl) (hq x1 hx1)
theorem x_next {M : fmM} {Q : fmR → fmM → Prop} {tx : tX} {n p : Nat} (hS : xS2 M tx n p) (hf : M.1 1 4 = 0) (hI : scInv Tx invX M) (hq : ∀ (M' : fmM) (x : Int32), x.toInt = sk tx p → xdOk M M' tx n (sk tx p) → Q (.inl (some (.int x))) M') : pvGood Tx 1 qX7_nextPlace [.ref 1] M Q := c_xnext hS (fun x hx => hq _ x hx (xdOk.at hS hf hI hx (sp_le tB_1 hS.2.2.2.1 hS.2.2.1)))
set_option maxRecDepth 20000 in
theorem c_xfail0 {M : fmM} {Q : fmR → fmM → Prop} {k a : Int32} (hf : M.1 1 4 = 0) (hq : Q (.inl (some (.int 0))) (fmI (fmI M 1 4 k) 1 5 a)) : pvGood Tx 0 qX7_fail [.ref 1, .int k, .int a] M Q := by
  refine pvGood_of (Nat.le_of_ble_eq_true rfl) ?_
  show pvEv Tx 0 qX7_fail 0 [some (.ref 1), some (.int k), some (.int a)] [] M Q
  refine pv_aloadn (pc := 0) (n := 0) 0 rfl rfl (fm_dec dtX7_fail 0 rfl) ?_
  refine pv_getI (k := 1) (j := 4) (ci := 7) (pc := 1) pfl_X7_28 (by decide) rfl (by decide) (fm_dec dtX7_fail 1 rfl) ?_
  refine pv_if_ne (pc := 4) 17 (by decide) (fm_dec dtX7_fail 2 rfl) (fun hc4 => by exfalso; exact hc4 hf) (fun _ => ?_)
  refine pv_aloadn (pc := 7) (n := 0) 0 rfl rfl (fm_dec dtX7_fail 3 rfl) ?_
  refine pv_iloadn (pc := 8) (n := 1) 1 rfl rfl (fm_dec dtX7_fail 4 rfl) ?_
  refine pv_putI (k := 1) (j := 4) (ci := 7) (pc := 9) pfl_X7_28 (by decide) rfl (by decide) (fm_dec dtX7_fail 5 rfl) ?_
  refine pv_aloadn (pc := 12) (n := 0) 0 rfl rfl (fm_dec dtX7_fail 6 rfl) ?_
  refine pv_iloadn (pc := 13) (n := 2) 2 rfl rfl (fm_dec dtX7_fail 7 rfl) ?_
  refine pv_putI (k := 1) (j := 5) (ci := 7) (pc := 14) pfl_X7_15 (by decide) rfl (by decide) (fm_dec dtX7_fail 8 rfl) ?_
  refine pv_iconst (pc := 17) (v := 0) (by decide) (fm_dec dtX7_fail 9 rfl) ?_
  exact pv_zreturn (pc := 18) rfl (by first | exact Or.inr rfl | exact Or.inl rfl) (fm_dec dtX7_fail 10 rfl) hq
set_option maxRecDepth 20000 in
theorem c_xfail1 {M : fmM} {Q : fmR → fmM → Prop} {k a : Int32} (hf : ¬ M.1 1 4 = 0) (hq : Q (.inl (some (.int 0))) M) : pvGood Tx 0 qX7_fail [.ref 1, .int k, .int a] M Q := by
  refine pvGood_of (Nat.le_of_ble_eq_true rfl) ?_
  show pvEv Tx 0 qX7_fail 0 [some (.ref 1), some (.int k), some (.int a)] [] M Q
  refine pv_aloadn (pc := 0) (n := 0) 0 rfl rfl (fm_dec dtX7_fail 0 rfl) ?_
  refine pv_getI (k := 1) (j := 4) (ci := 7) (pc := 1) pfl_X7_28 (by decide) rfl (by decide) (fm_dec dtX7_fail 1 rfl) ?_
  refine pv_if_ne (pc := 4) 17 (by decide) (fm_dec dtX7_fail 2 rfl) (fun _ => ?_) (fun hc4 => by exfalso; exact hf hc4)
  refine pv_iconst (pc := 17) (v := 0) (by decide) (fm_dec dtX7_fail 9 rfl) ?_
  exact pv_zreturn (pc := 18) rfl (by first | exact Or.inr rfl | exact Or.inl rfl) (fm_dec dtX7_fail 10 rfl) hq
set_option maxRecDepth 20000 in
theorem c_xfailed {M : fmM} {Q : fmR → fmM → Prop}  (h0 : M.1 1 4 = 0 → Q (.inl (some (.int 0))) M) (h1 : ¬ M.1 1 4 = 0 → Q (.inl (some (.int 1))) M) : pvGood Tx 0 qX7_failed [.ref 1] M Q := by
  refine pvGood_of (Nat.le_of_ble_eq_true rfl) ?_
  show pvEv Tx 0 qX7_failed 0 [some (.ref 1)] [] M Q
  refine pv_aloadn (pc := 0) (n := 0) 0 rfl rfl (fm_dec dtX7_failed 0 rfl) ?_
  refine pv_getI (k := 1) (j := 4) (ci := 7) (pc := 1) pfl_X7_28 (by decide) rfl (by decide) (fm_dec dtX7_failed 1 rfl) ?_
  refine pv_if_eq (pc := 4) 11 (by decide) (fm_dec dtX7_failed 2 rfl) (fun hc4 => ?_) (fun hc4 => ?_)
  · refine pv_iconst (pc := 11) (v := 0) (by decide) (fm_dec dtX7_failed 5 rfl) ?_
    exact pv_zreturn (pc := 12) rfl (by first | exact Or.inr rfl | exact Or.inl rfl) (fm_dec dtX7_failed 6 rfl) (by first | exact h0 hc4 | exact h1 hc4)
  · refine pv_iconst (pc := 7) (v := 1) (by decide) (fm_dec dtX7_failed 3 rfl) ?_
    refine pv_goto (pc := 8) 12 (by decide) (fm_dec dtX7_failed 4 rfl) ?_
    exact pv_zreturn (pc := 12) rfl (by first | exact Or.inr rfl | exact Or.inl rfl) (fm_dec dtX7_failed 6 rfl) (by first | exact h0 hc4 | exact h1 hc4)
set_option maxRecDepth 20000 in
theorem x_sign {M : fmM} {Q : fmR → fmM → Prop} {tx : tX} {n p : Nat} {c : Int32} (hc : 0 ≤ c.toInt) (hS : xS2 M tx n p) (hf : M.1 1 4 = 0) (hI : scInv Tx invX M) (hok : ∀ (M' : fmM) (q : Nat), spSign tx c.toInt p = .inr ((), q) → xdOk M M' tx n q → Q (.inl (some (.int 1))) M') (hbad : ∀ (M' : fmM) (k a : Nat), spSign tx c.toInt p = .inl (k, a) → xdBad M M' k a → Q (.inl (some (.int 0))) M') : pvGood Tx 1 qX7_takeSign [.ref 1, .int c] M Q := by
  refine pvGood_of (Nat.le_of_ble_eq_true rfl) ?_
  show pvEv Tx 1 qX7_takeSign 0 [some (.ref 1), some (.int c)] [] M Q
  refine pv_aloadn (pc := 0) (n := 0) 0 rfl rfl (fm_dec dtX7_takeSign 0 rfl) ?_
  refine pv_invV0 (k := 1) (d' := 0) (pc := 1) pcv_X7_31 (by decide) rfl (Nat.le_of_ble_eq_true rfl) (by decide) (fm_dec dtX7_takeSign 1 rfl) ?_
  refine c_xpeek hS (fun x1 v1 hx1 hv1 => ?_)
  refine pv_then1 ?_
  refine pv_iloadn (pc := 4) (n := 1) 1 rfl rfl (fm_dec dtX7_takeSign 2 rfl) ?_
  refine pv_icmp_eq (pc := 5) 18 (by decide) (fm_dec dtX7_takeSign 3 rfl) (fun hc5 => ?_) (fun hc5 => ?_)
  · refine pv_aloadn (pc := 18) (n := 0) 0 rfl rfl (fm_dec dtX7_takeSign 10 rfl) ?_
    refine pv_dup (pc := 19) rfl (fm_dec dtX7_takeSign 11 rfl) ?_
    refine pv_getI (k := 1) (j := 3) (ci := 7) (pc := 20) pfl_X7_25 (by decide) rfl (by decide) (fm_dec dtX7_takeSign 12 rfl) ?_
    refine pv_iconst (pc := 23) (v := 1) (by decide) (fm_dec dtX7_takeSign 13 rfl) ?_
    refine pv_iadd (pc := 24) (fm_dec dtX7_takeSign 14 rfl) ?_
    refine pv_putI (k := 1) (j := 3) (ci := 7) (pc := 25) pfl_X7_25 (by decide) rfl (by decide) (fm_dec dtX7_takeSign 15 rfl) ?_
    refine pv_iconst (pc := 28) (v := 1) (by decide) (fm_dec dtX7_takeSign 16 rfl) ?_
    exact pv_zreturn (pc := 29) rfl (by first | exact Or.inr rfl | exact Or.inl rfl) (fm_dec dtX7_takeSign 17 rfl) (by rw [fmI_fmI]; have e9 : spSign tx c.toInt p = .inr ((), sk tx p + 1) := (by unfold spSign; rw [if_pos (by rw [← hv1, hc5])]); exact hok _ _ e9 (xdOk.at hS hf hI (i32_p1 hx1 (by have := hS.2.2.2.1.1; have := (sp_le tB_1 hS.2.2.2.1 hS.2.2.1); unfold sk; omega)) (spSign_ok hS.2.2.2.1 hS.2.2.1 hc e9).2))
  · refine pv_aloadn (pc := 8) (n := 0) 0 rfl rfl (fm_dec dtX7_takeSign 4 rfl) ?_
    refine pv_iconst (pc := 9) (v := 1) (by decide) (fm_dec dtX7_takeSign 5 rfl) ?_
    refine pv_aloadn (pc := 10) (n := 0) 0 rfl rfl (fm_dec dtX7_takeSign 6 rfl) ?_
    refine pv_getI (k := 1) (j := 3) (ci := 7) (pc := 11) pfl_X7_25 (by decide) rfl (by decide) (fm_dec dtX7_takeSign 7 rfl) ?_
    refine pv_invV2 (k := 1) (d' := 0) (pc := 14) pcv_X7_35 (by decide) rfl (Nat.le_of_ble_eq_true rfl) (by decide) (fm_dec dtX7_takeSign 8 rfl) ?_
    refine c_xfail0 hf ?_
    refine pv_then1 ?_
    exact pv_zreturn (pc := 17) rfl (by first | exact Or.inr rfl | exact Or.inl rfl) (fm_dec dtX7_takeSign 9 rfl) (by have e9 : spSign tx c.toInt p = .inl (1, sk tx p) := (by unfold spSign; rw [if_neg (fun h9 => hc5 (i32_ext (hv1.trans h9)))]); exact hbad _ _ _ e9 (xdBad.at hS hI hx1 (sp_le tB_1 hS.2.2.2.1 hS.2.2.1) (by decide) (by decide) (by decide) hx1 (sp_le tB_1 hS.2.2.2.1 hS.2.2.1)))
set_option maxRecDepth 20000 in
theorem xn_loop {Q : fmR → fmM → Prop} {tx : tX} {n : Nat} {lo hi st : Int32} : ∀ (m : Nat) (M : fmM) (q : Nat) (v : Int32) (w : Nat), xS2 M tx n q → n - q = m → v.toInt = min (w : Int) 1000000 → (∀ x v' : Int32, x.toInt = sp tD tx q → v'.toInt = min (nu tx q w : Int) 1000000 → pvEv Tx 2 qX7_takeNumber 85 [some (.ref 1), some (.int lo), some (.int hi), some (.int st), some (.int v')] [] (fmI M 1 3 x) Q) → pvEv Tx 2 qX7_takeNumber 8 [some (.ref 1), some (.int lo), some (.int hi), some (.int st), some (.int v)] [] M Q := by
  intro m
  induction m using Nat.strongRecOn with
  | _ m ih =>
    intro M q v w hS hm hv hq
    refine pv_aloadn (pc := 8) (n := 0) 0 rfl rfl (fm_dec dtX7_takeNumber 5 rfl) ?_
    refine pv_getI (k := 1) (j := 3) (ci := 7) (pc := 9) pfl_X7_25 (by decide) rfl (by decide) (fm_dec dtX7_takeNumber 6 rfl) ?_
    refine pv_aloadn (pc := 12) (n := 0) 0 rfl rfl (fm_dec dtX7_takeNumber 7 rfl) ?_
    refine pv_getI (k := 1) (j := 2) (ci := 7) (pc := 13) pfl_X7_22 (by decide) rfl (by decide) (fm_dec dtX7_takeNumber 8 rfl) ?_
    refine pv_icmp_ge (pc := 16) 85 (by decide) (fm_dec dtX7_takeNumber 9 rfl) (fun hc16 => ?_) (fun hc16 => ?_)
    · have hD : tD (tx q) = false := (by have e9 := hS.ge hc16; subst e9; rw [hS.2.2.2.1.2.1 q (Nat.le_refl _)]; exact tD_1)
      have h9 := hq (M.1 1 3) v (by rw [hS.2.1, sp_f hD]) (by rw [nu_f hD]; exact hv)
      rw [fmI_id] at h9
      exact h9
    · refine pv_aloadn (pc := 19) (n := 0) 0 rfl rfl (fm_dec dtX7_takeNumber 10 rfl) ?_
      refine pv_getR (k := 1) (j := 0) (ci := 7) (pc := 20) 2 rfl (by decide) pfl_X7_9 (by decide) rfl (by decide) (fm_dec dtX7_takeNumber 11 rfl) ?_
      refine pv_aloadn (pc := 23) (n := 0) 0 rfl rfl (fm_dec dtX7_takeNumber 12 rfl) ?_
      refine pv_getI (k := 1) (j := 3) (ci := 7) (pc := 24) pfl_X7_25 (by decide) rfl (by decide) (fm_dec dtX7_takeNumber 13 rfl) ?_
      refine pv_bald (k := 2) (n := 600) (pc := 27) (by decide) rfl rfl (hS.inb (hS.lt hc16)) (fm_dec dtX7_takeNumber 14 rfl) ?_
      refine pv_bipush (pc := 28) (v := 48) (by decide) (fm_dec dtX7_takeNumber 15 rfl) ?_
      refine pv_icmp_lt (pc := 30) 85 (by decide) (fm_dec dtX7_takeNumber 16 rfl) (fun hc30 => ?_) (fun hc30 => ?_)
      · have hD : tD (tx q) = false := (by have hb := hS.byte (hS.lt hc16); rw [hb.1.D hb.2.2]; exact tD_f (Or.inl hc30))
        have h9 := hq (M.1 1 3) v (by rw [hS.2.1, sp_f hD]) (by rw [nu_f hD]; exact hv)
        rw [fmI_id] at h9
        exact h9
      · refine pv_aloadn (pc := 33) (n := 0) 0 rfl rfl (fm_dec dtX7_takeNumber 17 rfl) ?_
        refine pv_getR (k := 1) (j := 0) (ci := 7) (pc := 34) 2 rfl (by decide) pfl_X7_9 (by decide) rfl (by decide) (fm_dec dtX7_takeNumber 18 rfl) ?_
        refine pv_aloadn (pc := 37) (n := 0) 0 rfl rfl (fm_dec dtX7_takeNumber 19 rfl) ?_
        refine pv_getI (k := 1) (j := 3) (ci := 7) (pc := 38) pfl_X7_25 (by decide) rfl (by decide) (fm_dec dtX7_takeNumber 20 rfl) ?_
        refine pv_bald (k := 2) (n := 600) (pc := 41) (by decide) rfl rfl (hS.inb (hS.lt hc16)) (fm_dec dtX7_takeNumber 21 rfl) ?_
        refine pv_bipush (pc := 42) (v := 57) (by decide) (fm_dec dtX7_takeNumber 22 rfl) ?_
        refine pv_icmp_gt (pc := 44) 85 (by decide) (fm_dec dtX7_takeNumber 23 rfl) (fun hc44 => ?_) (fun hc44 => ?_)
        · have hD : tD (tx q) = false := (by have hb := hS.byte (hS.lt hc16); rw [hb.1.D hb.2.2]; exact tD_f (Or.inr hc44))
          have h9 := hq (M.1 1 3) v (by rw [hS.2.1, sp_f hD]) (by rw [nu_f hD]; exact hv)
          rw [fmI_id] at h9
          exact h9
        · refine pv_ldc (pc := 47) pkc_X7_42 (fm_dec dtX7_takeNumber 24 rfl) ?_
          refine pv_iload (pc := 49) (i := 4) rfl (fm_dec dtX7_takeNumber 25 rfl) ?_
          refine pv_bipush (pc := 51) (v := 10) (by decide) (fm_dec dtX7_takeNumber 26 rfl) ?_
          refine pv_imul (pc := 53) (fm_dec dtX7_takeNumber 27 rfl) ?_
          refine pv_aloadn (pc := 54) (n := 0) 0 rfl rfl (fm_dec dtX7_takeNumber 28 rfl) ?_
          refine pv_getR (k := 1) (j := 0) (ci := 7) (pc := 55) 2 rfl (by decide) pfl_X7_9 (by decide) rfl (by decide) (fm_dec dtX7_takeNumber 29 rfl) ?_
          refine pv_aloadn (pc := 58) (n := 0) 0 rfl rfl (fm_dec dtX7_takeNumber 30 rfl) ?_
          refine pv_getI (k := 1) (j := 3) (ci := 7) (pc := 59) pfl_X7_25 (by decide) rfl (by decide) (fm_dec dtX7_takeNumber 31 rfl) ?_
          refine pv_bald (k := 2) (n := 600) (pc := 62) (by decide) rfl rfl (hS.inb (hS.lt hc16)) (fm_dec dtX7_takeNumber 32 rfl) ?_
          refine pv_iadd (pc := 63) (fm_dec dtX7_takeNumber 33 rfl) ?_
          refine pv_bipush (pc := 64) (v := 48) (by decide) (fm_dec dtX7_takeNumber 34 rfl) ?_
          refine pv_isub (pc := 66) (fm_dec dtX7_takeNumber 35 rfl) ?_
          refine pv_mm (pc := 67) pmm_X7_43 (by decide) (Nat.le_of_ble_eq_true rfl) (fm_dec dtX7_takeNumber 36 rfl) ?_
          refine pv_istore (pc := 70) (i := 4) (by decide) rfl (fm_dec dtX7_takeNumber 37 rfl) ?_
          dsimp only [List.set_cons_zero, List.set_cons_succ]
          refine pv_aloadn (pc := 72) (n := 0) 0 rfl rfl (fm_dec dtX7_takeNumber 38 rfl) ?_
          refine pv_dup (pc := 73) rfl (fm_dec dtX7_takeNumber 39 rfl) ?_
          refine pv_getI (k := 1) (j := 3) (ci := 7) (pc := 74) pfl_X7_25 (by decide) rfl (by decide) (fm_dec dtX7_takeNumber 40 rfl) ?_
          refine pv_iconst (pc := 77) (v := 1) (by decide) (fm_dec dtX7_takeNumber 41 rfl) ?_
          refine pv_iadd (pc := 78) (fm_dec dtX7_takeNumber 42 rfl) ?_
          refine pv_putI (k := 1) (j := 3) (ci := 7) (pc := 79) pfl_X7_25 (by decide) rfl (by decide) (fm_dec dtX7_takeNumber 43 rfl) ?_
          refine pv_goto (pc := 82) 8 (by decide) (fm_dec dtX7_takeNumber 44 rfl) ?_
          have hp := hS.lt hc16
          have hb := hS.byte hp
          have hD : tD (tx q) = true := (by rw [hb.1.D hb.2.2]; exact tD_t hc30 hc44)
          have h700 : q < 700 := (by have := hS.2.2.2.1.1; omega)
          refine ih (n - (q + 1)) (by omega) _ (q + 1) _ (10 * w + (tx q - 48).toNat) (hS.set (i32_p1 hS.2.1 (by omega)) hp) rfl (xnm hb.1 hb.2.2 hD hv) (fun x v' hx hv' => ?_)
          rw [fmI_fmI]
          exact hq x v' (by rw [sp_t h700 hD]; exact hx) (by rw [nu_t h700 hD]; exact hv')
theorem dg1 {tx : tX} {q : Nat} {x y : Int32} (hx : x.toInt = sp tD tx q) (hy : y.toInt = q) (h : ¬ x = y) (_ : True) : tD (tx q) = true := by
  cases h9 : tD (tx q) with
  | true => rfl
  | false =>
    rw [sp_f h9] at hx
    exact absurd (i32_ext (hx.trans hy.symm)) h
theorem dg0 {M : fmM} {tx : tX} {n p q : Nat} {x y : Int32} (hx : x.toInt = sp tD tx q) (hy : y.toInt = q) (h : x = y) (hS : xS2 M tx n p) (hq : q < 700) : tD (tx q) = false := by
  cases h9 : tD (tx q) with
  | false => rfl
  | true =>
    have h8 := sp_gt hq h9
    rw [h, hy] at hx
    omega
set_option maxRecDepth 20000 in
theorem x_num {M : fmM} {Q : fmR → fmM → Prop} {tx : tX} {n p : Nat} {lo hi : Int32} (h9hi : hi.toInt < 1000000) (hS : xS2 M tx n p) (hf : M.1 1 4 = 0) (hI : scInv Tx invX M) (hok : ∀ (M' : fmM) (v q : Nat) (w : Int32), spNum tx lo.toInt hi.toInt p = .inr (v, q) → w.toInt = v → xdOk M M' tx n q → Q (.inl (some (.int w))) M') (hbad : ∀ (M' : fmM) (k a : Nat), spNum tx lo.toInt hi.toInt p = .inl (k, a) → xdBad M M' k a → Q (.inl (some (.int (-1)))) M') : pvGood Tx 2 qX7_takeNumber [.ref 1, .int lo, .int hi] M Q := by
  refine pvGood_of (Nat.le_of_ble_eq_true rfl) ?_
  show pvEv Tx 2 qX7_takeNumber 0 [some (.ref 1), some (.int lo), some (.int hi), none, none] [] M Q
  refine pv_aloadn (pc := 0) (n := 0) 0 rfl rfl (fm_dec dtX7_takeNumber 0 rfl) ?_
  refine pv_invV0 (k := 1) (d' := 1) (pc := 1) pcv_X7_39 (by decide) rfl (Nat.le_of_ble_eq_true rfl) (by decide) (fm_dec dtX7_takeNumber 1 rfl) ?_
  refine c_xnext hS (fun x1 hx1 => ?_)
  refine pv_then1 ?_
  refine pv_istoren (pc := 4) (n := 3) 3 rfl (by decide) rfl (fm_dec dtX7_takeNumber 2 rfl) ?_
  dsimp only [List.set_cons_zero, List.set_cons_succ]
  refine pv_iconst (pc := 5) (v := 0) (by decide) (fm_dec dtX7_takeNumber 3 rfl) ?_
  refine pv_istore (pc := 6) (i := 4) (by decide) rfl (fm_dec dtX7_takeNumber 4 rfl) ?_
  dsimp only [List.set_cons_zero, List.set_cons_succ]
  have hsk : sk tx p ≤ n := (sp_le tB_1 hS.2.2.2.1 hS.2.2.1)
  have hsd : sp tD tx (sk tx p) ≤ n := sp_le tD_1 hS.2.2.2.1 hsk
  have h700 : sk tx p < 700 := (by have := hS.2.2.2.1.1; omega)
  refine xn_loop _ _ (sk tx p) _ 0 (hS.bl hx1) rfl (by decide) (fun x85 w85 hx85 hw85 => ?_)
  rw [fmI_fmI]
  refine pv_aloadn (pc := 85) (n := 0) 0 rfl rfl (fm_dec dtX7_takeNumber 45 rfl) ?_
  refine pv_getI (k := 1) (j := 3) (ci := 7) (pc := 86) pfl_X7_25 (by decide) rfl (by decide) (fm_dec dtX7_takeNumber 46 rfl) ?_
  refine pv_iloadn (pc := 89) (n := 3) 3 rfl rfl (fm_dec dtX7_takeNumber 47 rfl) ?_
  refine pv_icmp_ne (pc := 90) 102 (by decide) (fm_dec dtX7_takeNumber 48 rfl) (fun hc90 => ?_) (fun hc90 => ?_)
  · refine pv_iload (pc := 102) (i := 4) rfl (fm_dec dtX7_takeNumber 56 rfl) ?_
    refine pv_iloadn (pc := 104) (n := 1) 1 rfl rfl (fm_dec dtX7_takeNumber 57 rfl) ?_
    refine pv_icmp_lt (pc := 105) 114 (by decide) (fm_dec dtX7_takeNumber 58 rfl) (fun hc105 => ?_) (fun hc105 => ?_)
    · refine pv_aloadn (pc := 114) (n := 0) 0 rfl rfl (fm_dec dtX7_takeNumber 62 rfl) ?_
      refine pv_iconst (pc := 115) (v := 2) (by decide) (fm_dec dtX7_takeNumber 63 rfl) ?_
      refine pv_iloadn (pc := 116) (n := 3) 3 rfl rfl (fm_dec dtX7_takeNumber 64 rfl) ?_
      refine pv_invV2 (k := 1) (d' := 0) (pc := 117) pcv_X7_35 (by decide) rfl (Nat.le_of_ble_eq_true rfl) (by decide) (fm_dec dtX7_takeNumber 65 rfl) ?_
      refine c_xfail0 hf ?_
      refine pv_then1 ?_
      refine pv_pop (pc := 120) rfl (fm_dec dtX7_takeNumber 66 rfl) ?_
      refine pv_iconst (pc := 121) (v := (-1)) (by decide) (fm_dec dtX7_takeNumber 67 rfl) ?_
      exact pv_ireturn (pc := 122) rfl (fm_dec dtX7_takeNumber 68 rfl) (hbad _ 2 (sk tx p) (spNum_n (dg1 hx85 hx1 hc90 trivial) (by intro h9; rw [sc_lt] at hc105; omega)) (xdBad.at hS hI hx85 hsd (by decide) (by decide) (by decide) hx1 hsk))
    · refine pv_iload (pc := 108) (i := 4) rfl (fm_dec dtX7_takeNumber 59 rfl) ?_
      refine pv_iloadn (pc := 110) (n := 2) 2 rfl rfl (fm_dec dtX7_takeNumber 60 rfl) ?_
      refine pv_icmp_le (pc := 111) 123 (by decide) (fm_dec dtX7_takeNumber 61 rfl) (fun hc111 => ?_) (fun hc111 => ?_)
      · refine pv_iload (pc := 123) (i := 4) rfl (fm_dec dtX7_takeNumber 69 rfl) ?_
        exact pv_ireturn (pc := 125) rfl (fm_dec dtX7_takeNumber 70 rfl) (hok _ (nu tx (sk tx p) 0) (sp tD tx (sk tx p)) w85 (spNum_y (dg1 hx85 hx1 hc90 trivial) (by rw [sc_lt] at hc105; omega) (by rw [sc_le] at hc111; omega)) (by rw [sc_le] at hc111; omega) (xdOk.at hS hf hI hx85 hsd))
      · refine pv_aloadn (pc := 114) (n := 0) 0 rfl rfl (fm_dec dtX7_takeNumber 62 rfl) ?_
        refine pv_iconst (pc := 115) (v := 2) (by decide) (fm_dec dtX7_takeNumber 63 rfl) ?_
        refine pv_iloadn (pc := 116) (n := 3) 3 rfl rfl (fm_dec dtX7_takeNumber 64 rfl) ?_
        refine pv_invV2 (k := 1) (d' := 0) (pc := 117) pcv_X7_35 (by decide) rfl (Nat.le_of_ble_eq_true rfl) (by decide) (fm_dec dtX7_takeNumber 65 rfl) ?_
        refine c_xfail0 hf ?_
        refine pv_then1 ?_
        refine pv_pop (pc := 120) rfl (fm_dec dtX7_takeNumber 66 rfl) ?_
        refine pv_iconst (pc := 121) (v := (-1)) (by decide) (fm_dec dtX7_takeNumber 67 rfl) ?_
        exact pv_ireturn (pc := 122) rfl (fm_dec dtX7_takeNumber 68 rfl) (hbad _ 2 (sk tx p) (spNum_n (dg1 hx85 hx1 hc90 trivial) (by intro h9; rw [sc_le] at hc111; omega)) (xdBad.at hS hI hx85 hsd (by decide) (by decide) (by decide) hx1 hsk))
  · refine pv_aloadn (pc := 93) (n := 0) 0 rfl rfl (fm_dec dtX7_takeNumber 49 rfl) ?_
    refine pv_iconst (pc := 94) (v := 1) (by decide) (fm_dec dtX7_takeNumber 50 rfl) ?_
    refine pv_iloadn (pc := 95) (n := 3) 3 rfl rfl (fm_dec dtX7_takeNumber 51 rfl) ?_
    refine pv_invV2 (k := 1) (d' := 0) (pc := 96) pcv_X7_35 (by decide) rfl (Nat.le_of_ble_eq_true rfl) (by decide) (fm_dec dtX7_takeNumber 52 rfl) ?_
    refine c_xfail0 hf ?_
    refine pv_then1 ?_
    refine pv_pop (pc := 99) rfl (fm_dec dtX7_takeNumber 53 rfl) ?_
    refine pv_iconst (pc := 100) (v := (-1)) (by decide) (fm_dec dtX7_takeNumber 54 rfl) ?_
    exact pv_ireturn (pc := 101) rfl (fm_dec dtX7_takeNumber 55 rfl) (hbad _ 1 (sk tx p) (spNum_0 (dg0 hx85 hx1 hc90 hS h700)) (xdBad.at hS hI hx85 hsd (by decide) (by decide) (by decide) hx1 hsk))
def chs (i5 : Nat) : List Int := (List.range (fmLen.getD i5 0)).map (fun k => (chE i5 k).toInt)
def fdR (r : Option Nat) : Int32 := match r with
  | some j => nI j
  | none => -1
theorem chs_dr {i5 i : Nat} (h : i < fmLen.getD i5 0) : (chs i5).drop i = (chE i5 i).toInt :: (chs i5).drop (i + 1) := by
  have hl : i < (chs i5).length := by
    unfold chs
    simpa using h
  rw [List.drop_eq_getElem_cons hl]
  congr 1
  unfold chs
  simp
theorem chs_end {i5 i : Nat} (h : fmLen.getD i5 0 ≤ i) : (chs i5).drop i = [] := by
  apply List.drop_eq_nil_of_le
  unfold chs
  simpa using h
theorem ch_lt : ∀ i5, i5 < 5 → ∀ k, k < fmLen.getD i5 0 → 0 ≤ (chE i5 k).toInt ∧ (chE i5 k).toInt < 128 := by decide +kernel
set_option maxRecDepth 20000 in
theorem fd_loop {Q : fmR → fmM → Prop} {tx : tX} {n i5 sN eN : Nat} {M : fmM} {s e : Int32} (hi : i5 < 5) (hn : n ≤ 600) (hs : s.toInt = (sN : Int)) (he : e.toInt = (eN : Int)) (hen : eN ≤ n) (hse : sN ≤ eN) (hB : ∀ j, j < n → bt (M.1 2 j) (tx j) ∧ tx j ≤ 255) : ∀ (m : Nat) (i wN aN : Nat) (bb : Bool) (w a b : Int32) (v8 : Option Value), fmLen.getD i5 0 - i = m → i ≤ fmLen.getD i5 0 → w.toInt = (wN : Int) → a.toInt = (aN : Int) → b = (if bb = true then 1 else 0) → aN ≤ 600 + i → wN ≤ i → Q (.inl (some (.int (fdR (fndF tx sN eN ((chs i5).drop i) wN aN bb))))) M → pvEv Tx 4 qX7_find 12 [some (.ref 1), some (.ref (1000 + i5)), some (.int s), some (.int e), some (.int w), some (.int a), some (.int b), some (.int (nI i)), v8] [] M Q := by
  intro m
  induction m using Nat.strongRecOn with
  | _ m ih =>
    intro i wN aN bb w a b v8 hm hil0 hw ha hb ha7 hw7 hq
    refine pv_iload (pc := 12) (i := 7) rfl (fm_dec dtX7_find 8 rfl) ?_
    refine pv_aloadn (pc := 14) (n := 1) 1 rfl rfl (fm_dec dtX7_find 9 rfl) ?_
    refine pv_strlen (i := i5) (pc := 15) pcq_X7_53 hi (by decide) (Nat.le_of_ble_eq_true rfl) (fm_dec dtX7_find 10 rfl) ?_
    refine pv_icmp_ge (pc := 18) 101 (by decide) (fm_dec dtX7_find 11 rfl) (fun hc18 => ?_) (fun hc18 => ?_)
    · refine pv_iconst (pc := 101) (v := (-1)) (by decide) (fm_dec dtX7_find 50 rfl) ?_
      exact pv_ireturn (pc := 102) rfl (fm_dec dtX7_find 51 rfl) (by have hl64 := fmLen_lt i5 hi; have h9 := hq; rw [chs_end (by rw [sc_le] at hc18; have h9 : (nI (fmLen.getD i5 0)).toInt = ((fmLen.getD i5 0 : Nat) : Int) := nI_toInt (by omega); have h8 : (nI i).toInt = (i : Int) := nI_toInt (by omega); omega)] at h9; exact h9)
    · have hl64 := fmLen_lt i5 hi
      have hil : i < fmLen.getD i5 0 := (by rw [sc_le] at hc18; have h9 : (nI (fmLen.getD i5 0)).toInt = ((fmLen.getD i5 0 : Nat) : Int) := nI_toInt (by omega); have h8 : (nI i).toInt = (i : Int) := nI_toInt (by omega); omega)
      have hii : (nI i).toNatClampNeg = i := i32_cl (nI_toInt (by omega))
      refine pv_aloadn (pc := 21) (n := 1) 1 rfl rfl (fm_dec dtX7_find 12 rfl) ?_
      refine pv_iload (pc := 22) (i := 7) rfl (fm_dec dtX7_find 13 rfl) ?_
      refine pv_charAt (i := i5) (pc := 24) pcq_X7_57 hi (by have hl64 := fmLen_lt i5 hi; have h8 : (nI i).toInt = (i : Int) := nI_toInt (by omega); omega) (by have hl64 := fmLen_lt i5 hi; have h8 : (nI i).toInt = (i : Int) := nI_toInt (by omega); have h9 : (nI (fmLen.getD i5 0)).toInt = ((fmLen.getD i5 0 : Nat) : Int) := nI_toInt (by omega); rw [sc_le] at hc18; omega) (by decide) (Nat.le_of_ble_eq_true rfl) (fm_dec dtX7_find 14 rfl) ?_
      refine pv_istore (pc := 27) (i := 8) (by decide) rfl (fm_dec dtX7_find 15 rfl) ?_
      dsimp only [List.set_cons_zero, List.set_cons_succ]
      refine pv_iload (pc := 29) (i := 8) rfl (fm_dec dtX7_find 16 rfl) ?_
      refine pv_bipush (pc := 31) (v := 32) (by decide) (fm_dec dtX7_find 17 rfl) ?_
      refine pv_icmp_eq (pc := 33) 72 (by decide) (fm_dec dtX7_find 18 rfl) (fun hc33 => ?_) (fun hc33 => ?_)
      · refine pv_iload (pc := 72) (i := 6) rfl (fm_dec dtX7_find 36 rfl) ?_
        refine pv_if_eq (pc := 74) 86 (by decide) (fm_dec dtX7_find 37 rfl) (fun hc74 => ?_) (fun hc74 => ?_)
        · refine pv_iincc (pc := 86) 4 1 (by decide) rfl (by decide) rfl (fm_dec dtX7_find 43 rfl) ?_
          dsimp only [List.set_cons_zero, List.set_cons_succ]
          refine pv_iloadn (pc := 89) (n := 2) 2 rfl rfl (fm_dec dtX7_find 44 rfl) ?_
          refine pv_istore (pc := 90) (i := 5) (by decide) rfl (fm_dec dtX7_find 45 rfl) ?_
          dsimp only [List.set_cons_zero, List.set_cons_succ]
          refine pv_iconst (pc := 92) (v := 1) (by decide) (fm_dec dtX7_find 46 rfl) ?_
          refine pv_istore (pc := 93) (i := 6) (by decide) rfl (fm_dec dtX7_find 47 rfl) ?_
          dsimp only [List.set_cons_zero, List.set_cons_succ]
          refine pv_iincc (pc := 95) 7 1 (by decide) rfl (by decide) rfl (fm_dec dtX7_find 48 rfl) ?_
          dsimp only [List.set_cons_zero, List.set_cons_succ]
          refine pv_goto (pc := 98) 12 (by decide) (fm_dec dtX7_find 49 rfl) ?_
          have hb0 : bb = false := (by cases bb with | false => rfl | true => exact absurd (hb.symm.trans hc74) (by decide))
          have eF : fndF tx sN eN ((chs i5).drop i) wN aN bb = fndF tx sN eN ((chs i5).drop (i + 1)) (wN + 1) sN true := (by rw [chs_dr hil]; show (if (chE i5 i).toInt = 32 then (if (bb && decide (aN = eN)) = true then some wN else fndF tx sN eN ((chs i5).drop (i + 1)) (wN + 1) sN true) else _) = _; rw [if_pos (by rw [hii] at hc33; rw [hc33]; decide), if_neg (by rw [hb0]; simp)])
          rw [nI_succ1]
          exact ih (fmLen.getD i5 0 - (i + 1)) (by omega) (i + 1) (wN + 1) sN true _ _ _ _ rfl (by omega) (i32_p1 hw (by omega)) hs rfl (by omega) (by omega) (by rw [← eF]; exact hq)
        · refine pv_iload (pc := 77) (i := 5) rfl (fm_dec dtX7_find 38 rfl) ?_
          refine pv_iloadn (pc := 79) (n := 3) 3 rfl rfl (fm_dec dtX7_find 39 rfl) ?_
          refine pv_icmp_ne (pc := 80) 86 (by decide) (fm_dec dtX7_find 40 rfl) (fun hc80 => ?_) (fun hc80 => ?_)
          · refine pv_iincc (pc := 86) 4 1 (by decide) rfl (by decide) rfl (fm_dec dtX7_find 43 rfl) ?_
            dsimp only [List.set_cons_zero, List.set_cons_succ]
            refine pv_iloadn (pc := 89) (n := 2) 2 rfl rfl (fm_dec dtX7_find 44 rfl) ?_
            refine pv_istore (pc := 90) (i := 5) (by decide) rfl (fm_dec dtX7_find 45 rfl) ?_
            dsimp only [List.set_cons_zero, List.set_cons_succ]
            refine pv_iconst (pc := 92) (v := 1) (by decide) (fm_dec dtX7_find 46 rfl) ?_
            refine pv_istore (pc := 93) (i := 6) (by decide) rfl (fm_dec dtX7_find 47 rfl) ?_
            dsimp only [List.set_cons_zero, List.set_cons_succ]
            refine pv_iincc (pc := 95) 7 1 (by decide) rfl (by decide) rfl (fm_dec dtX7_find 48 rfl) ?_
            dsimp only [List.set_cons_zero, List.set_cons_succ]
            refine pv_goto (pc := 98) 12 (by decide) (fm_dec dtX7_find 49 rfl) ?_
            have eF : fndF tx sN eN ((chs i5).drop i) wN aN bb = fndF tx sN eN ((chs i5).drop (i + 1)) (wN + 1) sN true := (by rw [chs_dr hil]; show (if (chE i5 i).toInt = 32 then (if (bb && decide (aN = eN)) = true then some wN else fndF tx sN eN ((chs i5).drop (i + 1)) (wN + 1) sN true) else _) = _; rw [if_pos (by rw [hii] at hc33; rw [hc33]; decide), if_neg (by intro h9; rw [Bool.and_eq_true] at h9; exact hc80 (i32_ext (ha.trans ((congrArg Nat.cast (of_decide_eq_true h9.2)).trans he.symm))))])
            rw [nI_succ1]
            exact ih (fmLen.getD i5 0 - (i + 1)) (by omega) (i + 1) (wN + 1) sN true _ _ _ _ rfl (by omega) (i32_p1 hw (by omega)) hs rfl (by omega) (by omega) (by rw [← eF]; exact hq)
          · refine pv_iload (pc := 83) (i := 4) rfl (fm_dec dtX7_find 41 rfl) ?_
            exact pv_ireturn (pc := 85) rfl (fm_dec dtX7_find 42 rfl) (by have hb1 : bb = true := (by cases bb with | true => rfl | false => exact absurd hb hc74); have e1 : aN = eN := (by have h9 := congrArg Int32.toInt hc80; omega); have h9 := hq; rw [chs_dr hil] at h9; have e9 : fndF tx sN eN ((chE i5 i).toInt :: (chs i5).drop (i + 1)) wN aN bb = some wN := (by show (if (chE i5 i).toInt = 32 then (if (bb && decide (aN = eN)) = true then some wN else _) else _) = _; rw [if_pos (by rw [hii] at hc33; rw [hc33]; decide), if_pos (by rw [hb1, e1]; simp)]); rw [e9] at h9; rw [nI_is hw (by omega)]; exact h9)
      · refine pv_iload (pc := 36) (i := 6) rfl (fm_dec dtX7_find 19 rfl) ?_
        refine pv_if_eq (pc := 38) 63 (by decide) (fm_dec dtX7_find 20 rfl) (fun hc38 => ?_) (fun hc38 => ?_)
        · refine pv_iconst (pc := 63) (v := 0) (by decide) (fm_dec dtX7_find 32 rfl) ?_
          refine pv_istore (pc := 64) (i := 6) (by decide) rfl (fm_dec dtX7_find 33 rfl) ?_
          dsimp only [List.set_cons_zero, List.set_cons_succ]
          refine pv_iincc (pc := 66) 5 1 (by decide) rfl (by decide) rfl (fm_dec dtX7_find 34 rfl) ?_
          dsimp only [List.set_cons_zero, List.set_cons_succ]
          refine pv_goto (pc := 69) 95 (by decide) (fm_dec dtX7_find 35 rfl) ?_
          refine pv_iincc (pc := 95) 7 1 (by decide) rfl (by decide) rfl (fm_dec dtX7_find 48 rfl) ?_
          dsimp only [List.set_cons_zero, List.set_cons_succ]
          refine pv_goto (pc := 98) 12 (by decide) (fm_dec dtX7_find 49 rfl) ?_
          have hb0 : bb = false := (by cases bb with | false => rfl | true => exact absurd (hb.symm.trans hc38) (by decide))
          have eF : fndF tx sN eN ((chs i5).drop i) wN aN bb = fndF tx sN eN ((chs i5).drop (i + 1)) wN (aN + 1) false := (by rw [chs_dr hil]; show (if (chE i5 i).toInt = 32 then _ else fndF tx sN eN ((chs i5).drop (i + 1)) wN (aN + 1) (bb && decide (aN < eN) && decide (tx aN = (chE i5 i).toInt))) = _; rw [if_neg (fun h9 => hc33 (by rw [hii]; exact i32_ext (h9.trans (by decide))))]; congr 1; rw [hb0]; rfl)
          rw [nI_succ1]
          exact ih (fmLen.getD i5 0 - (i + 1)) (by omega) (i + 1) wN (aN + 1) false _ _ _ _ rfl (by omega) hw (i32_p1 ha (by omega)) rfl (by omega) (by omega) (by rw [← eF]; exact hq)
        · refine pv_iload (pc := 41) (i := 5) rfl (fm_dec dtX7_find 21 rfl) ?_
          refine pv_iloadn (pc := 43) (n := 3) 3 rfl rfl (fm_dec dtX7_find 22 rfl) ?_
          refine pv_icmp_ge (pc := 44) 63 (by decide) (fm_dec dtX7_find 23 rfl) (fun hc44 => ?_) (fun hc44 => ?_)
          · refine pv_iconst (pc := 63) (v := 0) (by decide) (fm_dec dtX7_find 32 rfl) ?_
            refine pv_istore (pc := 64) (i := 6) (by decide) rfl (fm_dec dtX7_find 33 rfl) ?_
            dsimp only [List.set_cons_zero, List.set_cons_succ]
            refine pv_iincc (pc := 66) 5 1 (by decide) rfl (by decide) rfl (fm_dec dtX7_find 34 rfl) ?_
            dsimp only [List.set_cons_zero, List.set_cons_succ]
            refine pv_goto (pc := 69) 95 (by decide) (fm_dec dtX7_find 35 rfl) ?_
            refine pv_iincc (pc := 95) 7 1 (by decide) rfl (by decide) rfl (fm_dec dtX7_find 48 rfl) ?_
            dsimp only [List.set_cons_zero, List.set_cons_succ]
            refine pv_goto (pc := 98) 12 (by decide) (fm_dec dtX7_find 49 rfl) ?_
            have eF : fndF tx sN eN ((chs i5).drop i) wN aN bb = fndF tx sN eN ((chs i5).drop (i + 1)) wN (aN + 1) false := (by rw [chs_dr hil]; show (if (chE i5 i).toInt = 32 then _ else fndF tx sN eN ((chs i5).drop (i + 1)) wN (aN + 1) (bb && decide (aN < eN) && decide (tx aN = (chE i5 i).toInt))) = _; rw [if_neg (fun h9 => hc33 (by rw [hii]; exact i32_ext (h9.trans (by decide))))]; congr 1; rw [decide_eq_false (show ¬ aN < eN by rw [sc_le] at hc44; omega), Bool.and_false, Bool.false_and])
            rw [nI_succ1]
            exact ih (fmLen.getD i5 0 - (i + 1)) (by omega) (i + 1) wN (aN + 1) false _ _ _ _ rfl (by omega) hw (i32_p1 ha (by omega)) rfl (by omega) (by omega) (by rw [← eF]; exact hq)
          · refine pv_aloadn (pc := 47) (n := 0) 0 rfl rfl (fm_dec dtX7_find 24 rfl) ?_
            refine pv_getR (k := 1) (j := 0) (ci := 7) (pc := 48) 2 rfl (by decide) pfl_X7_9 (by decide) rfl (by decide) (fm_dec dtX7_find 25 rfl) ?_
            refine pv_iload (pc := 51) (i := 5) rfl (fm_dec dtX7_find 26 rfl) ?_
            refine pv_bald (k := 2) (n := 600) (pc := 53) (by decide) rfl rfl (ix_in ha (by rw [sc_le] at hc44; omega)) (fm_dec dtX7_find 27 rfl) ?_
            have haE : aN < eN := (by rw [sc_le] at hc44; omega)
            have hbb := hB aN (by omega)
            have hcl := ch_lt i5 hi i hil
            have hcc : (nI i).toNatClampNeg = i := hii
            have byE : M.1 2 a.toNatClampNeg = chE i5 (nI i).toNatClampNeg ↔ tx aN = (chE i5 i).toInt := (by rw [hcc, i32_cl ha, ← hbb.1.eq hbb.2 hcl.1 hcl.2]; exact ⟨fun h9 => by rw [h9], fun h9 => i32_ext h9⟩)
            refine pv_iload (pc := 54) (i := 8) rfl (fm_dec dtX7_find 28 rfl) ?_
            refine pv_icmp_ne (pc := 56) 63 (by decide) (fm_dec dtX7_find 29 rfl) (fun hc56 => ?_) (fun hc56 => ?_)
            · refine pv_iconst (pc := 63) (v := 0) (by decide) (fm_dec dtX7_find 32 rfl) ?_
              refine pv_istore (pc := 64) (i := 6) (by decide) rfl (fm_dec dtX7_find 33 rfl) ?_
              dsimp only [List.set_cons_zero, List.set_cons_succ]
              refine pv_iincc (pc := 66) 5 1 (by decide) rfl (by decide) rfl (fm_dec dtX7_find 34 rfl) ?_
              dsimp only [List.set_cons_zero, List.set_cons_succ]
              refine pv_goto (pc := 69) 95 (by decide) (fm_dec dtX7_find 35 rfl) ?_
              refine pv_iincc (pc := 95) 7 1 (by decide) rfl (by decide) rfl (fm_dec dtX7_find 48 rfl) ?_
              dsimp only [List.set_cons_zero, List.set_cons_succ]
              refine pv_goto (pc := 98) 12 (by decide) (fm_dec dtX7_find 49 rfl) ?_
              have eF : fndF tx sN eN ((chs i5).drop i) wN aN bb = fndF tx sN eN ((chs i5).drop (i + 1)) wN (aN + 1) false := (by rw [chs_dr hil]; show (if (chE i5 i).toInt = 32 then _ else fndF tx sN eN ((chs i5).drop (i + 1)) wN (aN + 1) (bb && decide (aN < eN) && decide (tx aN = (chE i5 i).toInt))) = _; rw [if_neg (fun h9 => hc33 (by rw [hii]; exact i32_ext (h9.trans (by decide))))]; congr 1; rw [decide_eq_false (fun h9 => hc56 (byE.mpr h9)), Bool.and_false])
              rw [nI_succ1]
              exact ih (fmLen.getD i5 0 - (i + 1)) (by omega) (i + 1) wN (aN + 1) false _ _ _ _ rfl (by omega) hw (i32_p1 ha (by omega)) rfl (by omega) (by omega) (by rw [← eF]; exact hq)
            · refine pv_iconst (pc := 59) (v := 1) (by decide) (fm_dec dtX7_find 30 rfl) ?_
              refine pv_goto (pc := 60) 64 (by decide) (fm_dec dtX7_find 31 rfl) ?_
              refine pv_istore (pc := 64) (i := 6) (by decide) rfl (fm_dec dtX7_find 33 rfl) ?_
              dsimp only [List.set_cons_zero, List.set_cons_succ]
              refine pv_iincc (pc := 66) 5 1 (by decide) rfl (by decide) rfl (fm_dec dtX7_find 34 rfl) ?_
              dsimp only [List.set_cons_zero, List.set_cons_succ]
              refine pv_goto (pc := 69) 95 (by decide) (fm_dec dtX7_find 35 rfl) ?_
              refine pv_iincc (pc := 95) 7 1 (by decide) rfl (by decide) rfl (fm_dec dtX7_find 48 rfl) ?_
              dsimp only [List.set_cons_zero, List.set_cons_succ]
              refine pv_goto (pc := 98) 12 (by decide) (fm_dec dtX7_find 49 rfl) ?_
              have hb1 : bb = true := (by cases bb with | true => rfl | false => exact absurd hb hc38)
              have eF : fndF tx sN eN ((chs i5).drop i) wN aN bb = fndF tx sN eN ((chs i5).drop (i + 1)) wN (aN + 1) true := (by rw [chs_dr hil]; show (if (chE i5 i).toInt = 32 then _ else fndF tx sN eN ((chs i5).drop (i + 1)) wN (aN + 1) (bb && decide (aN < eN) && decide (tx aN = (chE i5 i).toInt))) = _; rw [if_neg (fun h9 => hc33 (by rw [hii]; exact i32_ext (h9.trans (by decide))))]; congr 1; rw [hb1, decide_eq_true haE, decide_eq_true (byE.mp hc56)]; rfl)
              rw [nI_succ1]
              exact ih (fmLen.getD i5 0 - (i + 1)) (by omega) (i + 1) wN (aN + 1) true _ _ _ _ rfl (by omega) hw (i32_p1 ha (by omega)) rfl (by omega) (by omega) (by rw [← eF]; exact hq)
set_option maxRecDepth 20000 in
theorem c_xfind {M : fmM} {Q : fmR → fmM → Prop} {tx : tX} {n i5 sN eN : Nat} {s e : Int32} (hi : i5 < 5) (hn : n ≤ 600) (hs : s.toInt = (sN : Int)) (he : e.toInt = (eN : Int)) (hen : eN ≤ n) (hse : sN ≤ eN) (hB : ∀ j, j < n → bt (M.1 2 j) (tx j) ∧ tx j ≤ 255) (hq : Q (.inl (some (.int (fdR (fndF tx sN eN (chs i5) 0 sN true))))) M) : pvGood Tx 4 qX7_find [.ref 1, .ref (1000 + i5), .int s, .int e] M Q := by
  refine pvGood_of (Nat.le_of_ble_eq_true rfl) ?_
  show pvEv Tx 4 qX7_find 0 [some (.ref 1), some (.ref (1000 + i5)), some (.int s), some (.int e), none, none, none, none, none] [] M Q
  refine pv_iconst (pc := 0) (v := 0) (by decide) (fm_dec dtX7_find 0 rfl) ?_
  refine pv_istore (pc := 1) (i := 4) (by decide) rfl (fm_dec dtX7_find 1 rfl) ?_
  dsimp only [List.set_cons_zero, List.set_cons_succ]
  refine pv_iloadn (pc := 3) (n := 2) 2 rfl rfl (fm_dec dtX7_find 2 rfl) ?_
  refine pv_istore (pc := 4) (i := 5) (by decide) rfl (fm_dec dtX7_find 3 rfl) ?_
  dsimp only [List.set_cons_zero, List.set_cons_succ]
  refine pv_iconst (pc := 6) (v := 1) (by decide) (fm_dec dtX7_find 4 rfl) ?_
  refine pv_istore (pc := 7) (i := 6) (by decide) rfl (fm_dec dtX7_find 5 rfl) ?_
  dsimp only [List.set_cons_zero, List.set_cons_succ]
  refine pv_iconst (pc := 9) (v := 0) (by decide) (fm_dec dtX7_find 6 rfl) ?_
  refine pv_istore (pc := 10) (i := 7) (by decide) rfl (fm_dec dtX7_find 7 rfl) ?_
  dsimp only [List.set_cons_zero, List.set_cons_succ]
  exact fd_loop hi hn hs he hen hse hB _ 0 0 sN true _ _ _ _ rfl (Nat.zero_le _) (by decide) hs rfl (by omega) (by omega) hq
theorem wdI_lt {u : List Int} : ∀ (ws : List (List Int)) (k j : Nat), wdI ws u k = some j → k ≤ j ∧ j < k + ws.length
  | [], k, j, h => by cases h
  | w :: ws, k, j, h => by
    simp only [wdI] at h
    split at h
    · cases h
      exact ⟨Nat.le_refl _, by rw [List.length_cons]; omega⟩
    · have h9 := wdI_lt ws (k + 1) j h
      rw [List.length_cons]
      omega
set_option maxRecDepth 20000 in
theorem xw_loop {Q : fmR → fmM → Prop} {tx : tX} {n p i5 : Nat} {M : fmM} {s : Int32} (hS : xS2 M tx n p) : ∀ (m : Nat) (q : Nat) (e : Int32) (v4 : Option Value), e.toInt = (q : Int) → q ≤ n → n - q = m → (∀ (x : Int32) (v : Option Value), x.toInt = sp tW tx q → pvEv Tx 5 qX7_takeWord 43 [some (.ref 1), some (.ref (1000 + i5)), some (.int s), some (.int x), v] [] M Q) → pvEv Tx 5 qX7_takeWord 7 [some (.ref 1), some (.ref (1000 + i5)), some (.int s), some (.int e), v4] [] M Q := by
  intro m
  induction m using Nat.strongRecOn with
  | _ m ih =>
    intro q e v4 hE hqn0 hm hq
    refine pv_iloadn (pc := 7) (n := 3) 3 rfl rfl (fm_dec dtX7_takeWord 5 rfl) ?_
    refine pv_aloadn (pc := 8) (n := 0) 0 rfl rfl (fm_dec dtX7_takeWord 6 rfl) ?_
    refine pv_getI (k := 1) (j := 2) (ci := 7) (pc := 9) pfl_X7_22 (by decide) rfl (by decide) (fm_dec dtX7_takeWord 7 rfl) ?_
    refine pv_icmp_ge (pc := 12) 43 (by decide) (fm_dec dtX7_takeWord 8 rfl) (fun hc12 => ?_) (fun hc12 => ?_)
    · have hW : tW (tx q) = false := (by have h9 := hc12; rw [sc_le] at h9; have := hS.1; have e9 : q = n := (by omega); subst e9; rw [hS.2.2.2.1.2.1 q (Nat.le_refl _)]; exact tW_1)
      exact hq e _ (by rw [sp_f hW]; exact hE)
    · have hqn : q < n := (by have h9 := hc12; rw [sc_le] at h9; have := hS.1; omega)
      have hn6 := hS.2.2.2.1.1
      refine pv_aloadn (pc := 15) (n := 0) 0 rfl rfl (fm_dec dtX7_takeWord 9 rfl) ?_
      refine pv_getR (k := 1) (j := 0) (ci := 7) (pc := 16) 2 rfl (by decide) pfl_X7_9 (by decide) rfl (by decide) (fm_dec dtX7_takeWord 10 rfl) ?_
      refine pv_iloadn (pc := 19) (n := 3) 3 rfl rfl (fm_dec dtX7_takeWord 11 rfl) ?_
      refine pv_bald (k := 2) (n := 600) (pc := 20) (by decide) rfl rfl (ix_in hE (by omega)) (fm_dec dtX7_takeWord 12 rfl) ?_
      refine pv_bipush (pc := 21) (v := 97) (by decide) (fm_dec dtX7_takeWord 13 rfl) ?_
      refine pv_icmp_lt (pc := 23) 43 (by decide) (fm_dec dtX7_takeWord 14 rfl) (fun hc23 => ?_) (fun hc23 => ?_)
      · have hW : tW (tx q) = false := (by have hbb := hS.2.2.2.2 q hqn; have h255 := hS.2.2.2.1.2.2 q hqn; rw [hbb.W h255.2, ← i32_cl hE]; exact tW_f (Or.inl hc23))
        exact hq e _ (by rw [sp_f hW]; exact hE)
      · refine pv_aloadn (pc := 26) (n := 0) 0 rfl rfl (fm_dec dtX7_takeWord 15 rfl) ?_
        refine pv_getR (k := 1) (j := 0) (ci := 7) (pc := 27) 2 rfl (by decide) pfl_X7_9 (by decide) rfl (by decide) (fm_dec dtX7_takeWord 16 rfl) ?_
        refine pv_iloadn (pc := 30) (n := 3) 3 rfl rfl (fm_dec dtX7_takeWord 17 rfl) ?_
        refine pv_bald (k := 2) (n := 600) (pc := 31) (by decide) rfl rfl (ix_in hE (by omega)) (fm_dec dtX7_takeWord 18 rfl) ?_
        refine pv_bipush (pc := 32) (v := 122) (by decide) (fm_dec dtX7_takeWord 19 rfl) ?_
        refine pv_icmp_gt (pc := 34) 43 (by decide) (fm_dec dtX7_takeWord 20 rfl) (fun hc34 => ?_) (fun hc34 => ?_)
        · have hW : tW (tx q) = false := (by have hbb := hS.2.2.2.2 q hqn; have h255 := hS.2.2.2.1.2.2 q hqn; rw [hbb.W h255.2, ← i32_cl hE]; exact tW_f (Or.inr hc34))
          exact hq e _ (by rw [sp_f hW]; exact hE)
        · refine pv_iincc (pc := 37) 3 1 (by decide) rfl (by decide) rfl (fm_dec dtX7_takeWord 21 rfl) ?_
          dsimp only [List.set_cons_zero, List.set_cons_succ]
          refine pv_goto (pc := 40) 7 (by decide) (fm_dec dtX7_takeWord 22 rfl) ?_
          have hW : tW (tx q) = true := (by have hbb := hS.2.2.2.2 q hqn; have h255 := hS.2.2.2.1.2.2 q hqn; rw [hbb.W h255.2, ← i32_cl hE]; exact tW_t hc23 hc34)
          refine ih (n - (q + 1)) (by omega) (q + 1) _ _ (i32_p1 hE (by omega)) (by omega) rfl (fun x v hx => hq x v (by rw [sp_t (by omega) hW]; exact hx))
set_option maxRecDepth 20000 in
theorem x_word {M : fmM} {Q : fmR → fmM → Prop} {tx : tX} {n p i5 : Nat} {ws : List (List Int)} (hi : i5 < 5) (hch : chs i5 = flat1 ws) (hws : ∀ u ∈ ws, ∀ c ∈ u, ¬ c = 32) (hl : ws.length ≤ 10) (hS : xS2 M tx n p) (hf : M.1 1 4 = 0) (hI : scInv Tx invX M) (hok : ∀ (M' : fmM) (j : Nat) (w : Int32), wdI ws (wd tx (sk tx p)) 0 = some j → w.toInt = (j : Int) → xdOk M M' tx n (sp tW tx (sk tx p)) → Q (.inl (some (.int w))) M') (hbad : wdI ws (wd tx (sk tx p)) 0 = none → ∀ M' : fmM, xdBad M M' 1 (sk tx p) → Q (.inl (some (.int (-1)))) M') : pvGood Tx 5 qX7_takeWord [.ref 1, .ref (1000 + i5)] M Q := by
  refine pvGood_of (Nat.le_of_ble_eq_true rfl) ?_
  show pvEv Tx 5 qX7_takeWord 0 [some (.ref 1), some (.ref (1000 + i5)), none, none, none] [] M Q
  refine pv_aloadn (pc := 0) (n := 0) 0 rfl rfl (fm_dec dtX7_takeWord 0 rfl) ?_
  refine pv_invV0 (k := 1) (d' := 1) (pc := 1) pcv_X7_39 (by decide) rfl (Nat.le_of_ble_eq_true rfl) (by decide) (fm_dec dtX7_takeWord 1 rfl) ?_
  refine c_xnext hS (fun x1 hx1 => ?_)
  refine pv_then1 ?_
  refine pv_istoren (pc := 4) (n := 2) 2 rfl (by decide) rfl (fm_dec dtX7_takeWord 2 rfl) ?_
  dsimp only [List.set_cons_zero, List.set_cons_succ]
  refine pv_iloadn (pc := 5) (n := 2) 2 rfl rfl (fm_dec dtX7_takeWord 3 rfl) ?_
  refine pv_istoren (pc := 6) (n := 3) 3 rfl (by decide) rfl (fm_dec dtX7_takeWord 4 rfl) ?_
  dsimp only [List.set_cons_zero, List.set_cons_succ]
  have hsk : sk tx p ≤ n := (sp_le tB_1 hS.2.2.2.1 hS.2.2.1)
  have hsw : sp tW tx (sk tx p) ≤ n := sp_le tW_1 hS.2.2.2.1 hsk
  refine xw_loop (hS.bl hx1) _ (sk tx p) _ _ hx1 hsk rfl (fun x43 v43 hx43 => ?_)
  refine pv_aloadn (pc := 43) (n := 0) 0 rfl rfl (fm_dec dtX7_takeWord 23 rfl) ?_
  refine pv_aloadn (pc := 44) (n := 1) 1 rfl rfl (fm_dec dtX7_takeWord 24 rfl) ?_
  refine pv_iloadn (pc := 45) (n := 2) 2 rfl rfl (fm_dec dtX7_takeWord 25 rfl) ?_
  refine pv_iloadn (pc := 46) (n := 3) 3 rfl rfl (fm_dec dtX7_takeWord 26 rfl) ?_
  refine pv_invV3 (k := 1) (d' := 4) (pc := 47) pcv_X7_49 (by decide) rfl (Nat.le_of_ble_eq_true rfl) (by decide) (fm_dec dtX7_takeWord 27 rfl) ?_
  refine c_xfind hi hS.2.2.2.1.1 hx1 hx43 hsw (sp_ge _) (fun j hj => ⟨hS.2.2.2.2 j hj, (hS.2.2.2.1.2.2 j hj).2⟩) ?_ 
  refine pv_then1 ?_
  rw [hch, fnd_all hS.2.2.2.1 (sp_ge _) hsw rfl ws 0 hws]
  cases hw9 : wdI ws (wd tx (sk tx p)) 0 with
  | none =>
    show pvEv Tx 5 qX7_takeWord (47 + 3) [some (.ref 1), some (.ref (1000 + i5)), some (.int x1), some (.int x43), v43] [.int (-1)] (fmI M 1 3 x1) Q
    refine pv_istore (pc := 50) (i := 4) (by decide) rfl (fm_dec dtX7_takeWord 28 rfl) ?_
    dsimp only [List.set_cons_zero, List.set_cons_succ]
    refine pv_iload (pc := 52) (i := 4) rfl (fm_dec dtX7_takeWord 29 rfl) ?_
    refine pv_iconst (pc := 54) (v := (-1)) (by decide) (fm_dec dtX7_takeWord 30 rfl) ?_
    refine pv_icmp_ne (pc := 55) 67 (by decide) (fm_dec dtX7_takeWord 31 rfl) (fun hc55 => by exfalso; revert hc55; decide) (fun _ => ?_)
    refine pv_aloadn (pc := 58) (n := 0) 0 rfl rfl (fm_dec dtX7_takeWord 32 rfl) ?_
    refine pv_iconst (pc := 59) (v := 1) (by decide) (fm_dec dtX7_takeWord 33 rfl) ?_
    refine pv_iloadn (pc := 60) (n := 2) 2 rfl rfl (fm_dec dtX7_takeWord 34 rfl) ?_
    refine pv_invV2 (k := 1) (d' := 0) (pc := 61) pcv_X7_35 (by decide) rfl (Nat.le_of_ble_eq_true rfl) (by decide) (fm_dec dtX7_takeWord 35 rfl) ?_
    refine c_xfail0 hf ?_
    refine pv_then1 ?_
    refine pv_pop (pc := 64) rfl (fm_dec dtX7_takeWord 36 rfl) ?_
    refine pv_iconst (pc := 65) (v := (-1)) (by decide) (fm_dec dtX7_takeWord 37 rfl) ?_
    exact pv_ireturn (pc := 66) rfl (fm_dec dtX7_takeWord 38 rfl) (hbad hw9 _ (xdBad.at hS hI hx1 hsk (by decide) (by decide) (by decide) hx1 hsk))
  | some j =>
    have hj := wdI_lt ws 0 j hw9
    have ej : (nI j).toInt = (j : Int) := nI_toInt (by omega)
    show pvEv Tx 5 qX7_takeWord (47 + 3) [some (.ref 1), some (.ref (1000 + i5)), some (.int x1), some (.int x43), v43] [.int (nI j)] (fmI M 1 3 x1) Q
    refine pv_istore (pc := 50) (i := 4) (by decide) rfl (fm_dec dtX7_takeWord 28 rfl) ?_
    dsimp only [List.set_cons_zero, List.set_cons_succ]
    refine pv_iload (pc := 52) (i := 4) rfl (fm_dec dtX7_takeWord 29 rfl) ?_
    refine pv_iconst (pc := 54) (v := (-1)) (by decide) (fm_dec dtX7_takeWord 30 rfl) ?_
    refine pv_icmp_ne (pc := 55) 67 (by decide) (fm_dec dtX7_takeWord 31 rfl) (fun _ => ?_) (fun hc55 => by exfalso; have h9 := congrArg Int32.toInt hc55; have h8 : (-1 : Int32).toInt = -1 := (by decide); omega)
    refine pv_aloadn (pc := 67) (n := 0) 0 rfl rfl (fm_dec dtX7_takeWord 39 rfl) ?_
    refine pv_iloadn (pc := 68) (n := 3) 3 rfl rfl (fm_dec dtX7_takeWord 40 rfl) ?_
    refine pv_putI (k := 1) (j := 3) (ci := 7) (pc := 69) pfl_X7_25 (by decide) rfl (by decide) (fm_dec dtX7_takeWord 41 rfl) ?_
    refine pv_iload (pc := 72) (i := 4) rfl (fm_dec dtX7_takeWord 42 rfl) ?_
    exact pv_ireturn (pc := 74) rfl (fm_dec dtX7_takeWord 43 rfl) (by rw [fmI_fmI]; exact hok _ j (nI j) hw9 ej (xdOk.at hS hf hI hx43 hsw))
def wsWork : List (List Int) := [[119, 114, 105, 116, 101], [114, 101, 110, 101, 119], [100, 105, 101], [119, 101, 101, 107], [97, 103, 97, 105, 110]]
def wsLaw : List (List Int) := [[97, 103, 101], [121, 101, 97, 114, 115], [119, 111, 114, 116, 104], [100, 101, 97, 100], [102, 97, 99, 116, 115], [108, 101, 97, 115, 116], [109, 111, 115, 116]]
def wsTold : List (List Int) := [[108, 105, 102, 101], [104, 97, 115], [98, 121], [102, 97, 99, 116], [104, 111, 117, 114, 115], [108, 97, 99, 107], [119, 114, 111, 110, 103], [104, 97, 108, 102]]
theorem chs_4 : chs 4 = flat1 wsWork := by decide +kernel
theorem chs_3 : chs 3 = flat1 wsLaw := by decide +kernel
theorem chs_2 : chs 2 = flat1 wsTold := by decide +kernel
theorem wsWork_ok : ∀ u ∈ wsWork, ∀ c ∈ u, ¬ c = 32 := by decide
theorem wsLaw_ok : ∀ u ∈ wsLaw, ∀ c ∈ u, ¬ c = 32 := by decide
theorem wsTold_ok : ∀ u ∈ wsTold, ∀ c ∈ u, ¬ c = 32 := by decide
theorem x_numC {M : fmM} {Q : fmR → fmM → Prop} {tx : tX} {n p : Nat} {lo hi : Int32} (a b : Int) (ea : lo.toInt = a) (eb : hi.toInt = b) (h9 : b < 1000000) (hS : xS2 M tx n p) (hf : M.1 1 4 = 0) (hI : scInv Tx invX M) (hok : ∀ (M' : fmM) (v q : Nat) (w : Int32), spNum tx a b p = .inr (v, q) → w.toInt = v → xdOk M M' tx n q → Q (.inl (some (.int w))) M') (hbad : ∀ (M' : fmM) (k a' : Nat), spNum tx a b p = .inl (k, a') → xdBad M M' k a' → Q (.inl (some (.int (-1)))) M') : pvGood Tx 2 qX7_takeNumber [.ref 1, .int lo, .int hi] M Q := by
  subst ea
  subst eb
  exact x_num h9 hS hf hI hok hbad
theorem x_signC {M : fmM} {Q : fmR → fmM → Prop} {tx : tX} {n p : Nat} {c : Int32} (a : Int) (ea : c.toInt = a) (hc : 0 ≤ a) (hS : xS2 M tx n p) (hf : M.1 1 4 = 0) (hI : scInv Tx invX M) (hok : ∀ (M' : fmM) (q : Nat), spSign tx a p = .inr ((), q) → xdOk M M' tx n q → Q (.inl (some (.int 1))) M') (hbad : ∀ (M' : fmM) (k a' : Nat), spSign tx a p = .inl (k, a') → xdBad M M' k a' → Q (.inl (some (.int 0))) M') : pvGood Tx 1 qX7_takeSign [.ref 1, .int c] M Q := by
  subst ea
  exact x_sign hc hS hf hI hok hbad
end
-- P 18h
section
-- THE CLASS READS LAWS
def cdV (c : Nat × Nat) : Int := if c.1 = 0 then (c.2 : Int) else if c.1 = 1 then -1 - (c.2 : Int) else if c.1 < 6 then -6 - (c.1 : Int) else -(c.1 : Int)
def xlPre (M : fmM) (tx : tX) (n p m : Nat) : Prop := xS2 M tx n p ∧ M.1 1 4 = 0 ∧ scInv Tx invX M ∧ (M.1 23 4).toInt = (m : Int) ∧ m ≤ p ∧ n ≤ 150
def xlRep (M : fmM) (m : Nat) (cs : tC) : Prop := ∀ i c, cs[i]? = some c → (M.1 25 (m + i)).toInt = cdV c
def xlFr (m : Nat) (M M' : fmM) : Prop := (∀ k j, k ≠ 1 → ¬ (k = 23 ∧ j = 4) → ¬ (k = 25 ∧ m ≤ j) → M'.1 k j = M.1 k j) ∧ (∀ k j, k ≠ 1 → k ≠ 23 → k ≠ 25 → M'.2 k j = M.2 k j) ∧ (∀ j, j ≠ 3 → j ≠ 4 → j ≠ 5 → M'.1 1 j = M.1 1 j)
def xlOk (M M' : fmM) (tx : tX) (n q m : Nat) (cs : tC) : Prop := xS2 M' tx n q ∧ M'.1 1 4 = 0 ∧ scInv Tx invX M' ∧ (M'.1 23 4).toInt = ((m + cs.length : Nat) : Int) ∧ xlRep M' m cs ∧ xlFr m M M'
def xlBad (M M' : fmM) (k a : Nat) : Prop := (M'.1 1 4).toInt = (k : Int) ∧ (M'.1 1 5).toInt = (a : Int) ∧ k ≠ 0 ∧ scInv Tx invX M' ∧ xlFr 0 M M'
theorem xlFr.refl (m : Nat) (M : fmM) : xlFr m M M := ⟨fun _ _ _ _ _ => rfl, fun _ _ _ _ _ => rfl, fun _ _ _ _ => rfl⟩
theorem xlFr.trans {m m' : Nat} {M M1 M2 : fmM} (h : xlFr m M M1) (h' : xlFr m' M1 M2) (hm : m ≤ m') : xlFr m M M2 := ⟨fun k j a b c => (h'.1 k j a b (by omega)).trans (h.1 k j a b c), fun k j a b c => (h'.2.1 k j a b c).trans (h.2.1 k j a b c), fun j a b c => (h'.2.2 j a b c).trans (h.2.2 j a b c)⟩
theorem xlFr.zero {m : Nat} {M M1 : fmM} (h : xlFr m M M1) : xlFr 0 M M1 := ⟨fun k j a b c => h.1 k j a b (by omega), h.2.1, h.2.2⟩
theorem xlFr.tr0 {m m' : Nat} {M M1 M2 : fmM} (h : xlFr m M M1) (h' : xlFr m' M1 M2) : xlFr 0 M M2 := xlFr.trans h.zero h'.zero (Nat.le_refl _)
theorem xdFr.xl {M M1 : fmM} (h : xdFr M M1) (m : Nat) : xlFr m M M1 := ⟨fun k j a _ _ => (h.1 k j a).1, fun k j a _ _ => (h.1 k j a).2, h.2⟩
theorem xlRep.fr {M M' : fmM} {m m' : Nat} {cs : tC} (h : xlRep M m cs) (hf : xlFr m' M M') (hm : m + cs.length ≤ m') : xlRep M' m cs := fun i c hi => by
  have hl : i < cs.length := (List.getElem?_eq_some_iff.mp hi).1
  rw [hf.1 25 (m + i) (by decide) (by omega) (by omega)]
  exact h i c hi
theorem xlRep.app {M : fmM} {m : Nat} {cs ds : tC} (h : xlRep M m cs) (h' : xlRep M (m + cs.length) ds) : xlRep M m (cs ++ ds) := fun i c hi => by
  by_cases e : i < cs.length
  · rw [List.getElem?_append_left e] at hi
    exact h i c hi
  · rw [List.getElem?_append_right (by omega)] at hi
    have h9 := h' (i - cs.length) c hi
    rw [show m + cs.length + (i - cs.length) = m + i by omega] at h9
    exact h9
theorem xlOk.trans {M M1 M2 : fmM} {tx : tX} {n q1 q2 m : Nat} {cs ds : tC} (h : xlOk M M1 tx n q1 m cs) (h' : xlOk M1 M2 tx n q2 (m + cs.length) ds) : xlOk M M2 tx n q2 m (cs ++ ds) := ⟨h'.1, h'.2.1, h'.2.2.1, by rw [List.length_append, ← Nat.add_assoc]; exact h'.2.2.2.1, (h.2.2.2.2.1.fr h'.2.2.2.2.2 (Nat.le_refl _)).app h'.2.2.2.2.1, h.2.2.2.2.2.trans h'.2.2.2.2.2 (by omega)⟩
theorem xlOk.xd {M M1 M2 : fmM} {tx : tX} {n q1 q2 m : Nat} {cs : tC} (h : xlOk M M1 tx n q1 m cs) (h' : xdOk M1 M2 tx n q2) : xlOk M M2 tx n q2 m cs := ⟨h'.1, h'.2.1, h'.2.2.2, by rw [(h'.2.2.1.1 23 4 (by decide)).1]; exact h.2.2.2.1, h.2.2.2.2.1.fr (h'.2.2.1.xl (m + cs.length)) (Nat.le_refl _), h.2.2.2.2.2.trans (h'.2.2.1.xl m) (Nat.le_refl _)⟩
theorem xlOk.xdb {M M1 M2 : fmM} {tx : tX} {n q1 m k a : Nat} {cs : tC} (h : xlOk M M1 tx n q1 m cs) (h' : xdBad M1 M2 k a) : xlBad M M2 k a := ⟨h'.1, h'.2.1, h'.2.2.1, h'.2.2.2.2, h.2.2.2.2.2.tr0 (h'.2.2.2.1.xl m)⟩
theorem xlOk.bad {M M1 M2 : fmM} {tx : tX} {n q1 m k a : Nat} {cs : tC} (h : xlOk M M1 tx n q1 m cs) (h' : xlBad M1 M2 k a) : xlBad M M2 k a := ⟨h'.1, h'.2.1, h'.2.2.1, h'.2.2.2.1, h.2.2.2.2.2.tr0 h'.2.2.2.2⟩
theorem xlPre.nil {M : fmM} {tx : tX} {n p m : Nat} (h : xlPre M tx n p m) : xlOk M M tx n p m [] := ⟨h.1, h.2.1, h.2.2.1, h.2.2.2.1, fun i c hi => (by cases hi), xlFr.refl m M⟩
theorem xlPre.next {M M1 : fmM} {tx : tX} {n p q m : Nat} {cs : tC} (h : xlPre M tx n p m) (k : xlOk M M1 tx n q m cs) (hq : p + cs.length ≤ q) : xlPre M1 tx n q (m + cs.length) := ⟨k.1, k.2.1, k.2.2.1, k.2.2.2.1, by have := h.2.2.2.2.1; omega, h.2.2.2.2.2⟩
theorem xlPre.xd {M M1 : fmM} {tx : tX} {n p q m : Nat} (h : xlPre M tx n p m) (k : xdOk M M1 tx n q) (hq : p ≤ q) : xlPre M1 tx n q m := by
  have h9 := h.next (h.nil.xd k) (by simpa using hq)
  simpa using h9
theorem xlBad.nz {M M' : fmM} {k a : Nat} (h : xlBad M M' k a) : ¬ M'.1 1 4 = 0 := by
  intro e
  have h1 := h.1
  rw [e] at h1
  have e0 : (0 : Int32).toInt = 0 := by decide
  have := h.2.2.1
  omega
theorem xlBad.go {M M1 M2 : fmM} {k a : Nat} (h : xlBad M M1 k a) (h' : xlFr 0 M1 M2) (e4 : M2.1 1 4 = M1.1 1 4) (e5 : M2.1 1 5 = M1.1 1 5) (hI : scInv Tx invX M2) : xlBad M M2 k a := ⟨by rw [e4]; exact h.1, by rw [e5]; exact h.2.1, h.2.2.1, hI, h.2.2.2.2.tr0 h'⟩
theorem emFr {W : List (Nat × Nat × Nat)} {M M' : fmM} (hW : W = [(23, 4, 1), (25, 0, 150)]) (h : scFr W M M') : xlFr 0 M M' := by
  subst hW
  refine ⟨fun k j a b c => (h k j ?_).1, fun k j a b c => (h k j ?_).2, fun j a b c => (h 1 j rfl).1⟩
  · have e2 : ((25 : Nat) == k) = false := by
      rw [beq_eq_false_iff_ne]
      omega
    by_cases e : k = 23
    · subst e
      have e4 : (Nat.ble 4 j && Nat.blt j (4 + 1)) = false := by
        cases h8 : Nat.ble 4 j with
        | false => rfl
        | true =>
          cases h9 : Nat.blt j (4 + 1) with
          | false => rfl
          | true => exact absurd ⟨rfl, (show j = 4 by have g1 := Nat.le_of_ble_eq_true h8; have g2 : j + 1 ≤ 4 + 1 := Nat.le_of_ble_eq_true h9; omega)⟩ b
      simp only [scIn, List.any_cons, List.any_nil, e2, Bool.false_and, Bool.or_false, Bool.and_assoc, e4, Bool.and_false]
    · have e1 : ((23 : Nat) == k) = false := by
        rw [beq_eq_false_iff_ne]
        omega
      simp [scIn, e1, e2]
  · have e1 : ((23 : Nat) == k) = false := by
      rw [beq_eq_false_iff_ne]
      omega
    have e2 : ((25 : Nat) == k) = false := by
      rw [beq_eq_false_iff_ne]
      omega
    simp [scIn, e1, e2]
def emM (M : fmM) (m : Nat) (x : Int32) : fmM := fmI (fmI M 25 m x) 23 4 (M.1 23 4 + 1)
theorem em_ok {M : fmM} {tx : tX} {n p m : Nat} {x : Int32} {c : Nat × Nat} (h : xS2 M tx n p) (hf : M.1 1 4 = 0) (hI : scInv Tx invX M) (hm : (M.1 23 4).toInt = (m : Int)) (h150 : m < 150) (hx : x.toInt = cdV c) : xlOk M (emM M m x) tx n p m [c] := by
  have e1 : (M.1 23 4 + 1).toInt = ((m + 1 : Nat) : Int) := i32_p1 hm (by omega)
  refine ⟨h.of rfl rfl rfl, hf, ?_, e1, fun i d hi => ?_, fun k j a b c => ?_, fun _ _ _ _ _ => rfl, fun j a b c => ?_⟩
  · refine xInv.put (xInv.put hI (scq_t x)) ⟨?_, ?_⟩
    · show (0 : Int) ≤ _
      omega
    · show _ ≤ (150 : Int)
      omega
  · cases i with
    | succ i => cases hi
    | zero =>
      cases hi
      unfold emM
      rw [fmI_k _ _ (by decide), Nat.add_zero, fmI_s]
      exact hx
  · unfold emM
    rw [fmI_at, if_neg b, fmI_at, if_neg (by omega)]
  · rfl
theorem wl_0 {w : List Int} (h : wdI wsLaw w 0 = none) : ¬ w = lwLeast ∧ ¬ w = lwMost ∧ lwK w = none := by
  simp only [wdI, wsLaw] at h
  repeat' split at h
  all_goals first | (cases h; done) | skip
  rename_i h0 h1 h2 h3 h4 h5 h6
  exact ⟨h5, h6, by unfold lwK; rw [if_neg h0, if_neg h1, if_neg h2, if_neg h3, if_neg h4]⟩
theorem wl_1 {w : List Int} {j : Nat} (h : wdI wsLaw w 0 = some j) (hj : j < 5) : ¬ w = lwLeast ∧ ¬ w = lwMost ∧ lwK w = some j := by
  simp only [wdI, wsLaw] at h
  repeat' split at h
  all_goals first | (injection h with h; subst h; exfalso; omega) | (injection h with h; subst h; rename_i h9; subst h9; exact ⟨by decide, by decide, by decide⟩) | cases h
theorem wl_5 {w : List Int} {j : Nat} (h : wdI wsLaw w 0 = some j) (hj : ¬ j < 5) : (j = 5 ∧ w = lwLeast) ∨ (j = 6 ∧ w = lwMost ∧ ¬ w = lwLeast) := by
  simp only [wdI, wsLaw] at h
  repeat' split at h
  all_goals first | (injection h with h; subst h; exfalso; omega) | (injection h with h; subst h; rename_i h9; exact Or.inl ⟨rfl, h9⟩) | (injection h with h; subst h; rename_i h9; exact Or.inr ⟨rfl, h9, by rw [h9]; decide⟩) | cases h
def spTw (tx : tX) (rc : Nat → tR tC) (q : Nat) : tR tC := spBind (spSign tx 91 q) fun _ q => spBind (rc q) fun cs q => spBind (spSign tx 44 q) fun _ q => spBind (rc q) fun ds q => spBind (spSign tx 93 q) fun _ q => .inr (cs ++ ds, q)
theorem spTw_eq (tx : tX) (rc : Nat → tR tC) (c q : Nat) : spTwo tx rc c q = spBind (spTw tx rc q) fun cs q => .inr (cs ++ [(c, 0)], q) := by
  unfold spTwo spTw spBind
  cases spSign tx 91 q with
  | inl e => rfl
  | inr r =>
    simp only
    cases rc r.2 with
    | inl e => rfl
    | inr r1 =>
      simp only
      cases spSign tx 44 r1.2 with
      | inl e => rfl
      | inr r2 =>
        simp only
        cases rc r2.2 with
        | inl e => rfl
        | inr r3 =>
          simp only
          cases spSign tx 93 r3.2 with
          | inl e => rfl
          | inr r4 => rfl
def xlE (Q : fmR → fmM → Prop) (M : fmM) (tx : tX) (n m : Nat) (r : tR tC) : Prop := (∀ (M' : fmM) (cs : tC) (q : Nat), r = .inr (cs, q) → xlOk M M' tx n q m cs → Q (.inl (some (.int 1))) M') ∧ ∀ (M' : fmM) (k a : Nat), r = .inl (k, a) → xlBad M M' k a → Q (.inl (some (.int 0))) M'
def xlG (tx : tX) (n f md : Nat) : Prop := ∀ (o p m : Nat) (M : fmM) (Q : fmR → fmM → Prop) (op : Int32), xlPre M tx n p m → op.toInt = (o : Int) → o ≤ 6 → ¬ spL tx f md o p = .inl (9, 0) → xlE Q M tx n m (spL tx f md o p) → match md with
  | 0 => pvGood Tx (8 + 4 * (6 - o)) qX1_readSum [.ref 23, .ref 1, .int op] M Q
  | 1 => pvGood Tx (7 + 4 * (6 - o)) qX1_readProduct [.ref 23, .ref 1, .int op] M Q
  | 2 => pvGood Tx (6 + 4 * (6 - o)) qX1_readUnit [.ref 23, .ref 1, .int op] M Q
  | 3 => ∀ (i : Nat) (ii : Int32) (v5 : Option Value), ii.toInt = (i : Int) → i ≤ p → pvEv Tx (8 + 4 * (6 - o)) qX1_readSum 10 [some (.ref 23), some (.ref 1), some (.int op), some (.int 1), some (.int ii), v5] [] M Q
  | _ => ∀ (i : Nat) (ii : Int32) (v5 : Option Value), ii.toInt = (i : Int) → i ≤ p → pvEv Tx (7 + 4 * (6 - o)) qX1_readProduct 10 [some (.ref 23), some (.ref 1), some (.int op), some (.int 1), some (.int ii), v5] [] M Q
theorem place1 {M : fmM} {tx : tX} {n a : Nat} (hS : xS2 M tx n a) (hf : M.1 1 4 = 0) (hI : scInv Tx invX M) (ha : ¬ tx a = -1) : xdOk M (fmI M 1 3 (M.1 1 3 + 1)) tx n (a + 1) := by
  have hlt : a < n := by
    have := hS.2.2.1
    by_cases e : a = n
    · exact absurd (hS.2.2.2.1.2.1 a (by omega)) ha
    · omega
  exact xdOk.at hS hf hI (i32_p1 hS.2.1 (by have := hS.2.2.2.1.1; omega)) hlt
theorem s_emit {M : fmM} {Q : fmR → fmM → Prop} {x1 : Int32} (bx1 : (-2147483648) ≤ x1.toInt ∧ x1.toInt ≤ 2147483647) (hI : scInv Tx invX M) (q0 : ∀ M' : fmM, scInv Tx invX M' → scFr [(23, 4, 1), (25, 0, 150)] M M' → Q (.inl none) M') : pvGood Tx 0 qX1_emit [.ref 23, .int x1] M Q := (hh_X1_emit_0 M [x1.toInt] [.ref 23, .int x1] (scEk.c1 bx1 scEk.n0) ⟨⟨23, by simp, rfl⟩, ⟨x1, rfl, scEv.at rfl⟩, trivial⟩ (fun f hf => by cases hf) hI).imp (fun r M' h => by
  obtain ⟨⟨o, ho, hr, hf9, hm⟩, h1, h2⟩ := h
  rcases List.mem_cons.mp ho with rfl | ho
  · have hr : r = .inl none := hr; subst hr; exact q0 M' h1 h2
  · cases ho)
set_option maxRecDepth 20000 in
theorem c_emit {M : fmM} {Q : fmR → fmM → Prop} {x : Int32} {m : Nat} (hm : (M.1 23 4).toInt = (m : Int)) (h150 : m < 150) (hq : Q (.inl none) (emM M m x)) : pvGood Tx 0 qX1_emit [.ref 23, .int x] M Q := by
  refine pvGood_of (Nat.le_of_ble_eq_true rfl) ?_
  show pvEv Tx 0 qX1_emit 0 [some (.ref 23), some (.int x)] [] M Q
  refine pv_aloadn (pc := 0) (n := 0) 0 rfl rfl (fm_dec dtX1_emit 0 rfl) ?_
  refine pv_getI (k := 23) (j := 4) (ci := 1) (pc := 1) pfl_X1_28 (by decide) rfl (by decide) (fm_dec dtX1_emit 1 rfl) ?_
  refine pv_sipush (pc := 4) (v := 150) (by decide) (fm_dec dtX1_emit 2 rfl) ?_
  refine pv_icmp_ge (pc := 7) 30 (by decide) (fm_dec dtX1_emit 3 rfl) (fun hc7 => by exfalso; rw [sc_le] at hc7; have h9 : (150 : Int32).toInt = 150 := (by decide); omega) (fun _ => ?_)
  refine pv_aloadn (pc := 10) (n := 0) 0 rfl rfl (fm_dec dtX1_emit 4 rfl) ?_
  refine pv_getR (k := 23) (j := 1) (ci := 1) (pc := 11) 25 rfl (by decide) pfl_X1_15 (by decide) rfl (by decide) (fm_dec dtX1_emit 5 rfl) ?_
  refine pv_aloadn (pc := 14) (n := 0) 0 rfl rfl (fm_dec dtX1_emit 6 rfl) ?_
  refine pv_getI (k := 23) (j := 4) (ci := 1) (pc := 15) pfl_X1_28 (by decide) rfl (by decide) (fm_dec dtX1_emit 7 rfl) ?_
  refine pv_iloadn (pc := 18) (n := 1) 1 rfl rfl (fm_dec dtX1_emit 8 rfl) ?_
  refine pv_iast (k := 25) (n := 150) (pc := 19) (by decide) rfl rfl (ix_in hm h150) (fm_dec dtX1_emit 9 rfl) ?_
  rw [i32_cl hm]
  refine pv_aloadn (pc := 20) (n := 0) 0 rfl rfl (fm_dec dtX1_emit 10 rfl) ?_
  refine pv_dup (pc := 21) rfl (fm_dec dtX1_emit 11 rfl) ?_
  refine pv_getI (k := 23) (j := 4) (ci := 1) (pc := 22) pfl_X1_28 (by decide) rfl (by decide) (fm_dec dtX1_emit 12 rfl) ?_
  refine pv_iconst (pc := 25) (v := 1) (by decide) (fm_dec dtX1_emit 13 rfl) ?_
  refine pv_iadd (pc := 26) (fm_dec dtX1_emit 14 rfl) ?_
  refine pv_putI (k := 23) (j := 4) (ci := 1) (pc := 27) pfl_X1_28 (by decide) rfl (by decide) (fm_dec dtX1_emit 15 rfl) ?_
  exact pv_return (pc := 30) rfl (fm_dec dtX1_emit 16 rfl) hq
set_option maxRecDepth 20000 in
theorem xo_readSum {Q : fmR → fmM → Prop} {M : fmM} {o : Nat} {op ii : Int32} {v5 : Option Value} (hq : Q (.inl (some (.int 0))) M) : pvEv Tx (8 + 4 * (6 - o)) qX1_readSum 10 [some (.ref 23), some (.ref 1), some (.int op), some (.int 0), some (.int ii), v5] [] M Q := by
  refine pv_iload (pc := 10) (i := 4) rfl (fm_dec dtX1_readSum 7 rfl) ?_
  refine pv_sipush (pc := 12) (v := 150) (by decide) (fm_dec dtX1_readSum 8 rfl) ?_
  refine pv_icmp_ge (pc := 15) 85 (by decide) (fm_dec dtX1_readSum 9 rfl) (fun hc15 => ?_) (fun hc15 => ?_)
  · refine pv_iloadn (pc := 85) (n := 3) 3 rfl rfl (fm_dec dtX1_readSum 44 rfl) ?_
    exact pv_zreturn (pc := 86) rfl (by first | exact Or.inr rfl | exact Or.inl rfl) (fm_dec dtX1_readSum 45 rfl) hq
  · refine pv_iloadn (pc := 18) (n := 3) 3 rfl rfl (fm_dec dtX1_readSum 10 rfl) ?_
    refine pv_if_eq (pc := 19) 85 (by decide) (fm_dec dtX1_readSum 11 rfl) (fun _ => ?_) (fun hc19 => by exfalso; revert hc19; decide)
    refine pv_iloadn (pc := 85) (n := 3) 3 rfl rfl (fm_dec dtX1_readSum 44 rfl) ?_
    exact pv_zreturn (pc := 86) rfl (by first | exact Or.inr rfl | exact Or.inl rfl) (fm_dec dtX1_readSum 45 rfl) hq
set_option maxRecDepth 20000 in
theorem xl_readSum0 {tx : tX} {n f : Nat} (h1 : xlG tx n f 1) (h3 : xlG tx n f 3) : xlG tx n (f + 1) 0 := by
  intro o p m M Q op hP ho ho6 hne hE
  refine pvGood_of (Nat.le_of_ble_eq_true rfl) ?_
  show pvEv Tx (8 + 4 * (6 - o)) qX1_readSum 0 [some (.ref 23), some (.ref 1), some (.int op), none, none, none] [] M Q
  refine pv_aloadn (pc := 0) (n := 0) 0 rfl rfl (fm_dec dtX1_readSum 0 rfl) ?_
  refine pv_aloadn (pc := 1) (n := 1) 1 rfl rfl (fm_dec dtX1_readSum 1 rfl) ?_
  refine pv_iloadn (pc := 2) (n := 2) 2 rfl rfl (fm_dec dtX1_readSum 2 rfl) ?_
  refine pv_invV2 (k := 23) (d' := (7 + 4 * (6 - o))) (pc := 3) pcv_X1_54 (by decide) rfl (Nat.le_of_ble_eq_true rfl) (by omega) (fm_dec dtX1_readSum 3 rfl) ?_
  refine h1 o p m M _ op hP ho ho6 (spBind_ne hne) ⟨fun M1 cs1 q1 e1 k1 => ?_, fun M1 kb ab eb hB => ?_⟩  
  · refine pv_then1 ?_
    refine pv_istoren (pc := 6) (n := 3) 3 rfl (by decide) rfl (fm_dec dtX1_readSum 4 rfl) ?_
    dsimp only [List.set_cons_zero, List.set_cons_succ]
    refine pv_iconst (pc := 7) (v := 0) (by decide) (fm_dec dtX1_readSum 5 rfl) ?_
    refine pv_istore (pc := 8) (i := 4) (by decide) rfl (fm_dec dtX1_readSum 6 rfl) ?_
    dsimp only [List.set_cons_zero, List.set_cons_succ]
    have l1 := spL_len hP.1.2.2.2.1 _ _ _ _ _ _ hP.1.2.2.1 e1
    exact h3 o q1 (m + cs1.length) M1 Q op (hP.next k1 l1.1) ho ho6 (spBind_ne (spBind_ne2 hne e1)) ⟨fun M2 ds q2 e2 k2 => hE.1 M2 _ q2 (spApp_ok e1 e2) (k1.trans k2), fun M2 k a e2 k2 => hE.2 M2 k a (spApp_b2 e1 e2) (k1.bad k2)⟩ 0 0 none (by decide) (Nat.zero_le _)
  · refine pv_then1 ?_
    refine pv_istoren (pc := 6) (n := 3) 3 rfl (by decide) rfl (fm_dec dtX1_readSum 4 rfl) ?_
    dsimp only [List.set_cons_zero, List.set_cons_succ]
    refine pv_iconst (pc := 7) (v := 0) (by decide) (fm_dec dtX1_readSum 5 rfl) ?_
    refine pv_istore (pc := 8) (i := 4) (by decide) rfl (fm_dec dtX1_readSum 6 rfl) ?_
    dsimp only [List.set_cons_zero, List.set_cons_succ]
    exact xo_readSum (hE.2 M1 kb ab (spApp_b1 eb) hB)
set_option maxRecDepth 20000 in
theorem xl_readSum3 {tx : tX} {n f : Nat} (h1 : xlG tx n f 1) (h3 : xlG tx n f 3) : xlG tx n (f + 1) 3 := by
  intro o p m M Q op hP ho ho6 hne hE i ii v5 hi hip
  show pvEv Tx (8 + 4 * (6 - o)) qX1_readSum 10 [some (.ref 23), some (.ref 1), some (.int op), some (.int 1), some (.int ii), v5] [] M Q
  refine pv_iload (pc := 10) (i := 4) rfl (fm_dec dtX1_readSum 7 rfl) ?_
  refine pv_sipush (pc := 12) (v := 150) (by decide) (fm_dec dtX1_readSum 8 rfl) ?_
  refine pv_icmp_ge (pc := 15) 85 (by decide) (fm_dec dtX1_readSum 9 rfl) (fun hc15 => ?_) (fun hc15 => ?_)
  · refine pv_iloadn (pc := 85) (n := 3) 3 rfl rfl (fm_dec dtX1_readSum 44 rfl) ?_
    exact pv_zreturn (pc := 86) rfl (by first | exact Or.inr rfl | exact Or.inl rfl) (fm_dec dtX1_readSum 45 rfl) (by have hp9 : p = n := (by rw [sc_le] at hc15; have h9 : (150 : Int32).toInt = 150 := (by decide); have := hP.1.2.2.1; have := hP.2.2.2.2.2; omega); have hm1 : tx p = -1 := hP.1.2.2.2.1.2.1 p (by omega); have hs9 : sk tx p = p := (by unfold sk; rw [sp_f (by rw [hm1]; exact tB_1)]); exact hE.1 M [] p ((if_neg (by rw [hs9, hm1]; decide)).trans ((if_neg (by rw [hs9, hm1]; decide)).trans (by rw [hs9]))) hP.nil)
  · refine pv_iloadn (pc := 18) (n := 3) 3 rfl rfl (fm_dec dtX1_readSum 10 rfl) ?_
    refine pv_if_eq (pc := 19) 85 (by decide) (fm_dec dtX1_readSum 11 rfl) (fun hc19 => by exfalso; revert hc19; decide) (fun _ => ?_)
    refine pv_aloadn (pc := 22) (n := 1) 1 rfl rfl (fm_dec dtX1_readSum 12 rfl) ?_
    refine pv_invV0 (k := 1) (d' := 0) (pc := 23) pcv_X1_35 (by decide) rfl (Nat.le_of_ble_eq_true rfl) (by omega) (fm_dec dtX1_readSum 13 rfl) ?_
    refine x_peek hP.1 hP.2.1 hP.2.2.1 (fun M23 v23 hv23 k23 => ?_)
    refine pv_then1 ?_
    refine pv_istore (pc := 26) (i := 5) (by decide) rfl (fm_dec dtX1_readSum 14 rfl) ?_
    dsimp only [List.set_cons_zero, List.set_cons_succ]
    refine pv_iload (pc := 28) (i := 5) rfl (fm_dec dtX1_readSum 15 rfl) ?_
    refine pv_bipush (pc := 30) (v := 43) (by decide) (fm_dec dtX1_readSum 16 rfl) ?_
    refine pv_icmp_eq (pc := 32) 44 (by decide) (fm_dec dtX1_readSum 17 rfl) (fun hc32 => ?_) (fun hc32 => ?_)
    · have t43 : tx (sk tx p) = 43 := (by rw [← hv23, hc32]; decide)
      have k44 := place1 k23.1 k23.2.1 k23.2.2.2 (by rw [t43]; decide)
      have hsk : p ≤ sk tx p := sp_ge p
      have hP57 := (hP.xd k23 hsk).xd k44 (Nat.le_succ _)
      have ne57 : ¬ spOp 2 (spL tx f 1 o (sk tx p + 1)) (fun q => spL tx f 3 o q) = .inl (9, 0) := fun h9 => hne ((if_pos t43).trans h9)
      refine pv_aloadn (pc := 44) (n := 1) 1 rfl rfl (fm_dec dtX1_readSum 23 rfl) ?_
      refine pv_dup (pc := 45) rfl (fm_dec dtX1_readSum 24 rfl) ?_
      refine pv_getI (k := 1) (j := 3) (ci := 7) (pc := 46) pfl_X1_41 (by decide) rfl (by decide) (fm_dec dtX1_readSum 25 rfl) ?_
      refine pv_iconst (pc := 49) (v := 1) (by decide) (fm_dec dtX1_readSum 26 rfl) ?_
      refine pv_iadd (pc := 50) (fm_dec dtX1_readSum 27 rfl) ?_
      refine pv_putI (k := 1) (j := 3) (ci := 7) (pc := 51) pfl_X1_41 (by decide) rfl (by decide) (fm_dec dtX1_readSum 28 rfl) ?_
      refine pv_aloadn (pc := 54) (n := 0) 0 rfl rfl (fm_dec dtX1_readSum 29 rfl) ?_
      refine pv_aloadn (pc := 55) (n := 1) 1 rfl rfl (fm_dec dtX1_readSum 30 rfl) ?_
      refine pv_iloadn (pc := 56) (n := 2) 2 rfl rfl (fm_dec dtX1_readSum 31 rfl) ?_
      refine pv_invV2 (k := 23) (d' := (7 + 4 * (6 - o))) (pc := 57) pcv_X1_54 (by decide) rfl (Nat.le_of_ble_eq_true rfl) (by omega) (fm_dec dtX1_readSum 32 rfl) ?_
      refine h1 o (sk tx p + 1) m _ _ op hP57 ho ho6 (spBind_ne ne57) ⟨fun M57 c57 q57 e57 k57 => ?_, fun M57 kb ab eb hB => ?_⟩  
      · refine pv_then1 ?_
        have l57 := spL_len hP.1.2.2.2.1 _ _ _ _ _ _ hP57.1.2.2.1 e57
        have hP61 := hP57.next k57 l57.1
        have m57 : m + c57.length < 150 := (by have := l57.2.1; have := hP.2.2.2.2.2; have := hP.2.2.2.2.1; have := l57.1; omega)
        have k76 := em_ok (x := (-8)) (c := (2, 0)) k57.1 k57.2.1 k57.2.2.1 hP61.2.2.2.1 m57 (by decide)
        refine pv_istoren (pc := 60) (n := 3) 3 rfl (by decide) rfl (fm_dec dtX1_readSum 33 rfl) ?_
        dsimp only [List.set_cons_zero, List.set_cons_succ]
        refine pv_aloadn (pc := 61) (n := 0) 0 rfl rfl (fm_dec dtX1_readSum 34 rfl) ?_
        refine pv_iload (pc := 62) (i := 5) rfl (fm_dec dtX1_readSum 35 rfl) ?_
        refine pv_bipush (pc := 64) (v := 43) (by decide) (fm_dec dtX1_readSum 36 rfl) ?_
        refine pv_icmp_ne (pc := 66) 74 (by decide) (fm_dec dtX1_readSum 37 rfl) (fun hc66 => by exfalso; exact hc66 hc32) (fun _ => ?_)
        refine pv_bipush (pc := 69) (v := (-8)) (by decide) (fm_dec dtX1_readSum 38 rfl) ?_
        refine pv_goto (pc := 71) 76 (by decide) (fm_dec dtX1_readSum 39 rfl) ?_
        refine pv_invV1 (k := 23) (d' := 0) (pc := 76) pcv_X1_57 (by decide) rfl (Nat.le_of_ble_eq_true rfl) (by omega) (fm_dec dtX1_readSum 41 rfl) ?_
        refine c_emit hP61.2.2.2.1 m57 ?_ 
        refine pv_then0 ?_
        refine pv_iincc (pc := 79) 4 1 (by decide) rfl (by decide) rfl (fm_dec dtX1_readSum 42 rfl) ?_
        dsimp only [List.set_cons_zero, List.set_cons_succ]
        refine pv_goto (pc := 82) 10 (by decide) (fm_dec dtX1_readSum 43 rfl) ?_
        have hP9 : xlPre (emM M57 (m + c57.length) (-8)) tx n q57 (m + (c57.length + 1)) := ⟨k76.1, k76.2.1, k76.2.2.1, (by have h9 := k76.2.2.2.1; simpa [Nat.add_assoc] using h9), (by have := hP.2.2.2.2.1; have := l57.1; omega), hP.2.2.2.2.2⟩
        have kA : xlOk M M57 tx n q57 m c57 := (by have h9 := ((hP.nil.xd k23).xd k44).trans (by simpa using k57); simpa using h9)
        have kB : xlOk M (emM M57 (m + c57.length) (-8)) tx n q57 m (c57 ++ [(2, 0)]) := kA.trans k76
        have ne9 := spBind_ne (spBind_ne2 ne57 e57)
        exact h3 o q57 (m + (c57.length + 1)) _ Q op hP9 ho ho6 ne9 ⟨fun M2 ds q2 e2 k2 => hE.1 M2 _ q2 ((if_pos t43).trans (spOp_ok e57 e2)) (by have h9 := kB.trans (ds := ds) (by simpa [Nat.add_assoc] using k2); simpa using h9), fun M2 k a e2 k2 => hE.2 M2 k a ((if_pos t43).trans (spOp_b2 e57 e2)) (kB.bad k2)⟩ (i + 1) _ _ (i32_p1 hi (by have h150 := hP9.2.2.2.2.2; omega)) (by have := l57.1; omega)
      · refine pv_then1 ?_
        refine pv_istoren (pc := 60) (n := 3) 3 rfl (by decide) rfl (fm_dec dtX1_readSum 33 rfl) ?_
        dsimp only [List.set_cons_zero, List.set_cons_succ]
        refine pv_aloadn (pc := 61) (n := 0) 0 rfl rfl (fm_dec dtX1_readSum 34 rfl) ?_
        refine pv_iload (pc := 62) (i := 5) rfl (fm_dec dtX1_readSum 35 rfl) ?_
        refine pv_bipush (pc := 64) (v := 43) (by decide) (fm_dec dtX1_readSum 36 rfl) ?_
        refine pv_icmp_ne (pc := 66) 74 (by decide) (fm_dec dtX1_readSum 37 rfl) (fun hc66 => by exfalso; exact hc66 hc32) (fun _ => ?_)
        refine pv_bipush (pc := 69) (v := (-8)) (by decide) (fm_dec dtX1_readSum 38 rfl) ?_
        refine pv_goto (pc := 71) 76 (by decide) (fm_dec dtX1_readSum 39 rfl) ?_
        refine pv_invV1 (k := 23) (d' := 0) (pc := 76) pcv_X1_57 (by decide) rfl (Nat.le_of_ble_eq_true rfl) (by omega) (fm_dec dtX1_readSum 41 rfl) ?_
        refine s_emit (scq_t _) hB.2.2.2.1 (fun M76 hI76 f76 => ?_)
        refine pv_then0 ?_
        refine pv_iincc (pc := 79) 4 1 (by decide) rfl (by decide) rfl (fm_dec dtX1_readSum 42 rfl) ?_
        dsimp only [List.set_cons_zero, List.set_cons_succ]
        refine pv_goto (pc := 82) 10 (by decide) (fm_dec dtX1_readSum 43 rfl) ?_
        exact xo_readSum (hE.2 _ kb ab ((if_pos t43).trans (spOp_b1 eb)) (((hP.nil.xd k23).xd k44).bad (hB.go (emFr rfl f76) (f76 1 4 rfl).1 (f76 1 5 rfl).1 hI76)))
    · refine pv_iload (pc := 35) (i := 5) rfl (fm_dec dtX1_readSum 18 rfl) ?_
      refine pv_bipush (pc := 37) (v := 45) (by decide) (fm_dec dtX1_readSum 19 rfl) ?_
      refine pv_icmp_eq (pc := 39) 44 (by decide) (fm_dec dtX1_readSum 20 rfl) (fun hc39 => ?_) (fun hc39 => ?_)
      · have t43n : ¬ tx (sk tx p) = 43 := (fun h9 => hc32 (i32_ext (hv23.trans (h9.trans (by decide)))))
        have t45 : tx (sk tx p) = 45 := (by rw [← hv23, hc39]; decide)
        have k44 := place1 k23.1 k23.2.1 k23.2.2.2 (by rw [t45]; decide)
        have hsk : p ≤ sk tx p := sp_ge p
        have hP57 := (hP.xd k23 hsk).xd k44 (Nat.le_succ _)
        have ne57 : ¬ spOp 3 (spL tx f 1 o (sk tx p + 1)) (fun q => spL tx f 3 o q) = .inl (9, 0) := fun h9 => hne (((if_neg t43n).trans (if_pos t45)).trans h9)
        refine pv_aloadn (pc := 44) (n := 1) 1 rfl rfl (fm_dec dtX1_readSum 23 rfl) ?_
        refine pv_dup (pc := 45) rfl (fm_dec dtX1_readSum 24 rfl) ?_
        refine pv_getI (k := 1) (j := 3) (ci := 7) (pc := 46) pfl_X1_41 (by decide) rfl (by decide) (fm_dec dtX1_readSum 25 rfl) ?_
        refine pv_iconst (pc := 49) (v := 1) (by decide) (fm_dec dtX1_readSum 26 rfl) ?_
        refine pv_iadd (pc := 50) (fm_dec dtX1_readSum 27 rfl) ?_
        refine pv_putI (k := 1) (j := 3) (ci := 7) (pc := 51) pfl_X1_41 (by decide) rfl (by decide) (fm_dec dtX1_readSum 28 rfl) ?_
        refine pv_aloadn (pc := 54) (n := 0) 0 rfl rfl (fm_dec dtX1_readSum 29 rfl) ?_
        refine pv_aloadn (pc := 55) (n := 1) 1 rfl rfl (fm_dec dtX1_readSum 30 rfl) ?_
        refine pv_iloadn (pc := 56) (n := 2) 2 rfl rfl (fm_dec dtX1_readSum 31 rfl) ?_
        refine pv_invV2 (k := 23) (d' := (7 + 4 * (6 - o))) (pc := 57) pcv_X1_54 (by decide) rfl (Nat.le_of_ble_eq_true rfl) (by omega) (fm_dec dtX1_readSum 32 rfl) ?_
        refine h1 o (sk tx p + 1) m _ _ op hP57 ho ho6 (spBind_ne ne57) ⟨fun M57 c57 q57 e57 k57 => ?_, fun M57 kb ab eb hB => ?_⟩  
        · refine pv_then1 ?_
          have l57 := spL_len hP.1.2.2.2.1 _ _ _ _ _ _ hP57.1.2.2.1 e57
          have hP61 := hP57.next k57 l57.1
          have m57 : m + c57.length < 150 := (by have := l57.2.1; have := hP.2.2.2.2.2; have := hP.2.2.2.2.1; have := l57.1; omega)
          have k76 := em_ok (x := (-9)) (c := (3, 0)) k57.1 k57.2.1 k57.2.2.1 hP61.2.2.2.1 m57 (by decide)
          refine pv_istoren (pc := 60) (n := 3) 3 rfl (by decide) rfl (fm_dec dtX1_readSum 33 rfl) ?_
          dsimp only [List.set_cons_zero, List.set_cons_succ]
          refine pv_aloadn (pc := 61) (n := 0) 0 rfl rfl (fm_dec dtX1_readSum 34 rfl) ?_
          refine pv_iload (pc := 62) (i := 5) rfl (fm_dec dtX1_readSum 35 rfl) ?_
          refine pv_bipush (pc := 64) (v := 43) (by decide) (fm_dec dtX1_readSum 36 rfl) ?_
          refine pv_icmp_ne (pc := 66) 74 (by decide) (fm_dec dtX1_readSum 37 rfl) (fun _ => ?_) (fun hc66 => by exfalso; exact hc32 hc66)
          refine pv_bipush (pc := 74) (v := (-9)) (by decide) (fm_dec dtX1_readSum 40 rfl) ?_
          refine pv_invV1 (k := 23) (d' := 0) (pc := 76) pcv_X1_57 (by decide) rfl (Nat.le_of_ble_eq_true rfl) (by omega) (fm_dec dtX1_readSum 41 rfl) ?_
          refine c_emit hP61.2.2.2.1 m57 ?_ 
          refine pv_then0 ?_
          refine pv_iincc (pc := 79) 4 1 (by decide) rfl (by decide) rfl (fm_dec dtX1_readSum 42 rfl) ?_
          dsimp only [List.set_cons_zero, List.set_cons_succ]
          refine pv_goto (pc := 82) 10 (by decide) (fm_dec dtX1_readSum 43 rfl) ?_
          have hP9 : xlPre (emM M57 (m + c57.length) (-9)) tx n q57 (m + (c57.length + 1)) := ⟨k76.1, k76.2.1, k76.2.2.1, (by have h9 := k76.2.2.2.1; simpa [Nat.add_assoc] using h9), (by have := hP.2.2.2.2.1; have := l57.1; omega), hP.2.2.2.2.2⟩
          have kA : xlOk M M57 tx n q57 m c57 := (by have h9 := ((hP.nil.xd k23).xd k44).trans (by simpa using k57); simpa using h9)
          have kB : xlOk M (emM M57 (m + c57.length) (-9)) tx n q57 m (c57 ++ [(3, 0)]) := kA.trans k76
          have ne9 := spBind_ne (spBind_ne2 ne57 e57)
          exact h3 o q57 (m + (c57.length + 1)) _ Q op hP9 ho ho6 ne9 ⟨fun M2 ds q2 e2 k2 => hE.1 M2 _ q2 (((if_neg t43n).trans (if_pos t45)).trans (spOp_ok e57 e2)) (by have h9 := kB.trans (ds := ds) (by simpa [Nat.add_assoc] using k2); simpa using h9), fun M2 k a e2 k2 => hE.2 M2 k a (((if_neg t43n).trans (if_pos t45)).trans (spOp_b2 e57 e2)) (kB.bad k2)⟩ (i + 1) _ _ (i32_p1 hi (by have h150 := hP9.2.2.2.2.2; omega)) (by have := l57.1; omega)
        · refine pv_then1 ?_
          refine pv_istoren (pc := 60) (n := 3) 3 rfl (by decide) rfl (fm_dec dtX1_readSum 33 rfl) ?_
          dsimp only [List.set_cons_zero, List.set_cons_succ]
          refine pv_aloadn (pc := 61) (n := 0) 0 rfl rfl (fm_dec dtX1_readSum 34 rfl) ?_
          refine pv_iload (pc := 62) (i := 5) rfl (fm_dec dtX1_readSum 35 rfl) ?_
          refine pv_bipush (pc := 64) (v := 43) (by decide) (fm_dec dtX1_readSum 36 rfl) ?_
          refine pv_icmp_ne (pc := 66) 74 (by decide) (fm_dec dtX1_readSum 37 rfl) (fun _ => ?_) (fun hc66 => by exfalso; exact hc32 hc66)
          refine pv_bipush (pc := 74) (v := (-9)) (by decide) (fm_dec dtX1_readSum 40 rfl) ?_
          refine pv_invV1 (k := 23) (d' := 0) (pc := 76) pcv_X1_57 (by decide) rfl (Nat.le_of_ble_eq_true rfl) (by omega) (fm_dec dtX1_readSum 41 rfl) ?_
          refine s_emit (scq_t _) hB.2.2.2.1 (fun M76 hI76 f76 => ?_)
          refine pv_then0 ?_
          refine pv_iincc (pc := 79) 4 1 (by decide) rfl (by decide) rfl (fm_dec dtX1_readSum 42 rfl) ?_
          dsimp only [List.set_cons_zero, List.set_cons_succ]
          refine pv_goto (pc := 82) 10 (by decide) (fm_dec dtX1_readSum 43 rfl) ?_
          exact xo_readSum (hE.2 _ kb ab (((if_neg t43n).trans (if_pos t45)).trans (spOp_b1 eb)) (((hP.nil.xd k23).xd k44).bad (hB.go (emFr rfl f76) (f76 1 4 rfl).1 (f76 1 5 rfl).1 hI76)))
      · refine pv_iconst (pc := 42) (v := 1) (by decide) (fm_dec dtX1_readSum 21 rfl) ?_
        exact pv_zreturn (pc := 43) rfl (by first | exact Or.inr rfl | exact Or.inl rfl) (fm_dec dtX1_readSum 22 rfl) (hE.1 M23 [] (sk tx p) ((if_neg (fun h9 => hc32 (i32_ext (hv23.trans (h9.trans (by decide)))))).trans (if_neg (fun h9 => hc39 (i32_ext (hv23.trans (h9.trans (by decide))))))) (hP.nil.xd k23))
set_option maxRecDepth 20000 in
theorem xo_readProduct {Q : fmR → fmM → Prop} {M : fmM} {o : Nat} {op ii : Int32} {v5 : Option Value} (hq : Q (.inl (some (.int 0))) M) : pvEv Tx (7 + 4 * (6 - o)) qX1_readProduct 10 [some (.ref 23), some (.ref 1), some (.int op), some (.int 0), some (.int ii), v5] [] M Q := by
  refine pv_iload (pc := 10) (i := 4) rfl (fm_dec dtX1_readProduct 7 rfl) ?_
  refine pv_sipush (pc := 12) (v := 150) (by decide) (fm_dec dtX1_readProduct 8 rfl) ?_
  refine pv_icmp_ge (pc := 15) 85 (by decide) (fm_dec dtX1_readProduct 9 rfl) (fun hc15 => ?_) (fun hc15 => ?_)
  · refine pv_iloadn (pc := 85) (n := 3) 3 rfl rfl (fm_dec dtX1_readProduct 44 rfl) ?_
    exact pv_zreturn (pc := 86) rfl (by first | exact Or.inr rfl | exact Or.inl rfl) (fm_dec dtX1_readProduct 45 rfl) hq
  · refine pv_iloadn (pc := 18) (n := 3) 3 rfl rfl (fm_dec dtX1_readProduct 10 rfl) ?_
    refine pv_if_eq (pc := 19) 85 (by decide) (fm_dec dtX1_readProduct 11 rfl) (fun _ => ?_) (fun hc19 => by exfalso; revert hc19; decide)
    refine pv_iloadn (pc := 85) (n := 3) 3 rfl rfl (fm_dec dtX1_readProduct 44 rfl) ?_
    exact pv_zreturn (pc := 86) rfl (by first | exact Or.inr rfl | exact Or.inl rfl) (fm_dec dtX1_readProduct 45 rfl) hq
set_option maxRecDepth 20000 in
theorem xl_readProduct0 {tx : tX} {n f : Nat} (h1 : xlG tx n f 2) (h3 : xlG tx n f 4) : xlG tx n (f + 1) 1 := by
  intro o p m M Q op hP ho ho6 hne hE
  refine pvGood_of (Nat.le_of_ble_eq_true rfl) ?_
  show pvEv Tx (7 + 4 * (6 - o)) qX1_readProduct 0 [some (.ref 23), some (.ref 1), some (.int op), none, none, none] [] M Q
  refine pv_aloadn (pc := 0) (n := 0) 0 rfl rfl (fm_dec dtX1_readProduct 0 rfl) ?_
  refine pv_aloadn (pc := 1) (n := 1) 1 rfl rfl (fm_dec dtX1_readProduct 1 rfl) ?_
  refine pv_iloadn (pc := 2) (n := 2) 2 rfl rfl (fm_dec dtX1_readProduct 2 rfl) ?_
  refine pv_invV2 (k := 23) (d' := (6 + 4 * (6 - o))) (pc := 3) pcv_X1_61 (by decide) rfl (Nat.le_of_ble_eq_true rfl) (by omega) (fm_dec dtX1_readProduct 3 rfl) ?_
  refine h1 o p m M _ op hP ho ho6 (spBind_ne hne) ⟨fun M1 cs1 q1 e1 k1 => ?_, fun M1 kb ab eb hB => ?_⟩  
  · refine pv_then1 ?_
    refine pv_istoren (pc := 6) (n := 3) 3 rfl (by decide) rfl (fm_dec dtX1_readProduct 4 rfl) ?_
    dsimp only [List.set_cons_zero, List.set_cons_succ]
    refine pv_iconst (pc := 7) (v := 0) (by decide) (fm_dec dtX1_readProduct 5 rfl) ?_
    refine pv_istore (pc := 8) (i := 4) (by decide) rfl (fm_dec dtX1_readProduct 6 rfl) ?_
    dsimp only [List.set_cons_zero, List.set_cons_succ]
    have l1 := spL_len hP.1.2.2.2.1 _ _ _ _ _ _ hP.1.2.2.1 e1
    exact h3 o q1 (m + cs1.length) M1 Q op (hP.next k1 l1.1) ho ho6 (spBind_ne (spBind_ne2 hne e1)) ⟨fun M2 ds q2 e2 k2 => hE.1 M2 _ q2 (spApp_ok e1 e2) (k1.trans k2), fun M2 k a e2 k2 => hE.2 M2 k a (spApp_b2 e1 e2) (k1.bad k2)⟩ 0 0 none (by decide) (Nat.zero_le _)
  · refine pv_then1 ?_
    refine pv_istoren (pc := 6) (n := 3) 3 rfl (by decide) rfl (fm_dec dtX1_readProduct 4 rfl) ?_
    dsimp only [List.set_cons_zero, List.set_cons_succ]
    refine pv_iconst (pc := 7) (v := 0) (by decide) (fm_dec dtX1_readProduct 5 rfl) ?_
    refine pv_istore (pc := 8) (i := 4) (by decide) rfl (fm_dec dtX1_readProduct 6 rfl) ?_
    dsimp only [List.set_cons_zero, List.set_cons_succ]
    exact xo_readProduct (hE.2 M1 kb ab (spApp_b1 eb) hB)
set_option maxRecDepth 20000 in
theorem xl_readProduct3 {tx : tX} {n f : Nat} (h1 : xlG tx n f 2) (h3 : xlG tx n f 4) : xlG tx n (f + 1) 4 := by
  intro o p m M Q op hP ho ho6 hne hE i ii v5 hi hip
  show pvEv Tx (7 + 4 * (6 - o)) qX1_readProduct 10 [some (.ref 23), some (.ref 1), some (.int op), some (.int 1), some (.int ii), v5] [] M Q
  refine pv_iload (pc := 10) (i := 4) rfl (fm_dec dtX1_readProduct 7 rfl) ?_
  refine pv_sipush (pc := 12) (v := 150) (by decide) (fm_dec dtX1_readProduct 8 rfl) ?_
  refine pv_icmp_ge (pc := 15) 85 (by decide) (fm_dec dtX1_readProduct 9 rfl) (fun hc15 => ?_) (fun hc15 => ?_)
  · refine pv_iloadn (pc := 85) (n := 3) 3 rfl rfl (fm_dec dtX1_readProduct 44 rfl) ?_
    exact pv_zreturn (pc := 86) rfl (by first | exact Or.inr rfl | exact Or.inl rfl) (fm_dec dtX1_readProduct 45 rfl) (by have hp9 : p = n := (by rw [sc_le] at hc15; have h9 : (150 : Int32).toInt = 150 := (by decide); have := hP.1.2.2.1; have := hP.2.2.2.2.2; omega); have hm1 : tx p = -1 := hP.1.2.2.2.1.2.1 p (by omega); have hs9 : sk tx p = p := (by unfold sk; rw [sp_f (by rw [hm1]; exact tB_1)]); exact hE.1 M [] p ((if_neg (by rw [hs9, hm1]; decide)).trans ((if_neg (by rw [hs9, hm1]; decide)).trans (by rw [hs9]))) hP.nil)
  · refine pv_iloadn (pc := 18) (n := 3) 3 rfl rfl (fm_dec dtX1_readProduct 10 rfl) ?_
    refine pv_if_eq (pc := 19) 85 (by decide) (fm_dec dtX1_readProduct 11 rfl) (fun hc19 => by exfalso; revert hc19; decide) (fun _ => ?_)
    refine pv_aloadn (pc := 22) (n := 1) 1 rfl rfl (fm_dec dtX1_readProduct 12 rfl) ?_
    refine pv_invV0 (k := 1) (d' := 0) (pc := 23) pcv_X1_35 (by decide) rfl (Nat.le_of_ble_eq_true rfl) (by omega) (fm_dec dtX1_readProduct 13 rfl) ?_
    refine x_peek hP.1 hP.2.1 hP.2.2.1 (fun M23 v23 hv23 k23 => ?_)
    refine pv_then1 ?_
    refine pv_istore (pc := 26) (i := 5) (by decide) rfl (fm_dec dtX1_readProduct 14 rfl) ?_
    dsimp only [List.set_cons_zero, List.set_cons_succ]
    refine pv_iload (pc := 28) (i := 5) rfl (fm_dec dtX1_readProduct 15 rfl) ?_
    refine pv_bipush (pc := 30) (v := 42) (by decide) (fm_dec dtX1_readProduct 16 rfl) ?_
    refine pv_icmp_eq (pc := 32) 44 (by decide) (fm_dec dtX1_readProduct 17 rfl) (fun hc32 => ?_) (fun hc32 => ?_)
    · have t43 : tx (sk tx p) = 42 := (by rw [← hv23, hc32]; decide)
      have k44 := place1 k23.1 k23.2.1 k23.2.2.2 (by rw [t43]; decide)
      have hsk : p ≤ sk tx p := sp_ge p
      have hP57 := (hP.xd k23 hsk).xd k44 (Nat.le_succ _)
      have ne57 : ¬ spOp 4 (spL tx f 2 o (sk tx p + 1)) (fun q => spL tx f 4 o q) = .inl (9, 0) := fun h9 => hne ((if_pos t43).trans h9)
      refine pv_aloadn (pc := 44) (n := 1) 1 rfl rfl (fm_dec dtX1_readProduct 23 rfl) ?_
      refine pv_dup (pc := 45) rfl (fm_dec dtX1_readProduct 24 rfl) ?_
      refine pv_getI (k := 1) (j := 3) (ci := 7) (pc := 46) pfl_X1_41 (by decide) rfl (by decide) (fm_dec dtX1_readProduct 25 rfl) ?_
      refine pv_iconst (pc := 49) (v := 1) (by decide) (fm_dec dtX1_readProduct 26 rfl) ?_
      refine pv_iadd (pc := 50) (fm_dec dtX1_readProduct 27 rfl) ?_
      refine pv_putI (k := 1) (j := 3) (ci := 7) (pc := 51) pfl_X1_41 (by decide) rfl (by decide) (fm_dec dtX1_readProduct 28 rfl) ?_
      refine pv_aloadn (pc := 54) (n := 0) 0 rfl rfl (fm_dec dtX1_readProduct 29 rfl) ?_
      refine pv_aloadn (pc := 55) (n := 1) 1 rfl rfl (fm_dec dtX1_readProduct 30 rfl) ?_
      refine pv_iloadn (pc := 56) (n := 2) 2 rfl rfl (fm_dec dtX1_readProduct 31 rfl) ?_
      refine pv_invV2 (k := 23) (d' := (6 + 4 * (6 - o))) (pc := 57) pcv_X1_61 (by decide) rfl (Nat.le_of_ble_eq_true rfl) (by omega) (fm_dec dtX1_readProduct 32 rfl) ?_
      refine h1 o (sk tx p + 1) m _ _ op hP57 ho ho6 (spBind_ne ne57) ⟨fun M57 c57 q57 e57 k57 => ?_, fun M57 kb ab eb hB => ?_⟩  
      · refine pv_then1 ?_
        have l57 := spL_len hP.1.2.2.2.1 _ _ _ _ _ _ hP57.1.2.2.1 e57
        have hP61 := hP57.next k57 l57.1
        have m57 : m + c57.length < 150 := (by have := l57.2.1; have := hP.2.2.2.2.2; have := hP.2.2.2.2.1; have := l57.1; omega)
        have k76 := em_ok (x := (-10)) (c := (4, 0)) k57.1 k57.2.1 k57.2.2.1 hP61.2.2.2.1 m57 (by decide)
        refine pv_istoren (pc := 60) (n := 3) 3 rfl (by decide) rfl (fm_dec dtX1_readProduct 33 rfl) ?_
        dsimp only [List.set_cons_zero, List.set_cons_succ]
        refine pv_aloadn (pc := 61) (n := 0) 0 rfl rfl (fm_dec dtX1_readProduct 34 rfl) ?_
        refine pv_iload (pc := 62) (i := 5) rfl (fm_dec dtX1_readProduct 35 rfl) ?_
        refine pv_bipush (pc := 64) (v := 42) (by decide) (fm_dec dtX1_readProduct 36 rfl) ?_
        refine pv_icmp_ne (pc := 66) 74 (by decide) (fm_dec dtX1_readProduct 37 rfl) (fun hc66 => by exfalso; exact hc66 hc32) (fun _ => ?_)
        refine pv_bipush (pc := 69) (v := (-10)) (by decide) (fm_dec dtX1_readProduct 38 rfl) ?_
        refine pv_goto (pc := 71) 76 (by decide) (fm_dec dtX1_readProduct 39 rfl) ?_
        refine pv_invV1 (k := 23) (d' := 0) (pc := 76) pcv_X1_57 (by decide) rfl (Nat.le_of_ble_eq_true rfl) (by omega) (fm_dec dtX1_readProduct 41 rfl) ?_
        refine c_emit hP61.2.2.2.1 m57 ?_ 
        refine pv_then0 ?_
        refine pv_iincc (pc := 79) 4 1 (by decide) rfl (by decide) rfl (fm_dec dtX1_readProduct 42 rfl) ?_
        dsimp only [List.set_cons_zero, List.set_cons_succ]
        refine pv_goto (pc := 82) 10 (by decide) (fm_dec dtX1_readProduct 43 rfl) ?_
        have hP9 : xlPre (emM M57 (m + c57.length) (-10)) tx n q57 (m + (c57.length + 1)) := ⟨k76.1, k76.2.1, k76.2.2.1, (by have h9 := k76.2.2.2.1; simpa [Nat.add_assoc] using h9), (by have := hP.2.2.2.2.1; have := l57.1; omega), hP.2.2.2.2.2⟩
        have kA : xlOk M M57 tx n q57 m c57 := (by have h9 := ((hP.nil.xd k23).xd k44).trans (by simpa using k57); simpa using h9)
        have kB : xlOk M (emM M57 (m + c57.length) (-10)) tx n q57 m (c57 ++ [(4, 0)]) := kA.trans k76
        have ne9 := spBind_ne (spBind_ne2 ne57 e57)
        exact h3 o q57 (m + (c57.length + 1)) _ Q op hP9 ho ho6 ne9 ⟨fun M2 ds q2 e2 k2 => hE.1 M2 _ q2 ((if_pos t43).trans (spOp_ok e57 e2)) (by have h9 := kB.trans (ds := ds) (by simpa [Nat.add_assoc] using k2); simpa using h9), fun M2 k a e2 k2 => hE.2 M2 k a ((if_pos t43).trans (spOp_b2 e57 e2)) (kB.bad k2)⟩ (i + 1) _ _ (i32_p1 hi (by have h150 := hP9.2.2.2.2.2; omega)) (by have := l57.1; omega)
      · refine pv_then1 ?_
        refine pv_istoren (pc := 60) (n := 3) 3 rfl (by decide) rfl (fm_dec dtX1_readProduct 33 rfl) ?_
        dsimp only [List.set_cons_zero, List.set_cons_succ]
        refine pv_aloadn (pc := 61) (n := 0) 0 rfl rfl (fm_dec dtX1_readProduct 34 rfl) ?_
        refine pv_iload (pc := 62) (i := 5) rfl (fm_dec dtX1_readProduct 35 rfl) ?_
        refine pv_bipush (pc := 64) (v := 42) (by decide) (fm_dec dtX1_readProduct 36 rfl) ?_
        refine pv_icmp_ne (pc := 66) 74 (by decide) (fm_dec dtX1_readProduct 37 rfl) (fun hc66 => by exfalso; exact hc66 hc32) (fun _ => ?_)
        refine pv_bipush (pc := 69) (v := (-10)) (by decide) (fm_dec dtX1_readProduct 38 rfl) ?_
        refine pv_goto (pc := 71) 76 (by decide) (fm_dec dtX1_readProduct 39 rfl) ?_
        refine pv_invV1 (k := 23) (d' := 0) (pc := 76) pcv_X1_57 (by decide) rfl (Nat.le_of_ble_eq_true rfl) (by omega) (fm_dec dtX1_readProduct 41 rfl) ?_
        refine s_emit (scq_t _) hB.2.2.2.1 (fun M76 hI76 f76 => ?_)
        refine pv_then0 ?_
        refine pv_iincc (pc := 79) 4 1 (by decide) rfl (by decide) rfl (fm_dec dtX1_readProduct 42 rfl) ?_
        dsimp only [List.set_cons_zero, List.set_cons_succ]
        refine pv_goto (pc := 82) 10 (by decide) (fm_dec dtX1_readProduct 43 rfl) ?_
        exact xo_readProduct (hE.2 _ kb ab ((if_pos t43).trans (spOp_b1 eb)) (((hP.nil.xd k23).xd k44).bad (hB.go (emFr rfl f76) (f76 1 4 rfl).1 (f76 1 5 rfl).1 hI76)))
    · refine pv_iload (pc := 35) (i := 5) rfl (fm_dec dtX1_readProduct 18 rfl) ?_
      refine pv_bipush (pc := 37) (v := 47) (by decide) (fm_dec dtX1_readProduct 19 rfl) ?_
      refine pv_icmp_eq (pc := 39) 44 (by decide) (fm_dec dtX1_readProduct 20 rfl) (fun hc39 => ?_) (fun hc39 => ?_)
      · have t43n : ¬ tx (sk tx p) = 42 := (fun h9 => hc32 (i32_ext (hv23.trans (h9.trans (by decide)))))
        have t45 : tx (sk tx p) = 47 := (by rw [← hv23, hc39]; decide)
        have k44 := place1 k23.1 k23.2.1 k23.2.2.2 (by rw [t45]; decide)
        have hsk : p ≤ sk tx p := sp_ge p
        have hP57 := (hP.xd k23 hsk).xd k44 (Nat.le_succ _)
        have ne57 : ¬ spOp 5 (spL tx f 2 o (sk tx p + 1)) (fun q => spL tx f 4 o q) = .inl (9, 0) := fun h9 => hne (((if_neg t43n).trans (if_pos t45)).trans h9)
        refine pv_aloadn (pc := 44) (n := 1) 1 rfl rfl (fm_dec dtX1_readProduct 23 rfl) ?_
        refine pv_dup (pc := 45) rfl (fm_dec dtX1_readProduct 24 rfl) ?_
        refine pv_getI (k := 1) (j := 3) (ci := 7) (pc := 46) pfl_X1_41 (by decide) rfl (by decide) (fm_dec dtX1_readProduct 25 rfl) ?_
        refine pv_iconst (pc := 49) (v := 1) (by decide) (fm_dec dtX1_readProduct 26 rfl) ?_
        refine pv_iadd (pc := 50) (fm_dec dtX1_readProduct 27 rfl) ?_
        refine pv_putI (k := 1) (j := 3) (ci := 7) (pc := 51) pfl_X1_41 (by decide) rfl (by decide) (fm_dec dtX1_readProduct 28 rfl) ?_
        refine pv_aloadn (pc := 54) (n := 0) 0 rfl rfl (fm_dec dtX1_readProduct 29 rfl) ?_
        refine pv_aloadn (pc := 55) (n := 1) 1 rfl rfl (fm_dec dtX1_readProduct 30 rfl) ?_
        refine pv_iloadn (pc := 56) (n := 2) 2 rfl rfl (fm_dec dtX1_readProduct 31 rfl) ?_
        refine pv_invV2 (k := 23) (d' := (6 + 4 * (6 - o))) (pc := 57) pcv_X1_61 (by decide) rfl (Nat.le_of_ble_eq_true rfl) (by omega) (fm_dec dtX1_readProduct 32 rfl) ?_
        refine h1 o (sk tx p + 1) m _ _ op hP57 ho ho6 (spBind_ne ne57) ⟨fun M57 c57 q57 e57 k57 => ?_, fun M57 kb ab eb hB => ?_⟩  
        · refine pv_then1 ?_
          have l57 := spL_len hP.1.2.2.2.1 _ _ _ _ _ _ hP57.1.2.2.1 e57
          have hP61 := hP57.next k57 l57.1
          have m57 : m + c57.length < 150 := (by have := l57.2.1; have := hP.2.2.2.2.2; have := hP.2.2.2.2.1; have := l57.1; omega)
          have k76 := em_ok (x := (-11)) (c := (5, 0)) k57.1 k57.2.1 k57.2.2.1 hP61.2.2.2.1 m57 (by decide)
          refine pv_istoren (pc := 60) (n := 3) 3 rfl (by decide) rfl (fm_dec dtX1_readProduct 33 rfl) ?_
          dsimp only [List.set_cons_zero, List.set_cons_succ]
          refine pv_aloadn (pc := 61) (n := 0) 0 rfl rfl (fm_dec dtX1_readProduct 34 rfl) ?_
          refine pv_iload (pc := 62) (i := 5) rfl (fm_dec dtX1_readProduct 35 rfl) ?_
          refine pv_bipush (pc := 64) (v := 42) (by decide) (fm_dec dtX1_readProduct 36 rfl) ?_
          refine pv_icmp_ne (pc := 66) 74 (by decide) (fm_dec dtX1_readProduct 37 rfl) (fun _ => ?_) (fun hc66 => by exfalso; exact hc32 hc66)
          refine pv_bipush (pc := 74) (v := (-11)) (by decide) (fm_dec dtX1_readProduct 40 rfl) ?_
          refine pv_invV1 (k := 23) (d' := 0) (pc := 76) pcv_X1_57 (by decide) rfl (Nat.le_of_ble_eq_true rfl) (by omega) (fm_dec dtX1_readProduct 41 rfl) ?_
          refine c_emit hP61.2.2.2.1 m57 ?_ 
          refine pv_then0 ?_
          refine pv_iincc (pc := 79) 4 1 (by decide) rfl (by decide) rfl (fm_dec dtX1_readProduct 42 rfl) ?_
          dsimp only [List.set_cons_zero, List.set_cons_succ]
          refine pv_goto (pc := 82) 10 (by decide) (fm_dec dtX1_readProduct 43 rfl) ?_
          have hP9 : xlPre (emM M57 (m + c57.length) (-11)) tx n q57 (m + (c57.length + 1)) := ⟨k76.1, k76.2.1, k76.2.2.1, (by have h9 := k76.2.2.2.1; simpa [Nat.add_assoc] using h9), (by have := hP.2.2.2.2.1; have := l57.1; omega), hP.2.2.2.2.2⟩
          have kA : xlOk M M57 tx n q57 m c57 := (by have h9 := ((hP.nil.xd k23).xd k44).trans (by simpa using k57); simpa using h9)
          have kB : xlOk M (emM M57 (m + c57.length) (-11)) tx n q57 m (c57 ++ [(5, 0)]) := kA.trans k76
          have ne9 := spBind_ne (spBind_ne2 ne57 e57)
          exact h3 o q57 (m + (c57.length + 1)) _ Q op hP9 ho ho6 ne9 ⟨fun M2 ds q2 e2 k2 => hE.1 M2 _ q2 (((if_neg t43n).trans (if_pos t45)).trans (spOp_ok e57 e2)) (by have h9 := kB.trans (ds := ds) (by simpa [Nat.add_assoc] using k2); simpa using h9), fun M2 k a e2 k2 => hE.2 M2 k a (((if_neg t43n).trans (if_pos t45)).trans (spOp_b2 e57 e2)) (kB.bad k2)⟩ (i + 1) _ _ (i32_p1 hi (by have h150 := hP9.2.2.2.2.2; omega)) (by have := l57.1; omega)
        · refine pv_then1 ?_
          refine pv_istoren (pc := 60) (n := 3) 3 rfl (by decide) rfl (fm_dec dtX1_readProduct 33 rfl) ?_
          dsimp only [List.set_cons_zero, List.set_cons_succ]
          refine pv_aloadn (pc := 61) (n := 0) 0 rfl rfl (fm_dec dtX1_readProduct 34 rfl) ?_
          refine pv_iload (pc := 62) (i := 5) rfl (fm_dec dtX1_readProduct 35 rfl) ?_
          refine pv_bipush (pc := 64) (v := 42) (by decide) (fm_dec dtX1_readProduct 36 rfl) ?_
          refine pv_icmp_ne (pc := 66) 74 (by decide) (fm_dec dtX1_readProduct 37 rfl) (fun _ => ?_) (fun hc66 => by exfalso; exact hc32 hc66)
          refine pv_bipush (pc := 74) (v := (-11)) (by decide) (fm_dec dtX1_readProduct 40 rfl) ?_
          refine pv_invV1 (k := 23) (d' := 0) (pc := 76) pcv_X1_57 (by decide) rfl (Nat.le_of_ble_eq_true rfl) (by omega) (fm_dec dtX1_readProduct 41 rfl) ?_
          refine s_emit (scq_t _) hB.2.2.2.1 (fun M76 hI76 f76 => ?_)
          refine pv_then0 ?_
          refine pv_iincc (pc := 79) 4 1 (by decide) rfl (by decide) rfl (fm_dec dtX1_readProduct 42 rfl) ?_
          dsimp only [List.set_cons_zero, List.set_cons_succ]
          refine pv_goto (pc := 82) 10 (by decide) (fm_dec dtX1_readProduct 43 rfl) ?_
          exact xo_readProduct (hE.2 _ kb ab (((if_neg t43n).trans (if_pos t45)).trans (spOp_b1 eb)) (((hP.nil.xd k23).xd k44).bad (hB.go (emFr rfl f76) (f76 1 4 rfl).1 (f76 1 5 rfl).1 hI76)))
      · refine pv_iconst (pc := 42) (v := 1) (by decide) (fm_dec dtX1_readProduct 21 rfl) ?_
        exact pv_zreturn (pc := 43) rfl (by first | exact Or.inr rfl | exact Or.inl rfl) (fm_dec dtX1_readProduct 22 rfl) (hE.1 M23 [] (sk tx p) ((if_neg (fun h9 => hc32 (i32_ext (hv23.trans (h9.trans (by decide)))))).trans (if_neg (fun h9 => hc39 (i32_ext (hv23.trans (h9.trans (by decide))))))) (hP.nil.xd k23))
set_option maxRecDepth 20000 in
theorem xl_two {tx : tX} {n f o p m : Nat} {M : fmM} {Q : fmR → fmM → Prop} {op : Int32} (h0 : xlG tx n f 0) (hP : xlPre M tx n p m) (ho : op.toInt = (o : Int)) (ho6 : o ≤ 6) (hne : ¬ spTw tx (fun q => spL tx f 0 o q) p = .inl (9, 0)) (hE : xlE Q M tx n m (spTw tx (fun q => spL tx f 0 o q) p)) : pvGood Tx (9 + 4 * (6 - o)) qX1_readTwo [.ref 23, .ref 1, .int op] M Q := by
  refine pvGood_of (Nat.le_of_ble_eq_true rfl) ?_
  show pvEv Tx (9 + 4 * (6 - o)) qX1_readTwo 0 [some (.ref 23), some (.ref 1), some (.int op)] [] M Q
  refine pv_aloadn (pc := 0) (n := 1) 1 rfl rfl (fm_dec dtX1_readTwo 0 rfl) ?_
  refine pv_bipush (pc := 1) (v := 91) (by decide) (fm_dec dtX1_readTwo 1 rfl) ?_
  refine pv_invV1 (k := 1) (d' := 1) (pc := 3) pcv_X1_64 (by decide) rfl (Nat.le_of_ble_eq_true rfl) (by omega) (fm_dec dtX1_readTwo 2 rfl) ?_
  refine x_signC 91 (by decide) (by decide) hP.1 hP.2.1 hP.2.2.1 (fun M3 q3 e3 k3 => ?_) (fun Mb kb ab eb hB => ?_)  
  · refine pv_then1 ?_
    refine pv_if_eq (pc := 6) 49 (by decide) (fm_dec dtX1_readTwo 3 rfl) (fun hc6 => by exfalso; revert hc6; decide) (fun _ => ?_)
    have s3 := spSign_ok hP.1.2.2.2.1 hP.1.2.2.1 (by decide) e3
    have hP3 := hP.xd k3 (by omega)
    refine pv_aloadn (pc := 9) (n := 0) 0 rfl rfl (fm_dec dtX1_readTwo 4 rfl) ?_
    refine pv_aloadn (pc := 10) (n := 1) 1 rfl rfl (fm_dec dtX1_readTwo 5 rfl) ?_
    refine pv_iloadn (pc := 11) (n := 2) 2 rfl rfl (fm_dec dtX1_readTwo 6 rfl) ?_
    refine pv_invV2 (k := 23) (d' := (8 + 4 * (6 - o))) (pc := 12) pcv_X1_31 (by decide) rfl (Nat.le_of_ble_eq_true rfl) (by omega) (fm_dec dtX1_readTwo 7 rfl) ?_
    refine h0 o q3 m M3 _ op hP3 ho ho6 (fun h9 => hne (by unfold spTw spBind; rw [e3]; simp only; rw [h9])) ⟨fun M12 c12 q12 e12 k12 => ?_, fun Mb kb ab eb hB => ?_⟩  
    · refine pv_then1 ?_
      refine pv_if_eq (pc := 15) 49 (by decide) (fm_dec dtX1_readTwo 8 rfl) (fun hc15 => by exfalso; revert hc15; decide) (fun _ => ?_)
      have l12 := spL_len hP.1.2.2.2.1 _ _ _ _ _ _ hP3.1.2.2.1 e12
      have hP12 := hP3.next k12 l12.1
      have kA : xlOk M M12 tx n q12 m c12 := (by have h9 := (hP.nil.xd k3).trans (by simpa using k12); simpa using h9)
      refine pv_aloadn (pc := 18) (n := 1) 1 rfl rfl (fm_dec dtX1_readTwo 9 rfl) ?_
      refine pv_bipush (pc := 19) (v := 44) (by decide) (fm_dec dtX1_readTwo 10 rfl) ?_
      refine pv_invV1 (k := 1) (d' := 1) (pc := 21) pcv_X1_64 (by decide) rfl (Nat.le_of_ble_eq_true rfl) (by omega) (fm_dec dtX1_readTwo 11 rfl) ?_
      refine x_signC 44 (by decide) (by decide) hP12.1 hP12.2.1 hP12.2.2.1 (fun M21 q21 e21 k21 => ?_) (fun Mb kb ab eb hB => ?_)  
      · refine pv_then1 ?_
        refine pv_if_eq (pc := 24) 49 (by decide) (fm_dec dtX1_readTwo 12 rfl) (fun hc24 => by exfalso; revert hc24; decide) (fun _ => ?_)
        have s21 := spSign_ok hP.1.2.2.2.1 hP12.1.2.2.1 (by decide) e21
        have hP21 := hP12.xd k21 (by omega)
        refine pv_aloadn (pc := 27) (n := 0) 0 rfl rfl (fm_dec dtX1_readTwo 13 rfl) ?_
        refine pv_aloadn (pc := 28) (n := 1) 1 rfl rfl (fm_dec dtX1_readTwo 14 rfl) ?_
        refine pv_iloadn (pc := 29) (n := 2) 2 rfl rfl (fm_dec dtX1_readTwo 15 rfl) ?_
        refine pv_invV2 (k := 23) (d' := (8 + 4 * (6 - o))) (pc := 30) pcv_X1_31 (by decide) rfl (Nat.le_of_ble_eq_true rfl) (by omega) (fm_dec dtX1_readTwo 16 rfl) ?_
        refine h0 o q21 (m + c12.length) M21 _ op hP21 ho ho6 (fun h9 => hne (by unfold spTw spBind; rw [e3]; simp only; rw [e12]; simp only; rw [e21]; simp only; rw [h9])) ⟨fun M30 c30 q30 e30 k30 => ?_, fun Mb kb ab eb hB => ?_⟩  
        · refine pv_then1 ?_
          refine pv_if_eq (pc := 33) 49 (by decide) (fm_dec dtX1_readTwo 17 rfl) (fun hc33 => by exfalso; revert hc33; decide) (fun _ => ?_)
          have l30 := spL_len hP.1.2.2.2.1 _ _ _ _ _ _ hP21.1.2.2.1 e30
          have hP30 := hP21.next k30 l30.1
          have kB : xlOk M M30 tx n q30 m (c12 ++ c30) := (kA.xd k21).trans k30
          refine pv_aloadn (pc := 36) (n := 1) 1 rfl rfl (fm_dec dtX1_readTwo 18 rfl) ?_
          refine pv_bipush (pc := 37) (v := 93) (by decide) (fm_dec dtX1_readTwo 19 rfl) ?_
          refine pv_invV1 (k := 1) (d' := 1) (pc := 39) pcv_X1_64 (by decide) rfl (Nat.le_of_ble_eq_true rfl) (by omega) (fm_dec dtX1_readTwo 20 rfl) ?_
          refine x_signC 93 (by decide) (by decide) hP30.1 hP30.2.1 hP30.2.2.1 (fun M39 q39 e39 k39 => ?_) (fun Mb kb ab eb hB => ?_)  
          · refine pv_then1 ?_
            refine pv_if_eq (pc := 42) 49 (by decide) (fm_dec dtX1_readTwo 21 rfl) (fun hc42 => by exfalso; revert hc42; decide) (fun _ => ?_)
            refine pv_iconst (pc := 45) (v := 1) (by decide) (fm_dec dtX1_readTwo 22 rfl) ?_
            refine pv_goto (pc := 46) 50 (by decide) (fm_dec dtX1_readTwo 23 rfl) ?_
            exact pv_zreturn (pc := 50) rfl (by first | exact Or.inr rfl | exact Or.inl rfl) (fm_dec dtX1_readTwo 25 rfl) (hE.1 M39 (c12 ++ c30) q39 (by unfold spTw spBind; rw [e3]; simp only; rw [e12]; simp only; rw [e21]; simp only; rw [e30]; simp only; rw [e39]) (kB.xd k39))
          · refine pv_then1 ?_
            refine pv_if_eq (pc := 42) 49 (by decide) (fm_dec dtX1_readTwo 21 rfl) (fun _ => ?_) (fun hc42 => by exfalso; revert hc42; decide)
            refine pv_iconst (pc := 49) (v := 0) (by decide) (fm_dec dtX1_readTwo 24 rfl) ?_
            exact pv_zreturn (pc := 50) rfl (by first | exact Or.inr rfl | exact Or.inl rfl) (fm_dec dtX1_readTwo 25 rfl) (hE.2 Mb kb ab (by unfold spTw spBind; rw [e3]; simp only; rw [e12]; simp only; rw [e21]; simp only; rw [e30]; simp only; rw [eb]) (kB.xdb hB))
        · refine pv_then1 ?_
          refine pv_if_eq (pc := 33) 49 (by decide) (fm_dec dtX1_readTwo 17 rfl) (fun _ => ?_) (fun hc33 => by exfalso; revert hc33; decide)
          refine pv_iconst (pc := 49) (v := 0) (by decide) (fm_dec dtX1_readTwo 24 rfl) ?_
          exact pv_zreturn (pc := 50) rfl (by first | exact Or.inr rfl | exact Or.inl rfl) (fm_dec dtX1_readTwo 25 rfl) (hE.2 Mb kb ab (by unfold spTw spBind; rw [e3]; simp only; rw [e12]; simp only; rw [e21]; simp only; rw [eb]) ((kA.xd k21).bad hB))
      · refine pv_then1 ?_
        refine pv_if_eq (pc := 24) 49 (by decide) (fm_dec dtX1_readTwo 12 rfl) (fun _ => ?_) (fun hc24 => by exfalso; revert hc24; decide)
        refine pv_iconst (pc := 49) (v := 0) (by decide) (fm_dec dtX1_readTwo 24 rfl) ?_
        exact pv_zreturn (pc := 50) rfl (by first | exact Or.inr rfl | exact Or.inl rfl) (fm_dec dtX1_readTwo 25 rfl) (hE.2 Mb kb ab (by unfold spTw spBind; rw [e3]; simp only; rw [e12]; simp only; rw [eb]) (kA.xdb hB))
    · refine pv_then1 ?_
      refine pv_if_eq (pc := 15) 49 (by decide) (fm_dec dtX1_readTwo 8 rfl) (fun _ => ?_) (fun hc15 => by exfalso; revert hc15; decide)
      refine pv_iconst (pc := 49) (v := 0) (by decide) (fm_dec dtX1_readTwo 24 rfl) ?_
      exact pv_zreturn (pc := 50) rfl (by first | exact Or.inr rfl | exact Or.inl rfl) (fm_dec dtX1_readTwo 25 rfl) (hE.2 Mb kb ab (by unfold spTw spBind; rw [e3]; simp only; rw [eb]) ((hP.nil.xd k3).bad hB))
  · refine pv_then1 ?_
    refine pv_if_eq (pc := 6) 49 (by decide) (fm_dec dtX1_readTwo 3 rfl) (fun _ => ?_) (fun hc6 => by exfalso; revert hc6; decide)
    refine pv_iconst (pc := 49) (v := 0) (by decide) (fm_dec dtX1_readTwo 24 rfl) ?_
    exact pv_zreturn (pc := 50) rfl (by first | exact Or.inr rfl | exact Or.inl rfl) (fm_dec dtX1_readTwo 25 rfl) (hE.2 Mb kb ab (by unfold spTw spBind; rw [eb]) (hP.nil.xdb hB))
theorem un_w {tx : tX} {a : Nat} (h : tW (tx a) = false) : ¬ wd tx a = lwLeast ∧ ¬ wd tx a = lwMost ∧ lwK (wd tx a) = none := by
  rw [wd_f h]
  exact ⟨by decide, by decide, by decide⟩
theorem un_p {tx : tX} {rc : Nat → tR tC} {o a : Nat} (h : tx a = 40) : spOne tx rc o a = if o = 6 then .inl (3, a) else spPar tx rc (a + 1) := by
  have h9 := un_w (tx := tx) (a := a) (by rw [h]; decide)
  unfold spOne
  rw [if_neg h9.1, if_neg h9.2.1, if_pos h]
theorem un_n {tx : tX} {rc : Nat → tR tC} {o a : Nat} (h1 : ¬ wd tx a = lwLeast) (h2 : ¬ wd tx a = lwMost) (h3 : lwK (wd tx a) = none) (h : ¬ tx a = 40) : spOne tx rc o a = spBind (spNum tx 0 999 a) fun v q => .inr ([(0, v)], q) := by
  unfold spOne
  rw [if_neg h1, if_neg h2, if_neg h, h3]
theorem un_k {tx : tX} {rc : Nat → tR tC} {o a k : Nat} (h1 : ¬ wd tx a = lwLeast) (h2 : ¬ wd tx a = lwMost) (h3 : lwK (wd tx a) = some k) (h : ¬ tx a = 40) : spOne tx rc o a = .inr ([(1, k)], sp tW tx a) := by
  unfold spOne
  rw [if_neg h1, if_neg h2, if_neg h, h3]
theorem un_5 {tx : tX} {rc : Nat → tR tC} {o a j : Nat} (h : (j = 5 ∧ wd tx a = lwLeast) ∨ (j = 6 ∧ wd tx a = lwMost ∧ ¬ wd tx a = lwLeast)) : spOne tx rc o a = if o = 6 then .inl (3, a) else spTwo tx rc (j + 1) (sp tW tx a) := by
  unfold spOne
  rcases h with ⟨rfl, h1⟩ | ⟨rfl, h1, h2⟩
  · rw [if_pos h1]
  · rw [if_neg h2, if_pos h1]
theorem sub_m1 {w : Int32} {j : Nat} (hw : w.toInt = (j : Int)) (hj : j < 10) : (-1 - w).toInt = -1 - (j : Int) := by
  have e : (-1 : Int32).toInt = -1 := by decide
  rw [sc_sub (by omega) (by omega), e, hw]
theorem wl_len {w : List Int} {j : Nat} (h : wdI wsLaw w 0 = some j) : 0 < w.length := by
  cases w with
  | nil => exact absurd ((show wdI wsLaw [] 0 = none by decide).symm.trans h) (by intro h9; cases h9)
  | cons c w => exact Nat.succ_pos _
theorem spTw_len {tx : tX} {n f o p q : Nat} {cs : tC} (ht : tOk tx n) (hp : p ≤ n) (h : spTw tx (fun q => spL tx f 0 o q) p = .inr (cs, q)) : p + cs.length < q ∧ q ≤ n := by
  obtain ⟨u1, q1, e1, h⟩ := spBind_ok h
  obtain ⟨c1, q2, e2, h⟩ := spBind_ok h
  obtain ⟨u3, q3, e3, h⟩ := spBind_ok h
  obtain ⟨c2, q4, e4, h⟩ := spBind_ok h
  obtain ⟨u5, q5, e5, h⟩ := spBind_ok h
  cases h
  have a1 := spSign_ok ht hp (by decide) e1
  have a2 := spL_len ht _ _ _ _ _ _ a1.2 e2
  have a3 := spSign_ok ht a2.2.1 (by decide) e3
  have a4 := spL_len ht _ _ _ _ _ _ a3.2 e4
  have a5 := spSign_ok ht a4.2.1 (by decide) e5
  rw [List.length_append]
  omega
set_option maxRecDepth 20000 in
theorem xl_unit {tx : tX} {n f : Nat} (h0 : xlG tx n f 0) : xlG tx n (f + 1) 2 := by
  intro o p m M Q op hP ho ho6 hne hE
  refine pvGood_of (Nat.le_of_ble_eq_true rfl) ?_
  show pvEv Tx (6 + 4 * (6 - o)) qX1_readUnit 0 [some (.ref 23), some (.ref 1), some (.int op), none, none, none] [] M Q
  refine pv_aloadn (pc := 0) (n := 1) 1 rfl rfl (fm_dec dtX1_readUnit 0 rfl) ?_
  refine pv_invV0 (k := 1) (d' := 0) (pc := 1) pcv_X1_35 (by decide) rfl (Nat.le_of_ble_eq_true rfl) (by omega) (fm_dec dtX1_readUnit 1 rfl) ?_
  refine x_peek hP.1 hP.2.1 hP.2.2.1 (fun M1 v1 hv1 k1 => ?_)
  refine pv_then1 ?_
  refine pv_istoren (pc := 4) (n := 3) 3 rfl (by decide) rfl (fm_dec dtX1_readUnit 2 rfl) ?_
  dsimp only [List.set_cons_zero, List.set_cons_succ]
  have e0 : spL tx (f + 1) 2 o p = spOne tx (fun q => spL tx f 0 (o + 1) q) o (sk tx p) := rfl
  have hsk : p ≤ sk tx p := sp_ge p
  have hss := sk_sk hP.1.2.2.2.1 hP.1.2.2.1
  have hn150 := hP.2.2.2.2.2
  have hmp := hP.2.2.2.2.1
  have hP1 := hP.xd k1 hsk
  refine pv_aloadn (pc := 5) (n := 1) 1 rfl rfl (fm_dec dtX1_readUnit 3 rfl) ?_
  refine pv_getI (k := 1) (j := 3) (ci := 7) (pc := 6) pfl_X1_41 (by decide) rfl (by decide) (fm_dec dtX1_readUnit 4 rfl) ?_
  refine pv_istore (pc := 9) (i := 4) (by decide) rfl (fm_dec dtX1_readUnit 5 rfl) ?_
  dsimp only [List.set_cons_zero, List.set_cons_succ]
  refine pv_iloadn (pc := 11) (n := 3) 3 rfl rfl (fm_dec dtX1_readUnit 6 rfl) ?_
  refine pv_bipush (pc := 12) (v := 40) (by decide) (fm_dec dtX1_readUnit 7 rfl) ?_
  refine pv_icmp_ne (pc := 14) 67 (by decide) (fm_dec dtX1_readUnit 8 rfl) (fun hc14 => ?_) (fun hc14 => ?_)
  · have t40 : ¬ tx (sk tx p) = 40 := (fun h9 => hc14 (i32_ext (hv1.trans (h9.trans (by decide)))))
    refine pv_iloadn (pc := 67) (n := 3) 3 rfl rfl (fm_dec dtX1_readUnit 38 rfl) ?_
    refine pv_bipush (pc := 68) (v := 48) (by decide) (fm_dec dtX1_readUnit 39 rfl) ?_
    refine pv_icmp_lt (pc := 70) 104 (by decide) (fm_dec dtX1_readUnit 40 rfl) (fun hc70 => ?_) (fun hc70 => ?_)
    · have tDn : tD (tx (sk tx p)) = false := (by rw [← hv1]; exact tD_f (Or.inl hc70))
      refine pv_aloadn (pc := 104) (n := 1) 1 rfl rfl (fm_dec dtX1_readUnit 57 rfl) ?_
      refine pv_ldcT (i := 3) (pc := 105) pkn_X1_76 ptx_X1_76 (fm_dec dtX1_readUnit 58 rfl) ?_
      refine pv_invV1 (k := 1) (d' := 5) (pc := 107) pcv_X1_78 (by decide) rfl (Nat.le_of_ble_eq_true rfl) (by omega) (fm_dec dtX1_readUnit 59 rfl) ?_
      refine x_word (i5 := 3) (ws := wsLaw) (by decide) chs_3 wsLaw_ok (by decide) k1.1 k1.2.1 k1.2.2.2 (fun M107 j w107 e107 hw107 k107 => ?_) (fun e107 Mb hB => ?_)  
      · refine pv_then1 ?_
        refine pv_istore (pc := 110) (i := 5) (by decide) rfl (fm_dec dtX1_readUnit 60 rfl) ?_
        dsimp only [List.set_cons_zero, List.set_cons_succ]
        rw [hss] at e107 k107
        have hj9 := wdI_lt wsLaw 0 j e107
        have hj7 : j < 7 := hj9.2
        have ew : ¬ w107 = -1 := (fun h9 => by have h8 := congrArg Int32.toInt h9; have h7 : (-1 : Int32).toInt = -1 := (by decide); omega)
        have hw2 := sp_ge (P := tW) (tx := tx) (sk tx p)
        have hwn := sp_le (p := sk tx p) tW_1 hP.1.2.2.2.1 k1.1.2.2.1
        have hwg : sk tx p < sp tW tx (sk tx p) := (by have h9 : 0 < (wd tx (sk tx p)).length := wl_len e107; rw [wd_len] at h9; omega)
        have kA := (hP.nil.xd k1).xd k107
        have hP107 : xlPre M107 tx n (sp tW tx (sk tx p)) m := hP1.xd k107 hw2
        refine pv_iload (pc := 112) (i := 5) rfl (fm_dec dtX1_readUnit 61 rfl) ?_
        refine pv_iconst (pc := 114) (v := (-1)) (by decide) (fm_dec dtX1_readUnit 62 rfl) ?_
        refine pv_icmp_ne (pc := 115) 120 (by decide) (fm_dec dtX1_readUnit 63 rfl) (fun _ => ?_) (fun hc115 => by exfalso; exact ew hc115)
        refine pv_iload (pc := 120) (i := 5) rfl (fm_dec dtX1_readUnit 66 rfl) ?_
        refine pv_iconst (pc := 122) (v := 5) (by decide) (fm_dec dtX1_readUnit 67 rfl) ?_
        refine pv_icmp_lt (pc := 123) 153 (by decide) (fm_dec dtX1_readUnit 68 rfl) (fun hc123 => ?_) (fun hc123 => ?_)
        · have h5 : j < 5 := (by rw [sc_lt] at hc123; have h9 : (5 : Int32).toInt = 5 := (by decide); omega)
          have u5 := wl_1 e107 h5
          have eU := un_k (rc := fun q => spL tx f 0 (o + 1) q) (o := o) u5.1 u5.2.1 u5.2.2 t40
          have hm158 : (M107.1 23 4).toInt = (m : Int) := hP107.2.2.2.1
          have m158 : m < 150 := (by omega)
          have k158 := em_ok (x := -1 - w107) (c := (1, j)) k107.1 k107.2.1 k107.2.2.2 hm158 m158 (by rw [sub_m1 hw107 (by omega)]; rfl)
          refine pv_aloadn (pc := 153) (n := 0) 0 rfl rfl (fm_dec dtX1_readUnit 86 rfl) ?_
          refine pv_iconst (pc := 154) (v := (-1)) (by decide) (fm_dec dtX1_readUnit 87 rfl) ?_
          refine pv_iload (pc := 155) (i := 5) rfl (fm_dec dtX1_readUnit 88 rfl) ?_
          refine pv_isub (pc := 157) (fm_dec dtX1_readUnit 89 rfl) ?_
          refine pv_invV1 (k := 23) (d' := 0) (pc := 158) pcv_X1_57 (by decide) rfl (Nat.le_of_ble_eq_true rfl) (by omega) (fm_dec dtX1_readUnit 90 rfl) ?_
          refine c_emit hm158 m158 ?_ 
          refine pv_then0 ?_
          refine pv_iconst (pc := 161) (v := 1) (by decide) (fm_dec dtX1_readUnit 91 rfl) ?_
          exact pv_zreturn (pc := 162) rfl (by first | exact Or.inr rfl | exact Or.inl rfl) (fm_dec dtX1_readUnit 92 rfl) (hE.1 _ [(1, j)] (sp tW tx (sk tx p)) (e0.trans eU) (by have h9 := kA.trans (by simpa using k158); simpa using h9))
        · have h5 : ¬ j < 5 := (by rw [sc_lt] at hc123; have h9 : (5 : Int32).toInt = 5 := (by decide); omega)
          have e5 := wl_5 e107 h5
          have eU := un_5 (rc := fun q => spL tx f 0 (o + 1) q) (o := o) e5
          refine pv_iloadn (pc := 126) (n := 2) 2 rfl rfl (fm_dec dtX1_readUnit 69 rfl) ?_
          refine pv_bipush (pc := 127) (v := 6) (by decide) (fm_dec dtX1_readUnit 70 rfl) ?_
          refine pv_icmp_lt (pc := 129) 140 (by decide) (fm_dec dtX1_readUnit 71 rfl) (fun hc129 => ?_) (fun hc129 => ?_)
          · have o6 : o < 6 := (by have h9 : (6 : Int32).toInt = 6 := (by decide); rw [sc_lt] at hc129; omega)
            rw [if_neg (show ¬ o = 6 by omega), spTw_eq] at eU
            have ne145 : ¬ spTw tx (fun q => spL tx f 0 (o + 1) q) (sp tW tx (sk tx p)) = .inl (9, 0) := spBind_ne (fun h9 => hne (e0.trans (eU.trans h9)))
            refine pv_aloadn (pc := 140) (n := 0) 0 rfl rfl (fm_dec dtX1_readUnit 77 rfl) ?_
            refine pv_aloadn (pc := 141) (n := 1) 1 rfl rfl (fm_dec dtX1_readUnit 78 rfl) ?_
            refine pv_iloadn (pc := 142) (n := 2) 2 rfl rfl (fm_dec dtX1_readUnit 79 rfl) ?_
            refine pv_iconst (pc := 143) (v := 1) (by decide) (fm_dec dtX1_readUnit 80 rfl) ?_
            refine pv_iadd (pc := 144) (fm_dec dtX1_readUnit 81 rfl) ?_
            refine pv_invV2 (k := 23) (d' := (9 + 4 * (6 - (o + 1)))) (pc := 145) pcv_X1_82 (by decide) rfl (Nat.le_of_ble_eq_true rfl) (by omega) (fm_dec dtX1_readUnit 82 rfl) ?_
            refine xl_two h0 hP107 (i32_p1 ho (by omega)) (by omega) ne145 ⟨fun M145 c145 q145 e145 k145 => ?_, fun Mb kb ab eb hB => ?_⟩  
            · refine pv_then1 ?_
              refine pv_if_ne (pc := 148) 153 (by decide) (fm_dec dtX1_readUnit 83 rfl) (fun _ => ?_) (fun hc148 => by exfalso; revert hc148; decide)
              have l145 : sp tW tx (sk tx p) + c145.length < q145 ∧ q145 ≤ n := spTw_len hP.1.2.2.2.1 hwn e145
              have hm158 : (M145.1 23 4).toInt = ((m + c145.length : Nat) : Int) := k145.2.2.2.1
              have m158 : m + c145.length < 150 := (by omega)
              have k158 := em_ok (x := -1 - w107) (c := (j + 1, 0)) k145.1 k145.2.1 k145.2.2.1 hm158 m158 (by rw [sub_m1 hw107 (by omega)]; rcases e5 with ⟨rfl, _⟩ | ⟨rfl, _⟩ <;> decide)
              refine pv_aloadn (pc := 153) (n := 0) 0 rfl rfl (fm_dec dtX1_readUnit 86 rfl) ?_
              refine pv_iconst (pc := 154) (v := (-1)) (by decide) (fm_dec dtX1_readUnit 87 rfl) ?_
              refine pv_iload (pc := 155) (i := 5) rfl (fm_dec dtX1_readUnit 88 rfl) ?_
              refine pv_isub (pc := 157) (fm_dec dtX1_readUnit 89 rfl) ?_
              refine pv_invV1 (k := 23) (d' := 0) (pc := 158) pcv_X1_57 (by decide) rfl (Nat.le_of_ble_eq_true rfl) (by omega) (fm_dec dtX1_readUnit 90 rfl) ?_
              refine c_emit hm158 m158 ?_ 
              refine pv_then0 ?_
              refine pv_iconst (pc := 161) (v := 1) (by decide) (fm_dec dtX1_readUnit 91 rfl) ?_
              exact pv_zreturn (pc := 162) rfl (by first | exact Or.inr rfl | exact Or.inl rfl) (fm_dec dtX1_readUnit 92 rfl) (hE.1 _ (c145 ++ [(j + 1, 0)]) q145 (e0.trans (eU.trans (by rw [e145]; rfl))) ((by have h9 := kA.trans (by simpa using k145); simpa using h9 : xlOk M M145 tx n q145 m c145).trans k158))
            · refine pv_then1 ?_
              refine pv_if_ne (pc := 148) 153 (by decide) (fm_dec dtX1_readUnit 83 rfl) (fun hc148 => by exfalso; revert hc148; decide) (fun _ => ?_)
              refine pv_iconst (pc := 151) (v := 0) (by decide) (fm_dec dtX1_readUnit 84 rfl) ?_
              exact pv_zreturn (pc := 152) rfl (by first | exact Or.inr rfl | exact Or.inl rfl) (fm_dec dtX1_readUnit 85 rfl) (hE.2 Mb kb ab (e0.trans (eU.trans (by rw [eb]; rfl))) (kA.bad hB))
          · refine pv_aloadn (pc := 132) (n := 1) 1 rfl rfl (fm_dec dtX1_readUnit 72 rfl) ?_
            refine pv_iconst (pc := 133) (v := 3) (by decide) (fm_dec dtX1_readUnit 73 rfl) ?_
            refine pv_iload (pc := 134) (i := 4) rfl (fm_dec dtX1_readUnit 74 rfl) ?_
            refine pv_invV2 (k := 1) (d' := 0) (pc := 136) pcv_X1_44 (by decide) rfl (Nat.le_of_ble_eq_true rfl) (by omega) (fm_dec dtX1_readUnit 75 rfl) ?_
            refine c_xfail0 k107.2.1 ?_ 
            refine pv_then1 ?_
            exact pv_zreturn (pc := 139) rfl (by first | exact Or.inr rfl | exact Or.inl rfl) (fm_dec dtX1_readUnit 76 rfl) (hE.2 _ 3 (sk tx p) (e0.trans (eU.trans (if_pos (show o = 6 by have h9 : (6 : Int32).toInt = 6 := (by decide); rw [sc_lt] at hc129; omega)))) (kA.xdb ⟨(show (3 : Int32).toInt = ((3 : Nat) : Int) by decide), k1.1.2.1, by decide, ((xdFr.refl _).set (Or.inr (Or.inl rfl))).set (Or.inr (Or.inr rfl)), xI_45 k107.2.2.2 (show (3 : Int32).toInt = ((3 : Nat) : Int) by decide) (by decide) k1.1.2.1 k1.1.2.2.1 k1.1.2.2.2.1.1⟩))
      · refine pv_then1 ?_
        refine pv_istore (pc := 110) (i := 5) (by decide) rfl (fm_dec dtX1_readUnit 60 rfl) ?_
        dsimp only [List.set_cons_zero, List.set_cons_succ]
        refine pv_iload (pc := 112) (i := 5) rfl (fm_dec dtX1_readUnit 61 rfl) ?_
        refine pv_iconst (pc := 114) (v := (-1)) (by decide) (fm_dec dtX1_readUnit 62 rfl) ?_
        refine pv_icmp_ne (pc := 115) 120 (by decide) (fm_dec dtX1_readUnit 63 rfl) (fun hc115 => by exfalso; revert hc115; decide) (fun _ => ?_)
        refine pv_iconst (pc := 118) (v := 0) (by decide) (fm_dec dtX1_readUnit 64 rfl) ?_
        exact pv_zreturn (pc := 119) rfl (by first | exact Or.inr rfl | exact Or.inl rfl) (fm_dec dtX1_readUnit 65 rfl) (hE.2 Mb 1 (sk tx p) (e0.trans ((un_n (wl_0 (hss ▸ e107)).1 (wl_0 (hss ▸ e107)).2.1 (wl_0 (hss ▸ e107)).2.2 t40).trans (by unfold spBind spNum; rw [hss, if_neg (by simpa using tDn)]))) ((hP.nil.xd k1).xdb (by rw [hss] at hB; exact hB)))
    · refine pv_iloadn (pc := 73) (n := 3) 3 rfl rfl (fm_dec dtX1_readUnit 41 rfl) ?_
      refine pv_bipush (pc := 74) (v := 57) (by decide) (fm_dec dtX1_readUnit 42 rfl) ?_
      refine pv_icmp_gt (pc := 76) 104 (by decide) (fm_dec dtX1_readUnit 43 rfl) (fun hc76 => ?_) (fun hc76 => ?_)
      · have tDn : tD (tx (sk tx p)) = false := (by rw [← hv1]; exact tD_f (Or.inr hc76))
        refine pv_aloadn (pc := 104) (n := 1) 1 rfl rfl (fm_dec dtX1_readUnit 57 rfl) ?_
        refine pv_ldcT (i := 3) (pc := 105) pkn_X1_76 ptx_X1_76 (fm_dec dtX1_readUnit 58 rfl) ?_
        refine pv_invV1 (k := 1) (d' := 5) (pc := 107) pcv_X1_78 (by decide) rfl (Nat.le_of_ble_eq_true rfl) (by omega) (fm_dec dtX1_readUnit 59 rfl) ?_
        refine x_word (i5 := 3) (ws := wsLaw) (by decide) chs_3 wsLaw_ok (by decide) k1.1 k1.2.1 k1.2.2.2 (fun M107 j w107 e107 hw107 k107 => ?_) (fun e107 Mb hB => ?_)  
        · refine pv_then1 ?_
          refine pv_istore (pc := 110) (i := 5) (by decide) rfl (fm_dec dtX1_readUnit 60 rfl) ?_
          dsimp only [List.set_cons_zero, List.set_cons_succ]
          rw [hss] at e107 k107
          have hj9 := wdI_lt wsLaw 0 j e107
          have hj7 : j < 7 := hj9.2
          have ew : ¬ w107 = -1 := (fun h9 => by have h8 := congrArg Int32.toInt h9; have h7 : (-1 : Int32).toInt = -1 := (by decide); omega)
          have hw2 := sp_ge (P := tW) (tx := tx) (sk tx p)
          have hwn := sp_le (p := sk tx p) tW_1 hP.1.2.2.2.1 k1.1.2.2.1
          have hwg : sk tx p < sp tW tx (sk tx p) := (by have h9 : 0 < (wd tx (sk tx p)).length := wl_len e107; rw [wd_len] at h9; omega)
          have kA := (hP.nil.xd k1).xd k107
          have hP107 : xlPre M107 tx n (sp tW tx (sk tx p)) m := hP1.xd k107 hw2
          refine pv_iload (pc := 112) (i := 5) rfl (fm_dec dtX1_readUnit 61 rfl) ?_
          refine pv_iconst (pc := 114) (v := (-1)) (by decide) (fm_dec dtX1_readUnit 62 rfl) ?_
          refine pv_icmp_ne (pc := 115) 120 (by decide) (fm_dec dtX1_readUnit 63 rfl) (fun _ => ?_) (fun hc115 => by exfalso; exact ew hc115)
          refine pv_iload (pc := 120) (i := 5) rfl (fm_dec dtX1_readUnit 66 rfl) ?_
          refine pv_iconst (pc := 122) (v := 5) (by decide) (fm_dec dtX1_readUnit 67 rfl) ?_
          refine pv_icmp_lt (pc := 123) 153 (by decide) (fm_dec dtX1_readUnit 68 rfl) (fun hc123 => ?_) (fun hc123 => ?_)
          · have h5 : j < 5 := (by rw [sc_lt] at hc123; have h9 : (5 : Int32).toInt = 5 := (by decide); omega)
            have u5 := wl_1 e107 h5
            have eU := un_k (rc := fun q => spL tx f 0 (o + 1) q) (o := o) u5.1 u5.2.1 u5.2.2 t40
            have hm158 : (M107.1 23 4).toInt = (m : Int) := hP107.2.2.2.1
            have m158 : m < 150 := (by omega)
            have k158 := em_ok (x := -1 - w107) (c := (1, j)) k107.1 k107.2.1 k107.2.2.2 hm158 m158 (by rw [sub_m1 hw107 (by omega)]; rfl)
            refine pv_aloadn (pc := 153) (n := 0) 0 rfl rfl (fm_dec dtX1_readUnit 86 rfl) ?_
            refine pv_iconst (pc := 154) (v := (-1)) (by decide) (fm_dec dtX1_readUnit 87 rfl) ?_
            refine pv_iload (pc := 155) (i := 5) rfl (fm_dec dtX1_readUnit 88 rfl) ?_
            refine pv_isub (pc := 157) (fm_dec dtX1_readUnit 89 rfl) ?_
            refine pv_invV1 (k := 23) (d' := 0) (pc := 158) pcv_X1_57 (by decide) rfl (Nat.le_of_ble_eq_true rfl) (by omega) (fm_dec dtX1_readUnit 90 rfl) ?_
            refine c_emit hm158 m158 ?_ 
            refine pv_then0 ?_
            refine pv_iconst (pc := 161) (v := 1) (by decide) (fm_dec dtX1_readUnit 91 rfl) ?_
            exact pv_zreturn (pc := 162) rfl (by first | exact Or.inr rfl | exact Or.inl rfl) (fm_dec dtX1_readUnit 92 rfl) (hE.1 _ [(1, j)] (sp tW tx (sk tx p)) (e0.trans eU) (by have h9 := kA.trans (by simpa using k158); simpa using h9))
          · have h5 : ¬ j < 5 := (by rw [sc_lt] at hc123; have h9 : (5 : Int32).toInt = 5 := (by decide); omega)
            have e5 := wl_5 e107 h5
            have eU := un_5 (rc := fun q => spL tx f 0 (o + 1) q) (o := o) e5
            refine pv_iloadn (pc := 126) (n := 2) 2 rfl rfl (fm_dec dtX1_readUnit 69 rfl) ?_
            refine pv_bipush (pc := 127) (v := 6) (by decide) (fm_dec dtX1_readUnit 70 rfl) ?_
            refine pv_icmp_lt (pc := 129) 140 (by decide) (fm_dec dtX1_readUnit 71 rfl) (fun hc129 => ?_) (fun hc129 => ?_)
            · have o6 : o < 6 := (by have h9 : (6 : Int32).toInt = 6 := (by decide); rw [sc_lt] at hc129; omega)
              rw [if_neg (show ¬ o = 6 by omega), spTw_eq] at eU
              have ne145 : ¬ spTw tx (fun q => spL tx f 0 (o + 1) q) (sp tW tx (sk tx p)) = .inl (9, 0) := spBind_ne (fun h9 => hne (e0.trans (eU.trans h9)))
              refine pv_aloadn (pc := 140) (n := 0) 0 rfl rfl (fm_dec dtX1_readUnit 77 rfl) ?_
              refine pv_aloadn (pc := 141) (n := 1) 1 rfl rfl (fm_dec dtX1_readUnit 78 rfl) ?_
              refine pv_iloadn (pc := 142) (n := 2) 2 rfl rfl (fm_dec dtX1_readUnit 79 rfl) ?_
              refine pv_iconst (pc := 143) (v := 1) (by decide) (fm_dec dtX1_readUnit 80 rfl) ?_
              refine pv_iadd (pc := 144) (fm_dec dtX1_readUnit 81 rfl) ?_
              refine pv_invV2 (k := 23) (d' := (9 + 4 * (6 - (o + 1)))) (pc := 145) pcv_X1_82 (by decide) rfl (Nat.le_of_ble_eq_true rfl) (by omega) (fm_dec dtX1_readUnit 82 rfl) ?_
              refine xl_two h0 hP107 (i32_p1 ho (by omega)) (by omega) ne145 ⟨fun M145 c145 q145 e145 k145 => ?_, fun Mb kb ab eb hB => ?_⟩  
              · refine pv_then1 ?_
                refine pv_if_ne (pc := 148) 153 (by decide) (fm_dec dtX1_readUnit 83 rfl) (fun _ => ?_) (fun hc148 => by exfalso; revert hc148; decide)
                have l145 : sp tW tx (sk tx p) + c145.length < q145 ∧ q145 ≤ n := spTw_len hP.1.2.2.2.1 hwn e145
                have hm158 : (M145.1 23 4).toInt = ((m + c145.length : Nat) : Int) := k145.2.2.2.1
                have m158 : m + c145.length < 150 := (by omega)
                have k158 := em_ok (x := -1 - w107) (c := (j + 1, 0)) k145.1 k145.2.1 k145.2.2.1 hm158 m158 (by rw [sub_m1 hw107 (by omega)]; rcases e5 with ⟨rfl, _⟩ | ⟨rfl, _⟩ <;> decide)
                refine pv_aloadn (pc := 153) (n := 0) 0 rfl rfl (fm_dec dtX1_readUnit 86 rfl) ?_
                refine pv_iconst (pc := 154) (v := (-1)) (by decide) (fm_dec dtX1_readUnit 87 rfl) ?_
                refine pv_iload (pc := 155) (i := 5) rfl (fm_dec dtX1_readUnit 88 rfl) ?_
                refine pv_isub (pc := 157) (fm_dec dtX1_readUnit 89 rfl) ?_
                refine pv_invV1 (k := 23) (d' := 0) (pc := 158) pcv_X1_57 (by decide) rfl (Nat.le_of_ble_eq_true rfl) (by omega) (fm_dec dtX1_readUnit 90 rfl) ?_
                refine c_emit hm158 m158 ?_ 
                refine pv_then0 ?_
                refine pv_iconst (pc := 161) (v := 1) (by decide) (fm_dec dtX1_readUnit 91 rfl) ?_
                exact pv_zreturn (pc := 162) rfl (by first | exact Or.inr rfl | exact Or.inl rfl) (fm_dec dtX1_readUnit 92 rfl) (hE.1 _ (c145 ++ [(j + 1, 0)]) q145 (e0.trans (eU.trans (by rw [e145]; rfl))) ((by have h9 := kA.trans (by simpa using k145); simpa using h9 : xlOk M M145 tx n q145 m c145).trans k158))
              · refine pv_then1 ?_
                refine pv_if_ne (pc := 148) 153 (by decide) (fm_dec dtX1_readUnit 83 rfl) (fun hc148 => by exfalso; revert hc148; decide) (fun _ => ?_)
                refine pv_iconst (pc := 151) (v := 0) (by decide) (fm_dec dtX1_readUnit 84 rfl) ?_
                exact pv_zreturn (pc := 152) rfl (by first | exact Or.inr rfl | exact Or.inl rfl) (fm_dec dtX1_readUnit 85 rfl) (hE.2 Mb kb ab (e0.trans (eU.trans (by rw [eb]; rfl))) (kA.bad hB))
            · refine pv_aloadn (pc := 132) (n := 1) 1 rfl rfl (fm_dec dtX1_readUnit 72 rfl) ?_
              refine pv_iconst (pc := 133) (v := 3) (by decide) (fm_dec dtX1_readUnit 73 rfl) ?_
              refine pv_iload (pc := 134) (i := 4) rfl (fm_dec dtX1_readUnit 74 rfl) ?_
              refine pv_invV2 (k := 1) (d' := 0) (pc := 136) pcv_X1_44 (by decide) rfl (Nat.le_of_ble_eq_true rfl) (by omega) (fm_dec dtX1_readUnit 75 rfl) ?_
              refine c_xfail0 k107.2.1 ?_ 
              refine pv_then1 ?_
              exact pv_zreturn (pc := 139) rfl (by first | exact Or.inr rfl | exact Or.inl rfl) (fm_dec dtX1_readUnit 76 rfl) (hE.2 _ 3 (sk tx p) (e0.trans (eU.trans (if_pos (show o = 6 by have h9 : (6 : Int32).toInt = 6 := (by decide); rw [sc_lt] at hc129; omega)))) (kA.xdb ⟨(show (3 : Int32).toInt = ((3 : Nat) : Int) by decide), k1.1.2.1, by decide, ((xdFr.refl _).set (Or.inr (Or.inl rfl))).set (Or.inr (Or.inr rfl)), xI_45 k107.2.2.2 (show (3 : Int32).toInt = ((3 : Nat) : Int) by decide) (by decide) k1.1.2.1 k1.1.2.2.1 k1.1.2.2.2.1.1⟩))
        · refine pv_then1 ?_
          refine pv_istore (pc := 110) (i := 5) (by decide) rfl (fm_dec dtX1_readUnit 60 rfl) ?_
          dsimp only [List.set_cons_zero, List.set_cons_succ]
          refine pv_iload (pc := 112) (i := 5) rfl (fm_dec dtX1_readUnit 61 rfl) ?_
          refine pv_iconst (pc := 114) (v := (-1)) (by decide) (fm_dec dtX1_readUnit 62 rfl) ?_
          refine pv_icmp_ne (pc := 115) 120 (by decide) (fm_dec dtX1_readUnit 63 rfl) (fun hc115 => by exfalso; revert hc115; decide) (fun _ => ?_)
          refine pv_iconst (pc := 118) (v := 0) (by decide) (fm_dec dtX1_readUnit 64 rfl) ?_
          exact pv_zreturn (pc := 119) rfl (by first | exact Or.inr rfl | exact Or.inl rfl) (fm_dec dtX1_readUnit 65 rfl) (hE.2 Mb 1 (sk tx p) (e0.trans ((un_n (wl_0 (hss ▸ e107)).1 (wl_0 (hss ▸ e107)).2.1 (wl_0 (hss ▸ e107)).2.2 t40).trans (by unfold spBind spNum; rw [hss, if_neg (by simpa using tDn)]))) ((hP.nil.xd k1).xdb (by rw [hss] at hB; exact hB)))
      · have tD9 : 48 ≤ tx (sk tx p) ∧ tx (sk tx p) ≤ 57 := (by rw [sc_lt] at hc70 hc76; have a1 : (48 : Int32).toInt = 48 := (by decide); have a2 : (57 : Int32).toInt = 57 := (by decide); omega)
        have hW9 : tW (tx (sk tx p)) = false := (by unfold tW; rw [decide_eq_false (show ¬ 97 ≤ tx (sk tx p) by omega)]; rfl)
        have uw := un_w hW9
        have eU := un_n (rc := fun q => spL tx f 0 (o + 1) q) (o := o) uw.1 uw.2.1 uw.2.2 t40
        refine pv_aloadn (pc := 79) (n := 0) 0 rfl rfl (fm_dec dtX1_readUnit 44 rfl) ?_
        refine pv_aloadn (pc := 80) (n := 1) 1 rfl rfl (fm_dec dtX1_readUnit 45 rfl) ?_
        refine pv_iconst (pc := 81) (v := 0) (by decide) (fm_dec dtX1_readUnit 46 rfl) ?_
        refine pv_sipush (pc := 82) (v := 999) (by decide) (fm_dec dtX1_readUnit 47 rfl) ?_
        refine pv_invV2 (k := 1) (d' := 2) (pc := 85) pcv_X1_68 (by decide) rfl (Nat.le_of_ble_eq_true rfl) (by omega) (fm_dec dtX1_readUnit 48 rfl) ?_
        refine x_numC 0 999 (by decide) (by decide) (by decide) k1.1 k1.2.1 k1.2.2.2 (fun M85 v85 q85 w85 e85 hw85 k85 => ?_) (fun Mb kb ab eb hB => ?_)  
        · refine pv_then1 ?_
          have n85 := spNum_ok hP.1.2.2.2.1 k1.1.2.2.1 e85
          have kA := hP.nil.xd k1 |>.xd k85
          have hm88 : (M85.1 23 4).toInt = (m : Int) := (by simpa using kA.2.2.2.1)
          have m88 : m < 150 := (by omega)
          have k88 := em_ok (x := w85) (c := (0, v85)) k85.1 k85.2.1 k85.2.2.2 hm88 m88 hw85
          refine pv_invV1 (k := 23) (d' := 0) (pc := 88) pcv_X1_57 (by decide) rfl (Nat.le_of_ble_eq_true rfl) (by omega) (fm_dec dtX1_readUnit 49 rfl) ?_
          refine c_emit hm88 m88 ?_ 
          refine pv_then0 ?_
          refine pv_aloadn (pc := 91) (n := 1) 1 rfl rfl (fm_dec dtX1_readUnit 50 rfl) ?_
          refine pv_invV0 (k := 1) (d' := 0) (pc := 92) pcv_X1_72 (by decide) rfl (Nat.le_of_ble_eq_true rfl) (by omega) (fm_dec dtX1_readUnit 51 rfl) ?_
          refine c_xfailed (fun _ => ?_) (fun h9 => absurd k88.2.1 h9) 
          refine pv_then1 ?_
          refine pv_if_ne (pc := 95) 102 (by decide) (fm_dec dtX1_readUnit 52 rfl) (fun hc95 => by exfalso; revert hc95; decide) (fun _ => ?_)
          refine pv_iconst (pc := 98) (v := 1) (by decide) (fm_dec dtX1_readUnit 53 rfl) ?_
          refine pv_goto (pc := 99) 103 (by decide) (fm_dec dtX1_readUnit 54 rfl) ?_
          exact pv_zreturn (pc := 103) rfl (by first | exact Or.inr rfl | exact Or.inl rfl) (fm_dec dtX1_readUnit 56 rfl) (hE.1 _ [(0, v85)] q85 (e0.trans (eU.trans (by have e9 : spNum tx 0 999 (sk tx p) = .inr (v85, q85) := e85; unfold spBind; rw [e9]))) (by have h9 := kA.trans (by simpa using k88); simpa using h9))
        · refine pv_then1 ?_
          refine pv_invV1 (k := 23) (d' := 0) (pc := 88) pcv_X1_57 (by decide) rfl (Nat.le_of_ble_eq_true rfl) (by omega) (fm_dec dtX1_readUnit 49 rfl) ?_
          refine s_emit (scq_t _) hB.2.2.2.2 (fun M76 hI76 f76 => ?_)
          refine pv_then0 ?_
          have hBb : xlBad M M76 kb ab := ((hP.nil.xd k1).xdb hB).go (emFr rfl f76) (f76 1 4 rfl).1 (f76 1 5 rfl).1 hI76
          refine pv_aloadn (pc := 91) (n := 1) 1 rfl rfl (fm_dec dtX1_readUnit 50 rfl) ?_
          refine pv_invV0 (k := 1) (d' := 0) (pc := 92) pcv_X1_72 (by decide) rfl (Nat.le_of_ble_eq_true rfl) (by omega) (fm_dec dtX1_readUnit 51 rfl) ?_
          refine c_xfailed (fun h9 => absurd h9 (hBb.nz)) (fun _ => ?_) 
          refine pv_then1 ?_
          refine pv_if_ne (pc := 95) 102 (by decide) (fm_dec dtX1_readUnit 52 rfl) (fun _ => ?_) (fun hc95 => by exfalso; revert hc95; decide)
          refine pv_iconst (pc := 102) (v := 0) (by decide) (fm_dec dtX1_readUnit 55 rfl) ?_
          exact pv_zreturn (pc := 103) rfl (by first | exact Or.inr rfl | exact Or.inl rfl) (fm_dec dtX1_readUnit 56 rfl) (hE.2 M76 kb ab (e0.trans (eU.trans (by unfold spBind; rw [show spNum tx 0 999 (sk tx p) = _ from eb]))) hBb)
  · have t40 : tx (sk tx p) = 40 := (by rw [← hv1, hc14]; decide)
    have eU := un_p (rc := fun q => spL tx f 0 (o + 1) q) (o := o) t40
    refine pv_iloadn (pc := 17) (n := 2) 2 rfl rfl (fm_dec dtX1_readUnit 9 rfl) ?_
    refine pv_bipush (pc := 18) (v := 6) (by decide) (fm_dec dtX1_readUnit 10 rfl) ?_
    refine pv_icmp_lt (pc := 20) 31 (by decide) (fm_dec dtX1_readUnit 11 rfl) (fun hc20 => ?_) (fun hc20 => ?_)
    · have o6 : o < 6 := (by have h9 : (6 : Int32).toInt = 6 := (by decide); rw [sc_lt] at hc20; omega)
      have k31 := place1 k1.1 k1.2.1 k1.2.2.2 (by rw [t40]; decide)
      have hP46 := hP1.xd k31 (Nat.le_succ _)
      rw [if_neg (show ¬ o = 6 by omega)] at eU
      have ne46 : ¬ spPar tx (fun q => spL tx f 0 (o + 1) q) (sk tx p + 1) = .inl (9, 0) := fun h9 => hne (e0.trans (eU.trans h9))
      refine pv_aloadn (pc := 31) (n := 1) 1 rfl rfl (fm_dec dtX1_readUnit 17 rfl) ?_
      refine pv_dup (pc := 32) rfl (fm_dec dtX1_readUnit 18 rfl) ?_
      refine pv_getI (k := 1) (j := 3) (ci := 7) (pc := 33) pfl_X1_41 (by decide) rfl (by decide) (fm_dec dtX1_readUnit 19 rfl) ?_
      refine pv_iconst (pc := 36) (v := 1) (by decide) (fm_dec dtX1_readUnit 20 rfl) ?_
      refine pv_iadd (pc := 37) (fm_dec dtX1_readUnit 21 rfl) ?_
      refine pv_putI (k := 1) (j := 3) (ci := 7) (pc := 38) pfl_X1_41 (by decide) rfl (by decide) (fm_dec dtX1_readUnit 22 rfl) ?_
      refine pv_aloadn (pc := 41) (n := 0) 0 rfl rfl (fm_dec dtX1_readUnit 23 rfl) ?_
      refine pv_aloadn (pc := 42) (n := 1) 1 rfl rfl (fm_dec dtX1_readUnit 24 rfl) ?_
      refine pv_iloadn (pc := 43) (n := 2) 2 rfl rfl (fm_dec dtX1_readUnit 25 rfl) ?_
      refine pv_iconst (pc := 44) (v := 1) (by decide) (fm_dec dtX1_readUnit 26 rfl) ?_
      refine pv_iadd (pc := 45) (fm_dec dtX1_readUnit 27 rfl) ?_
      refine pv_invV2 (k := 23) (d' := (8 + 4 * (6 - (o + 1)))) (pc := 46) pcv_X1_31 (by decide) rfl (Nat.le_of_ble_eq_true rfl) (by omega) (fm_dec dtX1_readUnit 28 rfl) ?_
      refine h0 (o + 1) (sk tx p + 1) m _ _ (op + 1) hP46 (i32_p1 ho (by omega)) (by omega) (spBind_ne ne46) ⟨fun M46 c46 q46 e46 k46 => ?_, fun Mb kb ab eb hB => ?_⟩  
      · refine pv_then1 ?_
        refine pv_if_eq (pc := 49) 65 (by decide) (fm_dec dtX1_readUnit 29 rfl) (fun hc49 => by exfalso; revert hc49; decide) (fun _ => ?_)
        refine pv_aloadn (pc := 52) (n := 1) 1 rfl rfl (fm_dec dtX1_readUnit 30 rfl) ?_
        refine pv_bipush (pc := 53) (v := 41) (by decide) (fm_dec dtX1_readUnit 31 rfl) ?_
        refine pv_invV1 (k := 1) (d' := 1) (pc := 55) pcv_X1_64 (by decide) rfl (Nat.le_of_ble_eq_true rfl) (by omega) (fm_dec dtX1_readUnit 32 rfl) ?_
        refine x_signC 41 (by decide) (by decide) k46.1 k46.2.1 k46.2.2.1 (fun M55 q55 e55 k55 => ?_) (fun Mb kb ab eb hB => ?_)  
        · refine pv_then1 ?_
          refine pv_if_eq (pc := 58) 65 (by decide) (fm_dec dtX1_readUnit 33 rfl) (fun hc58 => by exfalso; revert hc58; decide) (fun _ => ?_)
          refine pv_iconst (pc := 61) (v := 1) (by decide) (fm_dec dtX1_readUnit 34 rfl) ?_
          refine pv_goto (pc := 62) 66 (by decide) (fm_dec dtX1_readUnit 35 rfl) ?_
          exact pv_zreturn (pc := 66) rfl (by first | exact Or.inr rfl | exact Or.inl rfl) (fm_dec dtX1_readUnit 37 rfl) (hE.1 M55 c46 q55 (e0.trans (eU.trans (by unfold spPar spBind; dsimp only; rw [e46]; simp only; rw [e55]))) (by have h9 := (((hP.nil.xd k1).xd k31).trans (by simpa using k46)).xd k55; simpa using h9))
        · refine pv_then1 ?_
          refine pv_if_eq (pc := 58) 65 (by decide) (fm_dec dtX1_readUnit 33 rfl) (fun _ => ?_) (fun hc58 => by exfalso; revert hc58; decide)
          refine pv_iconst (pc := 65) (v := 0) (by decide) (fm_dec dtX1_readUnit 36 rfl) ?_
          exact pv_zreturn (pc := 66) rfl (by first | exact Or.inr rfl | exact Or.inl rfl) (fm_dec dtX1_readUnit 37 rfl) (hE.2 Mb kb ab (e0.trans (eU.trans (by unfold spPar spBind; dsimp only; rw [e46]; simp only; rw [eb]))) (by have h9 := (((hP.nil.xd k1).xd k31).trans (by simpa using k46)).xdb hB; exact h9))
      · refine pv_then1 ?_
        refine pv_if_eq (pc := 49) 65 (by decide) (fm_dec dtX1_readUnit 29 rfl) (fun _ => ?_) (fun hc49 => by exfalso; revert hc49; decide)
        refine pv_iconst (pc := 65) (v := 0) (by decide) (fm_dec dtX1_readUnit 36 rfl) ?_
        exact pv_zreturn (pc := 66) rfl (by first | exact Or.inr rfl | exact Or.inl rfl) (fm_dec dtX1_readUnit 37 rfl) (hE.2 Mb kb ab (e0.trans (eU.trans (by unfold spPar spBind; dsimp only; rw [eb]))) (((hP.nil.xd k1).xd k31).bad hB))
    · refine pv_aloadn (pc := 23) (n := 1) 1 rfl rfl (fm_dec dtX1_readUnit 12 rfl) ?_
      refine pv_iconst (pc := 24) (v := 3) (by decide) (fm_dec dtX1_readUnit 13 rfl) ?_
      refine pv_iload (pc := 25) (i := 4) rfl (fm_dec dtX1_readUnit 14 rfl) ?_
      refine pv_invV2 (k := 1) (d' := 0) (pc := 27) pcv_X1_44 (by decide) rfl (Nat.le_of_ble_eq_true rfl) (by omega) (fm_dec dtX1_readUnit 15 rfl) ?_
      refine c_xfail0 k1.2.1 ?_ 
      refine pv_then1 ?_
      exact pv_zreturn (pc := 30) rfl (by first | exact Or.inr rfl | exact Or.inl rfl) (fm_dec dtX1_readUnit 16 rfl) (hE.2 _ 3 (sk tx p) (e0.trans (eU.trans (if_pos (show o = 6 by have h9 : (6 : Int32).toInt = 6 := (by decide); rw [sc_lt] at hc20; omega)))) ((hP.nil.xd k1).xdb ⟨(show (3 : Int32).toInt = ((3 : Nat) : Int) by decide), (k1.1.2.1), by decide, ((xdFr.refl _).set (Or.inr (Or.inl rfl))).set (Or.inr (Or.inr rfl)), xI_45 k1.2.2.2 (show (3 : Int32).toInt = ((3 : Nat) : Int) by decide) (by decide) k1.1.2.1 k1.1.2.2.1 k1.1.2.2.2.1.1⟩))
theorem xl_all {tx : tX} {n : Nat} : ∀ f, xlG tx n f 0 ∧ xlG tx n f 1 ∧ xlG tx n f 2 ∧ xlG tx n f 3 ∧ xlG tx n f 4 := by
  intro f
  induction f with
  | zero => exact ⟨fun o p m M Q op hP ho ho6 hne => absurd rfl hne, fun o p m M Q op hP ho ho6 hne => absurd rfl hne, fun o p m M Q op hP ho ho6 hne => absurd rfl hne, fun o p m M Q op hP ho ho6 hne => absurd rfl hne, fun o p m M Q op hP ho ho6 hne => absurd rfl hne⟩
  | succ f ih => exact ⟨xl_readSum0 ih.2.1 ih.2.2.2.1, xl_readProduct0 ih.2.2.1 ih.2.2.2.2, xl_unit ih.1, xl_readSum3 ih.2.1 ih.2.2.2.1, xl_readProduct3 ih.2.2.1 ih.2.2.2.2⟩
end
-- P 18i
section
-- THE BYTES
theorem xb_bt (x s : Int32) : bt (xb x s) ((x >>> (s &&& 31)) &&& 255).toInt := by
  generalize hy : x >>> (s &&& 31) = y
  unfold bt xb
  rw [hy, and255]
  have e : (vp_nar .byte y.toInt8.toInt32).toInt = y.toInt.bmod 256 := by
    have h1 : (vp_nar .byte y.toInt8.toInt32) = y.toInt8.toInt32.toInt8.toInt32 := rfl
    rw [h1, Int8.toInt8_toInt32, Int8.toInt_toInt32, Int32.toInt_toInt8]
  rw [e, Int.bmod_def]
  have h0 := Int.emod_nonneg y.toInt (show (256 : Int) ≠ 0 by decide)
  split <;> split <;> omega
theorem pt_at {M : fmM} {f j : Nat} {b : Int32} : (ptM M f b).1 2 j = if j = f then b else M.1 2 j := by
  unfold ptM
  rw [fmI_k _ _ (by decide), fmI_at]
  by_cases e : j = f
  · rw [if_pos ⟨rfl, e⟩, if_pos e]
  · rw [if_neg (fun h => e h.2), if_neg e]
theorem pu_at {M : fmM} {f j : Nat} {x : Int32} : (puM M f x).1 2 j = if j = f + 3 then xb x 0 else if j = f + 2 then xb x 8 else if j = f + 1 then xb x 16 else if j = f then xb x 24 else M.1 2 j := by
  unfold puM
  rw [pt_at, pt_at, pt_at, pt_at]
theorem pu_lo {M : fmM} {f j : Nat} {x : Int32} (h : j < f) : (puM M f x).1 2 j = M.1 2 j := by
  rw [pu_at, if_neg (by omega), if_neg (by omega), if_neg (by omega), if_neg (by omega)]
theorem fb_0 {a b c d e : Int32} : fdB a b c d e (nI 0) = a >>> ((24 : Int32) &&& 31) &&& 255 := by unfold fdB fdS; rw [if_neg (by decide), show (24 - 8 * (nI 0 - nI 0 / 4 * 4) : Int32) = 24 by decide]
theorem fb_1 {a b c d e : Int32} : fdB a b c d e (nI 1) = a >>> ((16 : Int32) &&& 31) &&& 255 := by unfold fdB fdS; rw [if_neg (by decide), show (24 - 8 * (nI 1 - nI 1 / 4 * 4) : Int32) = 16 by decide]
theorem fb_2 {a b c d e : Int32} : fdB a b c d e (nI 2) = a >>> ((8 : Int32) &&& 31) &&& 255 := by unfold fdB fdS; rw [if_neg (by decide), show (24 - 8 * (nI 2 - nI 2 / 4 * 4) : Int32) = 8 by decide]
theorem fb_3 {a b c d e : Int32} : fdB a b c d e (nI 3) = a >>> ((0 : Int32) &&& 31) &&& 255 := by unfold fdB fdS; rw [if_neg (by decide), show (24 - 8 * (nI 3 - nI 3 / 4 * 4) : Int32) = 0 by decide]
theorem fb_4 {a b c d e : Int32} : fdB a b c d e (nI 4) = b >>> ((24 : Int32) &&& 31) &&& 255 := by unfold fdB fdS; rw [if_pos (by decide), if_neg (by decide), show (24 - 8 * (nI 4 - nI 4 / 4 * 4) : Int32) = 24 by decide]
theorem fb_5 {a b c d e : Int32} : fdB a b c d e (nI 5) = b >>> ((16 : Int32) &&& 31) &&& 255 := by unfold fdB fdS; rw [if_pos (by decide), if_neg (by decide), show (24 - 8 * (nI 5 - nI 5 / 4 * 4) : Int32) = 16 by decide]
theorem fb_6 {a b c d e : Int32} : fdB a b c d e (nI 6) = b >>> ((8 : Int32) &&& 31) &&& 255 := by unfold fdB fdS; rw [if_pos (by decide), if_neg (by decide), show (24 - 8 * (nI 6 - nI 6 / 4 * 4) : Int32) = 8 by decide]
theorem fb_7 {a b c d e : Int32} : fdB a b c d e (nI 7) = b >>> ((0 : Int32) &&& 31) &&& 255 := by unfold fdB fdS; rw [if_pos (by decide), if_neg (by decide), show (24 - 8 * (nI 7 - nI 7 / 4 * 4) : Int32) = 0 by decide]
theorem fb_8 {a b c d e : Int32} : fdB a b c d e (nI 8) = c >>> ((24 : Int32) &&& 31) &&& 255 := by unfold fdB fdS; rw [if_pos (by decide), if_pos (by decide), if_neg (by decide), show (24 - 8 * (nI 8 - nI 8 / 4 * 4) : Int32) = 24 by decide]
theorem fb_9 {a b c d e : Int32} : fdB a b c d e (nI 9) = c >>> ((16 : Int32) &&& 31) &&& 255 := by unfold fdB fdS; rw [if_pos (by decide), if_pos (by decide), if_neg (by decide), show (24 - 8 * (nI 9 - nI 9 / 4 * 4) : Int32) = 16 by decide]
theorem fb_10 {a b c d e : Int32} : fdB a b c d e (nI 10) = c >>> ((8 : Int32) &&& 31) &&& 255 := by unfold fdB fdS; rw [if_pos (by decide), if_pos (by decide), if_neg (by decide), show (24 - 8 * (nI 10 - nI 10 / 4 * 4) : Int32) = 8 by decide]
theorem fb_11 {a b c d e : Int32} : fdB a b c d e (nI 11) = c >>> ((0 : Int32) &&& 31) &&& 255 := by unfold fdB fdS; rw [if_pos (by decide), if_pos (by decide), if_neg (by decide), show (24 - 8 * (nI 11 - nI 11 / 4 * 4) : Int32) = 0 by decide]
theorem fb_12 {a b c d e : Int32} : fdB a b c d e (nI 12) = d >>> ((24 : Int32) &&& 31) &&& 255 := by unfold fdB fdS; rw [if_pos (by decide), if_pos (by decide), if_pos (by decide), if_neg (by decide), show (24 - 8 * (nI 12 - nI 12 / 4 * 4) : Int32) = 24 by decide]
theorem fb_13 {a b c d e : Int32} : fdB a b c d e (nI 13) = d >>> ((16 : Int32) &&& 31) &&& 255 := by unfold fdB fdS; rw [if_pos (by decide), if_pos (by decide), if_pos (by decide), if_neg (by decide), show (24 - 8 * (nI 13 - nI 13 / 4 * 4) : Int32) = 16 by decide]
theorem fb_14 {a b c d e : Int32} : fdB a b c d e (nI 14) = d >>> ((8 : Int32) &&& 31) &&& 255 := by unfold fdB fdS; rw [if_pos (by decide), if_pos (by decide), if_pos (by decide), if_neg (by decide), show (24 - 8 * (nI 14 - nI 14 / 4 * 4) : Int32) = 8 by decide]
theorem fb_15 {a b c d e : Int32} : fdB a b c d e (nI 15) = d >>> ((0 : Int32) &&& 31) &&& 255 := by unfold fdB fdS; rw [if_pos (by decide), if_pos (by decide), if_pos (by decide), if_neg (by decide), show (24 - 8 * (nI 15 - nI 15 / 4 * 4) : Int32) = 0 by decide]
theorem fb_16 {a b c d e : Int32} : fdB a b c d e (nI 16) = e >>> ((24 : Int32) &&& 31) &&& 255 := by unfold fdB fdS; rw [if_pos (by decide), if_pos (by decide), if_pos (by decide), if_pos (by decide), show (24 - 8 * (nI 16 - nI 16 / 4 * 4) : Int32) = 24 by decide]
theorem fb_17 {a b c d e : Int32} : fdB a b c d e (nI 17) = e >>> ((16 : Int32) &&& 31) &&& 255 := by unfold fdB fdS; rw [if_pos (by decide), if_pos (by decide), if_pos (by decide), if_pos (by decide), show (24 - 8 * (nI 17 - nI 17 / 4 * 4) : Int32) = 16 by decide]
theorem fb_18 {a b c d e : Int32} : fdB a b c d e (nI 18) = e >>> ((8 : Int32) &&& 31) &&& 255 := by unfold fdB fdS; rw [if_pos (by decide), if_pos (by decide), if_pos (by decide), if_pos (by decide), show (24 - 8 * (nI 18 - nI 18 / 4 * 4) : Int32) = 8 by decide]
theorem fb_19 {a b c d e : Int32} : fdB a b c d e (nI 19) = e >>> ((0 : Int32) &&& 31) &&& 255 := by unfold fdB fdS; rw [if_pos (by decide), if_pos (by decide), if_pos (by decide), if_pos (by decide), show (24 - 8 * (nI 19 - nI 19 / 4 * 4) : Int32) = 0 by decide]
/-- the same bytes stand on both tapes -/
def byR (M M2 : fmM) (f : Nat) : Prop := ∀ i, i < f → bt (M.1 2 i) (M2.1 1 i).toInt
theorem by_feed {M M2 M2' : fmM} {f : Nat} {a b c d e : Int32} (h : byR M M2 f) (hr : feR (fmI M2 0 0 0) M2' f 0 (fun i => fdB a b c d e (nI i))) : byR (puM (puM (puM (puM (puM M f a) (f + 4) b) (f + 4 + 4) c) (f + 4 + 4 + 4) d) (f + 4 + 4 + 4 + 4) e) M2' (f + 20) := by
  intro i hi
  by_cases hf : i < f
  · rw [pu_lo (by omega), pu_lo (by omega), pu_lo (by omega), pu_lo (by omega), pu_lo hf, hr.2.2.1 1 i (by omega) (by omega), fmI_k _ _ (by decide)]
    exact h i hf
  · obtain ⟨t, rfl⟩ : ∃ t, i = f + t := ⟨i - f, by omega⟩
    rw [hr.2.1 t (Nat.zero_le _) (by omega)]
    rcases (show t = 0 ∨ t = 1 ∨ t = 2 ∨ t = 3 ∨ t = 4 ∨ t = 5 ∨ t = 6 ∨ t = 7 ∨ t = 8 ∨ t = 9 ∨ t = 10 ∨ t = 11 ∨ t = 12 ∨ t = 13 ∨ t = 14 ∨ t = 15 ∨ t = 16 ∨ t = 17 ∨ t = 18 ∨ t = 19 by omega) with rfl | rfl | rfl | rfl | rfl | rfl | rfl | rfl | rfl | rfl | rfl | rfl | rfl | rfl | rfl | rfl | rfl | rfl | rfl | rfl
    · show bt _ (fdB a b c d e (nI 0)).toInt
      rw [pu_lo (by omega), pu_lo (by omega), pu_lo (by omega), pu_lo (by omega), pu_at, if_neg (by omega), if_neg (by omega), if_neg (by omega), if_pos (by omega), fb_0]
      exact xb_bt a 24
    · show bt _ (fdB a b c d e (nI 1)).toInt
      rw [pu_lo (by omega), pu_lo (by omega), pu_lo (by omega), pu_lo (by omega), pu_at, if_neg (by omega), if_neg (by omega), if_pos (by omega), fb_1]
      exact xb_bt a 16
    · show bt _ (fdB a b c d e (nI 2)).toInt
      rw [pu_lo (by omega), pu_lo (by omega), pu_lo (by omega), pu_lo (by omega), pu_at, if_neg (by omega), if_pos (by omega), fb_2]
      exact xb_bt a 8
    · show bt _ (fdB a b c d e (nI 3)).toInt
      rw [pu_lo (by omega), pu_lo (by omega), pu_lo (by omega), pu_lo (by omega), pu_at, if_pos (by omega), fb_3]
      exact xb_bt a 0
    · show bt _ (fdB a b c d e (nI 4)).toInt
      rw [pu_lo (by omega), pu_lo (by omega), pu_lo (by omega), pu_at, if_neg (by omega), if_neg (by omega), if_neg (by omega), if_pos (by omega), fb_4]
      exact xb_bt b 24
    · show bt _ (fdB a b c d e (nI 5)).toInt
      rw [pu_lo (by omega), pu_lo (by omega), pu_lo (by omega), pu_at, if_neg (by omega), if_neg (by omega), if_pos (by omega), fb_5]
      exact xb_bt b 16
    · show bt _ (fdB a b c d e (nI 6)).toInt
      rw [pu_lo (by omega), pu_lo (by omega), pu_lo (by omega), pu_at, if_neg (by omega), if_pos (by omega), fb_6]
      exact xb_bt b 8
    · show bt _ (fdB a b c d e (nI 7)).toInt
      rw [pu_lo (by omega), pu_lo (by omega), pu_lo (by omega), pu_at, if_pos (by omega), fb_7]
      exact xb_bt b 0
    · show bt _ (fdB a b c d e (nI 8)).toInt
      rw [pu_lo (by omega), pu_lo (by omega), pu_at, if_neg (by omega), if_neg (by omega), if_neg (by omega), if_pos (by omega), fb_8]
      exact xb_bt c 24
    · show bt _ (fdB a b c d e (nI 9)).toInt
      rw [pu_lo (by omega), pu_lo (by omega), pu_at, if_neg (by omega), if_neg (by omega), if_pos (by omega), fb_9]
      exact xb_bt c 16
    · show bt _ (fdB a b c d e (nI 10)).toInt
      rw [pu_lo (by omega), pu_lo (by omega), pu_at, if_neg (by omega), if_pos (by omega), fb_10]
      exact xb_bt c 8
    · show bt _ (fdB a b c d e (nI 11)).toInt
      rw [pu_lo (by omega), pu_lo (by omega), pu_at, if_pos (by omega), fb_11]
      exact xb_bt c 0
    · show bt _ (fdB a b c d e (nI 12)).toInt
      rw [pu_lo (by omega), pu_at, if_neg (by omega), if_neg (by omega), if_neg (by omega), if_pos (by omega), fb_12]
      exact xb_bt d 24
    · show bt _ (fdB a b c d e (nI 13)).toInt
      rw [pu_lo (by omega), pu_at, if_neg (by omega), if_neg (by omega), if_pos (by omega), fb_13]
      exact xb_bt d 16
    · show bt _ (fdB a b c d e (nI 14)).toInt
      rw [pu_lo (by omega), pu_at, if_neg (by omega), if_pos (by omega), fb_14]
      exact xb_bt d 8
    · show bt _ (fdB a b c d e (nI 15)).toInt
      rw [pu_lo (by omega), pu_at, if_pos (by omega), fb_15]
      exact xb_bt d 0
    · show bt _ (fdB a b c d e (nI 16)).toInt
      rw [pu_at, if_neg (by omega), if_neg (by omega), if_neg (by omega), if_pos (by omega), fb_16]
      exact xb_bt e 24
    · show bt _ (fdB a b c d e (nI 17)).toInt
      rw [pu_at, if_neg (by omega), if_neg (by omega), if_pos (by omega), fb_17]
      exact xb_bt e 16
    · show bt _ (fdB a b c d e (nI 18)).toInt
      rw [pu_at, if_neg (by omega), if_pos (by omega), fb_18]
      exact xb_bt e 8
    · show bt _ (fdB a b c d e (nI 19)).toInt
      rw [pu_at, if_pos (by omega), fb_19]
      exact xb_bt e 0
end
