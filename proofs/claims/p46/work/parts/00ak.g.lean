-- P 18f
section
-- THE TAPE, exactly
/-- a text of n bytes may be taken -/
def txP (n : Int32) (most fill : Int) : Prop := 0 ≤ n.toInt ∧ n.toInt ≤ most ∧ n.toInt ≤ fill
def opM (M : fmM) (n : Int32) : fmM := fmI (fmI (fmI (fmI (fmI M 1 2 n) 1 3 0) 1 1 0) 1 4 0) 1 5 (-1)
theorem mn_t {n x z : Int32} (h : n.toInt ≤ (pvMx false x z).toInt) : n.toInt ≤ x.toInt ∧ n.toInt ≤ z.toInt := by
  have h : n.toInt ≤ (if x.toInt ≤ z.toInt then x else z).toInt := h
  split at h <;> omega
theorem mn_f {n x z : Int32} (h : n.toInt ≤ x.toInt ∧ n.toInt ≤ z.toInt) : n.toInt ≤ (pvMx false x z).toInt := by
  show n.toInt ≤ (if x.toInt ≤ z.toInt then x else z).toInt
  split <;> omega
theorem inv_open {M : fmM} {n : Int32} (hI : scInv Tx invX M) (h0 : 0 ≤ n.toInt) (h6 : n.toInt ≤ 600) : scInv Tx invX (opM M n) := xInv.put (xInv.put (xInv.put (xInv.put (xInv.put hI ⟨h0, h6⟩) (by decide)) (by decide)) (by decide)) (by decide)
/-- what a text's call leaves of the tape -/
def txE (M : fmM) (n : Int32) (most : Int) (M' : fmM) : Prop := (txP n most (M.1 1 1).toInt ∧ M'.1 1 1 = 0) ∨ (¬ txP n most (M.1 1 1).toInt ∧ M'.1 1 1 = M.1 1 1 ∧ M'.1 2 = M.1 2)
def txG (M : fmM) (n : Int32) (most : Int) (M' : fmM) : Prop := (txP n most (M.1 0 1).toInt ∧ M'.1 0 1 = 0) ∨ (¬ txP n most (M.1 0 1).toInt ∧ M'.1 0 1 = M.1 0 1 ∧ M'.1 1 = M.1 1)
theorem tx_eq {M M' M2 M2' : fmM} {n : Int32} {most : Int} (h : M.1 1 1 = M2.1 0 1) (h1 : txE M n most M') (h2 : txG M2 n most M2') : M'.1 1 1 = M2'.1 0 1 := by
  unfold txE at h1
  unfold txG at h2
  rw [h] at h1
  rcases h1 with ⟨p, e⟩ | ⟨p, e, -⟩ <;> rcases h2 with ⟨q, e2⟩ | ⟨q, e2, -⟩
  · rw [e, e2]
  · exact absurd p q
  · exact absurd q p
  · rw [e, e2]
set_option maxRecDepth 20000 in
theorem c_open {M : fmM} {Q : fmR → fmM → Prop} {n : Int32} (hq : Q (.inl none) (opM M n)) : pvGood Tx 0 qX7_open [.ref 1, .int n] M Q := by
  refine pvGood_of (Nat.le_of_ble_eq_true rfl) ?_
  show pvEv Tx 0 qX7_open 0 [some (.ref 1), some (.int n)] [] M Q
  refine pv_aloadn (pc := 0) (n := 0) 0 rfl rfl (fm_dec dtX7_open 0 rfl) ?_
  refine pv_iloadn (pc := 1) (n := 1) 1 rfl rfl (fm_dec dtX7_open 1 rfl) ?_
  refine pv_putI (k := 1) (j := 2) (ci := 7) (pc := 2) pfl_X7_22 (by decide) rfl (by decide) (fm_dec dtX7_open 2 rfl) ?_
  refine pv_aloadn (pc := 5) (n := 0) 0 rfl rfl (fm_dec dtX7_open 3 rfl) ?_
  refine pv_iconst (pc := 6) (v := 0) (by decide) (fm_dec dtX7_open 4 rfl) ?_
  refine pv_putI (k := 1) (j := 3) (ci := 7) (pc := 7) pfl_X7_25 (by decide) rfl (by decide) (fm_dec dtX7_open 5 rfl) ?_
  refine pv_aloadn (pc := 10) (n := 0) 0 rfl rfl (fm_dec dtX7_open 6 rfl) ?_
  refine pv_iconst (pc := 11) (v := 0) (by decide) (fm_dec dtX7_open 7 rfl) ?_
  refine pv_putI (k := 1) (j := 1) (ci := 7) (pc := 12) pfl_X7_19 (by decide) rfl (by decide) (fm_dec dtX7_open 8 rfl) ?_
  refine pv_aloadn (pc := 15) (n := 0) 0 rfl rfl (fm_dec dtX7_open 9 rfl) ?_
  refine pv_iconst (pc := 16) (v := 0) (by decide) (fm_dec dtX7_open 10 rfl) ?_
  refine pv_putI (k := 1) (j := 4) (ci := 7) (pc := 17) pfl_X7_28 (by decide) rfl (by decide) (fm_dec dtX7_open 11 rfl) ?_
  refine pv_aloadn (pc := 20) (n := 0) 0 rfl rfl (fm_dec dtX7_open 12 rfl) ?_
  refine pv_iconst (pc := 21) (v := (-1)) (by decide) (fm_dec dtX7_open 13 rfl) ?_
  refine pv_putI (k := 1) (j := 5) (ci := 7) (pc := 22) pfl_X7_15 (by decide) rfl (by decide) (fm_dec dtX7_open 14 rfl) ?_
  exact pv_return (pc := 25) rfl (fm_dec dtX7_open 15 rfl) hq
set_option maxRecDepth 20000 in
theorem c_openT {M : fmM} {Q : fmR → fmM → Prop} {n mo : Int32} (ht : txP n mo.toInt (M.1 1 1).toInt → Q (.inl none) (opM M n)) (hf : ¬ txP n mo.toInt (M.1 1 1).toInt → Q (.inr fmIAE) (fmI M 0 16 (M.1 0 16 + 1))) : pvGood Tx 1 qX10_openText [.ref 0, .int n, .int mo] M Q := by
  refine pvGood_of (Nat.le_of_ble_eq_true rfl) ?_
  show pvEv Tx 1 qX10_openText 0 [some (.ref 0), some (.int n), some (.int mo)] [] M Q
  refine pv_aloadn (pc := 0) (n := 0) 0 rfl rfl (fm_dec dtX10_openText 0 rfl) ?_
  refine pv_iloadn (pc := 1) (n := 1) 1 rfl rfl (fm_dec dtX10_openText 1 rfl) ?_
  refine pv_iconst (pc := 2) (v := 0) (by decide) (fm_dec dtX10_openText 2 rfl) ?_
  refine pv_iloadn (pc := 3) (n := 2) 2 rfl rfl (fm_dec dtX10_openText 3 rfl) ?_
  refine pv_aloadn (pc := 4) (n := 0) 0 rfl rfl (fm_dec dtX10_openText 4 rfl) ?_
  refine pv_getR (k := 0) (j := 0) (ci := 10) (pc := 5) 1 rfl (by decide) pfl_X10_12 (by decide) rfl (by decide) (fm_dec dtX10_openText 5 rfl) ?_
  refine pv_getI (k := 1) (j := 1) (ci := 7) (pc := 8) pfl_X10_100 (by decide) rfl (by decide) (fm_dec dtX10_openText 6 rfl) ?_
  refine pv_mm (pc := 11) pmm_X10_352 (by decide) (Nat.le_of_ble_eq_true rfl) (fm_dec dtX10_openText 7 rfl) ?_
  refine pv_invV3 (k := 0) (d' := 0) (pc := 14) pcv_X10_169 (by decide) rfl (Nat.le_of_ble_eq_true rfl) (by decide) (fm_dec dtX10_openText 8 rfl) ?_
  refine c_needW (fun h14a h14b => ?_) (fun h14 => ?_)
  · refine pv_then0 ?_
    refine pv_aloadn (pc := 17) (n := 0) 0 rfl rfl (fm_dec dtX10_openText 9 rfl) ?_
    refine pv_getR (k := 0) (j := 0) (ci := 10) (pc := 18) 1 rfl (by decide) pfl_X10_12 (by decide) rfl (by decide) (fm_dec dtX10_openText 10 rfl) ?_
    refine pv_iloadn (pc := 21) (n := 1) 1 rfl rfl (fm_dec dtX10_openText 11 rfl) ?_
    refine pv_invV1 (k := 1) (d' := 0) (pc := 22) pcv_X10_381 (by decide) rfl (Nat.le_of_ble_eq_true rfl) (by decide) (fm_dec dtX10_openText 12 rfl) ?_
    refine c_open ?_
    refine pv_then0 ?_
    exact pv_return (pc := 25) rfl (fm_dec dtX10_openText 13 rfl) (ht ⟨h14a, (mn_t h14b).1, (mn_t h14b).2⟩)
  · refine pv_thenX ?_
    exact hf (fun h9 => h14 ⟨h9.1, mn_f h9.2⟩)
theorem s_read8 {M : fmM} {Q : fmR → fmM → Prop}  (hI : scInv Tx invX M) (q0 : ∀ (n : Int32) (M' : fmM), (0 ≤ n.toInt ∧ n.toInt ≤ 1) → scInv Tx invX M' → scFr [(1, 3, 3), (13, 9, 6), (14, 0, 8), (15, 0, 8), (16, 0, 8), (17, 0, 8), (18, 0, 8), (19, 0, 8), (20, 0, 24), (21, 0, 24), (22, 0, 24)] M M' → Q (.inl (some (.int n))) M') : pvGood Tx 7 qX8_read [.ref 13, .ref 1] M Q := (hh_X8_read_0 M [] [.ref 13, .ref 1] scEk.n0 ⟨⟨13, by simp, rfl⟩, ⟨1, by simp, rfl⟩, trivial⟩ (fun f hf => by cases hf) hI).imp (fun r M' h => by
  obtain ⟨⟨o, ho, hr, hf9, hm⟩, h1, h2⟩ := h
  rcases List.mem_cons.mp ho with rfl | ho
  · obtain ⟨n, rfl, c1, c2⟩ := hr; exact q0 n M' ⟨c1, c2⟩ h1 h2
  · cases ho)
theorem s_copy8 {M : fmM} {Q : fmR → fmM → Prop}  (hI : scInv Tx invX M) (q0 : ∀ M' : fmM, scInv Tx invX M' → scFr [(3, 9, 6), (4, 0, 8), (5, 0, 8), (6, 0, 8), (7, 0, 8), (8, 0, 8), (9, 0, 8), (10, 0, 24), (11, 0, 24), (12, 0, 24)] M M' → Q (.inl none) M') : pvGood Tx 0 qX8_copyFrom [.ref 3, .ref 13] M Q := (hh_X8_copyFrom_0 M [] [.ref 3, .ref 13] scEk.n0 ⟨⟨3, by simp, rfl⟩, ⟨13, by simp, rfl⟩, trivial⟩ (fun f hf => by cases hf) hI).imp (fun r M' h => by
  obtain ⟨⟨o, ho, hr, hf9, hm⟩, h1, h2⟩ := h
  rcases List.mem_cons.mp ho with rfl | ho
  · have hr : r = .inl none := hr; subst hr; exact q0 M' h1 h2
  · cases ho)
theorem s_clear1 {M : fmM} {Q : fmR → fmM → Prop}  (hI : scInv Tx invX M) (q0 : ∀ M' : fmM, scInv Tx invX M' → scFr [(23, 3, 1), (24, 0, 3)] M M' → Q (.inl none) M') : pvGood Tx 0 qX1_clear [.ref 23] M Q := (hh_X1_clear_0 M [] [.ref 23] scEk.n0 ⟨⟨23, by simp, rfl⟩, trivial⟩ (fun f hf => by cases hf) hI).imp (fun r M' h => by
  obtain ⟨⟨o, ho, hr, hf9, hm⟩, h1, h2⟩ := h
  rcases List.mem_cons.mp ho with rfl | ho
  · have hr : r = .inl none := hr; subst hr; exact q0 M' h1 h2
  · cases ho)
theorem s_clear2 {M : fmM} {Q : fmR → fmM → Prop}  (hI : scInv Tx invX M) (q0 : ∀ M' : fmM, scInv Tx invX M' → scFr [(27, 0, 3)] M M' → Q (.inl none) M') : pvGood Tx 0 qX2_clear [.ref 27] M Q := (hh_X2_clear_0 M [] [.ref 27] scEk.n0 ⟨⟨27, by simp, rfl⟩, trivial⟩ (fun f hf => by cases hf) hI).imp (fun r M' h => by
  obtain ⟨⟨o, ho, hr, hf9, hm⟩, h1, h2⟩ := h
  rcases List.mem_cons.mp ho with rfl | ho
  · have hr : r = .inl none := hr; subst hr; exact q0 M' h1 h2
  · cases ho)
theorem s_begin6 {M : fmM} {Q : fmR → fmM → Prop}  (hI : scInv Tx invX M) (q0 : ∀ M' : fmM, scInv Tx invX M' → scFr [(47, 1, 6), (48, 0, 8)] M M' → Q (.inl none) M') : pvGood Tx 0 qX6_begin [.ref 47, .ref 3] M Q := (hh_X6_begin_0 M [] [.ref 47, .ref 3] scEk.n0 ⟨⟨47, by simp, rfl⟩, ⟨3, by simp, rfl⟩, trivial⟩ (fun f hf => by cases hf) hI).imp (fun r M' h => by
  obtain ⟨⟨o, ho, hr, hf9, hm⟩, h1, h2⟩ := h
  rcases List.mem_cons.mp ho with rfl | ho
  · have hr : r = .inl none := hr; subst hr; exact q0 M' h1 h2
  · cases ho)
theorem s_read1 {M : fmM} {Q : fmR → fmM → Prop}  (hI : scInv Tx invX M) (q0 : ∀ (n : Int32) (M' : fmM), (0 ≤ n.toInt ∧ n.toInt ≤ 1) → scInv Tx invX M' → scFr [(1, 3, 3), (23, 3, 2), (24, 0, 150), (25, 0, 150)] M M' → Q (.inl (some (.int n))) M') : pvGood Tx 33 qX1_read [.ref 23, .ref 1] M Q := (hh_X1_read_0 M [] [.ref 23, .ref 1] scEk.n0 ⟨⟨23, by simp, rfl⟩, ⟨1, by simp, rfl⟩, trivial⟩ (fun f hf => by cases hf) hI).imp (fun r M' h => by
  obtain ⟨⟨o, ho, hr, hf9, hm⟩, h1, h2⟩ := h
  rcases List.mem_cons.mp ho with rfl | ho
  · obtain ⟨n, rfl, c1, c2⟩ := hr; exact q0 n M' ⟨c1, c2⟩ h1 h2
  · cases ho)
theorem s_read2 {M : fmM} {Q : fmR → fmM → Prop}  (hI : scInv Tx invX M) (q0 : ∀ (n : Int32) (M' : fmM), (0 ≤ n.toInt ∧ n.toInt ≤ 1) → scInv Tx invX M' → scFr [(1, 3, 3), (27, 0, 3)] M M' → Q (.inl (some (.int n))) M') : pvGood Tx 3 qX2_read [.ref 27, .ref 1] M Q := (hh_X2_read_0 M [] [.ref 27, .ref 1] scEk.n0 ⟨⟨27, by simp, rfl⟩, ⟨1, by simp, rfl⟩, trivial⟩ (fun f hf => by cases hf) hI).imp (fun r M' h => by
  obtain ⟨⟨o, ho, hr, hf9, hm⟩, h1, h2⟩ := h
  rcases List.mem_cons.mp ho with rfl | ho
  · obtain ⟨n, rfl, c1, c2⟩ := hr; exact q0 n M' ⟨c1, c2⟩ h1 h2
  · cases ho)
set_option maxRecDepth 20000 in
theorem c_odrawer {M : fmM} {Q : fmR → fmM → Prop} {nn : Int32} (hI : scInv Tx invX M) (hq : ∀ (r : fmR) (M' : fmM), txE M nn 600 M' → Q r M') : pvGood Tx 40 qX10_drawer [.ref 0, .int nn] M Q := by
  refine pvGood_of (Nat.le_of_ble_eq_true rfl) ?_
  show pvEv Tx 40 qX10_drawer 0 [some (.ref 0), some (.int nn)] [] M Q
  refine pv_aloadn (pc := 0) (n := 0) 0 rfl rfl (fm_dec dtX10_drawer 0 rfl) ?_
  refine pv_iloadn (pc := 1) (n := 1) 1 rfl rfl (fm_dec dtX10_drawer 1 rfl) ?_
  refine pv_sipush (pc := 2) (v := 600) (by decide) (fm_dec dtX10_drawer 2 rfl) ?_
  refine pv_invV2 (k := 0) (d' := 1) (pc := 5) pcv_X10_108 (by decide) rfl (Nat.le_of_ble_eq_true rfl) (by decide) (fm_dec dtX10_drawer 3 rfl) ?_
  refine c_openT (fun h5 => ?_) (fun h5 => ?_)
  · refine pv_then0 ?_
    have hI5 := inv_open (n := nn) hI h5.1 h5.2.1
    refine pv_aloadn (pc := 8) (n := 0) 0 rfl rfl (fm_dec dtX10_drawer 4 rfl) ?_
    refine pv_getR (k := 0) (j := 2) (ci := 10) (pc := 9) 13 rfl (by decide) pfl_X10_23 (by decide) rfl (by decide) (fm_dec dtX10_drawer 5 rfl) ?_
    refine pv_aloadn (pc := 12) (n := 0) 0 rfl rfl (fm_dec dtX10_drawer 6 rfl) ?_
    refine pv_getR (k := 0) (j := 0) (ci := 10) (pc := 13) 1 rfl (by decide) pfl_X10_12 (by decide) rfl (by decide) (fm_dec dtX10_drawer 7 rfl) ?_
    refine pv_invV1 (k := 13) (d' := 7) (pc := 16) pcv_X10_112 (by decide) rfl (Nat.le_of_ble_eq_true rfl) (by decide) (fm_dec dtX10_drawer 8 rfl) ?_
    refine s_read8 hI5 (fun n16 M16 b16 hI16 f16 => ?_)
    refine pv_then1 ?_
    refine pv_if_ne (pc := 19) 33 (by decide) (fm_dec dtX10_drawer 9 rfl) (fun hc19 => ?_) (fun hc19 => ?_)
    · refine pv_aloadn (pc := 33) (n := 0) 0 rfl rfl (fm_dec dtX10_drawer 16 rfl) ?_
      refine pv_getR (k := 0) (j := 1) (ci := 10) (pc := 34) 3 rfl (by decide) pfl_X10_19 (by decide) rfl (by decide) (fm_dec dtX10_drawer 17 rfl) ?_
      refine pv_aloadn (pc := 37) (n := 0) 0 rfl rfl (fm_dec dtX10_drawer 18 rfl) ?_
      refine pv_getR (k := 0) (j := 2) (ci := 10) (pc := 38) 13 rfl (by decide) pfl_X10_23 (by decide) rfl (by decide) (fm_dec dtX10_drawer 19 rfl) ?_
      refine pv_invV1 (k := 3) (d' := 0) (pc := 41) pcv_X10_119 (by decide) rfl (Nat.le_of_ble_eq_true rfl) (by decide) (fm_dec dtX10_drawer 20 rfl) ?_
      refine s_copy8 hI16 (fun M41 hI41 f41 => ?_)
      refine pv_then0 ?_
      refine pv_aloadn (pc := 44) (n := 0) 0 rfl rfl (fm_dec dtX10_drawer 21 rfl) ?_
      refine pv_getR (k := 0) (j := 3) (ci := 10) (pc := 45) 23 rfl (by decide) pfl_X10_29 (by decide) rfl (by decide) (fm_dec dtX10_drawer 22 rfl) ?_
      refine pv_invV0 (k := 23) (d' := 0) (pc := 48) pcv_X10_122 (by decide) rfl (Nat.le_of_ble_eq_true rfl) (by decide) (fm_dec dtX10_drawer 23 rfl) ?_
      refine s_clear1 hI41 (fun M48 hI48 f48 => ?_)
      refine pv_then0 ?_
      refine pv_aloadn (pc := 51) (n := 0) 0 rfl rfl (fm_dec dtX10_drawer 24 rfl) ?_
      refine pv_getR (k := 0) (j := 4) (ci := 10) (pc := 52) 27 rfl (by decide) pfl_X10_36 (by decide) rfl (by decide) (fm_dec dtX10_drawer 25 rfl) ?_
      refine pv_invV0 (k := 27) (d' := 0) (pc := 55) pcv_X10_125 (by decide) rfl (Nat.le_of_ble_eq_true rfl) (by decide) (fm_dec dtX10_drawer 26 rfl) ?_
      refine s_clear2 hI48 (fun M55 hI55 f55 => ?_)
      refine pv_then0 ?_
      refine pv_aloadn (pc := 58) (n := 0) 0 rfl rfl (fm_dec dtX10_drawer 27 rfl) ?_
      refine pv_getR (k := 0) (j := 9) (ci := 10) (pc := 59) 46 rfl (by decide) pfl_X10_75 (by decide) rfl (by decide) (fm_dec dtX10_drawer 28 rfl) ?_
      refine pv_getR (k := 46) (j := 0) (ci := 5) (pc := 62) 47 rfl (by decide) pfl_X10_90 (by decide) rfl (by decide) (fm_dec dtX10_drawer 29 rfl) ?_
      refine pv_aloadn (pc := 65) (n := 0) 0 rfl rfl (fm_dec dtX10_drawer 30 rfl) ?_
      refine pv_getR (k := 0) (j := 1) (ci := 10) (pc := 66) 3 rfl (by decide) pfl_X10_19 (by decide) rfl (by decide) (fm_dec dtX10_drawer 31 rfl) ?_
      refine pv_invV1 (k := 47) (d' := 0) (pc := 69) pcv_X10_94 (by decide) rfl (Nat.le_of_ble_eq_true rfl) (by decide) (fm_dec dtX10_drawer 32 rfl) ?_
      refine s_begin6 hI55 (fun M69 hI69 f69 => ?_)
      refine pv_then0 ?_
      refine pv_aloadn (pc := 72) (n := 0) 0 rfl rfl (fm_dec dtX10_drawer 33 rfl) ?_
      refine pv_getR (k := 0) (j := 9) (ci := 10) (pc := 73) 46 rfl (by decide) pfl_X10_75 (by decide) rfl (by decide) (fm_dec dtX10_drawer 34 rfl) ?_
      refine pv_iconst (pc := 76) (v := 0) (by decide) (fm_dec dtX10_drawer 35 rfl) ?_
      refine pv_putI (k := 46) (j := 2) (ci := 5) (pc := 77) pfl_X10_126 (by decide) rfl (by decide) (fm_dec dtX10_drawer 36 rfl) ?_
      refine pv_aloadn (pc := 80) (n := 0) 0 rfl rfl (fm_dec dtX10_drawer 37 rfl) ?_
      refine pv_iconst (pc := 81) (v := 0) (by decide) (fm_dec dtX10_drawer 38 rfl) ?_
      refine pv_putI (k := 0) (j := 13) (ci := 10) (pc := 82) pfl_X10_129 (by decide) rfl (by decide) (fm_dec dtX10_drawer 39 rfl) ?_
      refine pv_aloadn (pc := 85) (n := 0) 0 rfl rfl (fm_dec dtX10_drawer 40 rfl) ?_
      refine pv_iconst (pc := 86) (v := 0) (by decide) (fm_dec dtX10_drawer 41 rfl) ?_
      refine pv_putI (k := 0) (j := 14) (ci := 10) (pc := 87) pfl_X10_132 (by decide) rfl (by decide) (fm_dec dtX10_drawer 42 rfl) ?_
      refine pv_aloadn (pc := 90) (n := 0) 0 rfl rfl (fm_dec dtX10_drawer 43 rfl) ?_
      refine pv_getR (k := 0) (j := 7) (ci := 10) (pc := 91) 34 rfl (by decide) pfl_X10_61 (by decide) rfl (by decide) (fm_dec dtX10_drawer 44 rfl) ?_
      refine pv_invV0 (k := 34) (d' := 0) (pc := 94) pcv_X10_135 (by decide) rfl (Nat.le_of_ble_eq_true rfl) (by decide) (fm_dec dtX10_drawer 45 rfl) ?_
      refine s_forget (xInv.put (xInv.put (xInv.put hI69 (by decide)) (by decide)) (scq_t 0)) (fun M94 hI94 f94 => ?_)
      refine pv_then0 ?_
      refine pv_aloadn (pc := 97) (n := 0) 0 rfl rfl (fm_dec dtX10_drawer 46 rfl) ?_
      refine pv_getR (k := 0) (j := 1) (ci := 10) (pc := 98) 3 rfl (by decide) pfl_X10_19 (by decide) rfl (by decide) (fm_dec dtX10_drawer 47 rfl) ?_
      refine pv_getI (k := 3) (j := 9) (ci := 8) (pc := 101) pfl_X10_138 (by decide) rfl (by decide) (fm_dec dtX10_drawer 48 rfl) ?_
      exact pv_ireturn (pc := 104) rfl (fm_dec dtX10_drawer 49 rfl) (hq _ _ (Or.inl ⟨h5, (f94 1 1 rfl).1.trans ((f69 1 1 rfl).1.trans ((f55 1 1 rfl).1.trans ((f48 1 1 rfl).1.trans ((f41 1 1 rfl).1.trans ((f16 1 1 rfl).1.trans rfl)))))⟩))
    · refine pv_aloadn (pc := 22) (n := 0) 0 rfl rfl (fm_dec dtX10_drawer 10 rfl) ?_
      refine pv_getR (k := 0) (j := 0) (ci := 10) (pc := 23) 1 rfl (by decide) pfl_X10_12 (by decide) rfl (by decide) (fm_dec dtX10_drawer 11 rfl) ?_
      refine pv_getI (k := 1) (j := 4) (ci := 7) (pc := 26) pfl_X10_116 (by decide) rfl (by decide) (fm_dec dtX10_drawer 12 rfl) ?_
      refine pv_bipush (pc := 29) (v := 10) (by decide) (fm_dec dtX10_drawer 13 rfl) ?_
      refine pv_isub (pc := 31) (fm_dec dtX10_drawer 14 rfl) ?_
      exact pv_ireturn (pc := 32) rfl (fm_dec dtX10_drawer 15 rfl) (hq _ _ (Or.inl ⟨h5, ((f16 1 1 rfl).1.trans rfl)⟩))
  · refine pv_thenX ?_
    exact hq _ _ (Or.inr ⟨h5, rfl, rfl⟩)
set_option maxRecDepth 20000 in
theorem c_olaw {M : fmM} {Q : fmR → fmM → Prop} {nn : Int32} (hI : scInv Tx invX M) (hq : ∀ (r : fmR) (M' : fmM), txE M nn 150 M' → Q r M') : pvGood Tx 40 qX10_law [.ref 0, .int nn] M Q := by
  refine pvGood_of (Nat.le_of_ble_eq_true rfl) ?_
  show pvEv Tx 40 qX10_law 0 [some (.ref 0), some (.int nn)] [] M Q
  refine pv_aloadn (pc := 0) (n := 0) 0 rfl rfl (fm_dec dtX10_law 0 rfl) ?_
  refine pv_iloadn (pc := 1) (n := 1) 1 rfl rfl (fm_dec dtX10_law 1 rfl) ?_
  refine pv_sipush (pc := 2) (v := 150) (by decide) (fm_dec dtX10_law 2 rfl) ?_
  refine pv_invV2 (k := 0) (d' := 1) (pc := 5) pcv_X10_108 (by decide) rfl (Nat.le_of_ble_eq_true rfl) (by decide) (fm_dec dtX10_law 3 rfl) ?_
  refine c_openT (fun h5 => ?_) (fun h5 => ?_)
  · refine pv_then0 ?_
    have hI5 := inv_open (n := nn) hI h5.1 (by have h9 : nn.toInt ≤ 150 := h5.2.1; omega)
    refine pv_aloadn (pc := 8) (n := 0) 0 rfl rfl (fm_dec dtX10_law 4 rfl) ?_
    refine pv_getR (k := 0) (j := 3) (ci := 10) (pc := 9) 23 rfl (by decide) pfl_X10_29 (by decide) rfl (by decide) (fm_dec dtX10_law 5 rfl) ?_
    refine pv_aloadn (pc := 12) (n := 0) 0 rfl rfl (fm_dec dtX10_law 6 rfl) ?_
    refine pv_getR (k := 0) (j := 0) (ci := 10) (pc := 13) 1 rfl (by decide) pfl_X10_12 (by decide) rfl (by decide) (fm_dec dtX10_law 7 rfl) ?_
    refine pv_invV1 (k := 23) (d' := 33) (pc := 16) pcv_X10_141 (by decide) rfl (Nat.le_of_ble_eq_true rfl) (by decide) (fm_dec dtX10_law 8 rfl) ?_
    refine s_read1 hI5 (fun n16 M16 b16 hI16 f16 => ?_)
    refine pv_then1 ?_
    refine pv_if_ne (pc := 19) 33 (by decide) (fm_dec dtX10_law 9 rfl) (fun hc19 => ?_) (fun hc19 => ?_)
    · refine pv_aloadn (pc := 33) (n := 0) 0 rfl rfl (fm_dec dtX10_law 16 rfl) ?_
      refine pv_getR (k := 0) (j := 7) (ci := 10) (pc := 34) 34 rfl (by decide) pfl_X10_61 (by decide) rfl (by decide) (fm_dec dtX10_law 17 rfl) ?_
      refine pv_invV0 (k := 34) (d' := 0) (pc := 37) pcv_X10_135 (by decide) rfl (Nat.le_of_ble_eq_true rfl) (by decide) (fm_dec dtX10_law 18 rfl) ?_
      refine s_forget hI16 (fun M37 hI37 f37 => ?_)
      refine pv_then0 ?_
      refine pv_iconst (pc := 40) (v := 1) (by decide) (fm_dec dtX10_law 19 rfl) ?_
      exact pv_ireturn (pc := 41) rfl (fm_dec dtX10_law 20 rfl) (hq _ _ (Or.inl ⟨h5, (f37 1 1 rfl).1.trans ((f16 1 1 rfl).1.trans rfl)⟩))
    · refine pv_aloadn (pc := 22) (n := 0) 0 rfl rfl (fm_dec dtX10_law 10 rfl) ?_
      refine pv_getR (k := 0) (j := 0) (ci := 10) (pc := 23) 1 rfl (by decide) pfl_X10_12 (by decide) rfl (by decide) (fm_dec dtX10_law 11 rfl) ?_
      refine pv_getI (k := 1) (j := 4) (ci := 7) (pc := 26) pfl_X10_116 (by decide) rfl (by decide) (fm_dec dtX10_law 12 rfl) ?_
      refine pv_bipush (pc := 29) (v := 10) (by decide) (fm_dec dtX10_law 13 rfl) ?_
      refine pv_isub (pc := 31) (fm_dec dtX10_law 14 rfl) ?_
      exact pv_ireturn (pc := 32) rfl (fm_dec dtX10_law 15 rfl) (hq _ _ (Or.inl ⟨h5, ((f16 1 1 rfl).1.trans rfl)⟩))
  · refine pv_thenX ?_
    exact hq _ _ (Or.inr ⟨h5, rfl, rfl⟩)
set_option maxRecDepth 20000 in
theorem c_opage {M : fmM} {Q : fmR → fmM → Prop} {nn : Int32} (hI : scInv Tx invX M) (hq : ∀ (r : fmR) (M' : fmM), txE M nn 60 M' → Q r M') : pvGood Tx 40 qX10_page [.ref 0, .int nn] M Q := by
  refine pvGood_of (Nat.le_of_ble_eq_true rfl) ?_
  show pvEv Tx 40 qX10_page 0 [some (.ref 0), some (.int nn)] [] M Q
  refine pv_aloadn (pc := 0) (n := 0) 0 rfl rfl (fm_dec dtX10_page 0 rfl) ?_
  refine pv_iloadn (pc := 1) (n := 1) 1 rfl rfl (fm_dec dtX10_page 1 rfl) ?_
  refine pv_bipush (pc := 2) (v := 60) (by decide) (fm_dec dtX10_page 2 rfl) ?_
  refine pv_invV2 (k := 0) (d' := 1) (pc := 4) pcv_X10_108 (by decide) rfl (Nat.le_of_ble_eq_true rfl) (by decide) (fm_dec dtX10_page 3 rfl) ?_
  refine c_openT (fun h4 => ?_) (fun h4 => ?_)
  · refine pv_then0 ?_
    have h5 := h4
    have hI5 := inv_open (n := nn) hI h5.1 (by have h9 : nn.toInt ≤ 60 := h5.2.1; omega)
    refine pv_aloadn (pc := 7) (n := 0) 0 rfl rfl (fm_dec dtX10_page 4 rfl) ?_
    refine pv_getR (k := 0) (j := 4) (ci := 10) (pc := 8) 27 rfl (by decide) pfl_X10_36 (by decide) rfl (by decide) (fm_dec dtX10_page 5 rfl) ?_
    refine pv_aloadn (pc := 11) (n := 0) 0 rfl rfl (fm_dec dtX10_page 6 rfl) ?_
    refine pv_getR (k := 0) (j := 0) (ci := 10) (pc := 12) 1 rfl (by decide) pfl_X10_12 (by decide) rfl (by decide) (fm_dec dtX10_page 7 rfl) ?_
    refine pv_invV1 (k := 27) (d' := 3) (pc := 15) pcv_X10_161 (by decide) rfl (Nat.le_of_ble_eq_true rfl) (by decide) (fm_dec dtX10_page 8 rfl) ?_
    refine s_read2 hI5 (fun n15 M15 b15 hI15 f15 => ?_)
    refine pv_then1 ?_
    refine pv_if_ne (pc := 18) 32 (by decide) (fm_dec dtX10_page 9 rfl) (fun hc18 => ?_) (fun hc18 => ?_)
    · refine pv_aloadn (pc := 32) (n := 0) 0 rfl rfl (fm_dec dtX10_page 16 rfl) ?_
      refine pv_getR (k := 0) (j := 4) (ci := 10) (pc := 33) 27 rfl (by decide) pfl_X10_36 (by decide) rfl (by decide) (fm_dec dtX10_page 17 rfl) ?_
      refine pv_getI (k := 27) (j := 0) (ci := 2) (pc := 36) pfl_X10_162 (by decide) rfl (by decide) (fm_dec dtX10_page 18 rfl) ?_
      exact pv_ireturn (pc := 39) rfl (fm_dec dtX10_page 19 rfl) (hq _ _ (Or.inl ⟨h5, ((f15 1 1 rfl).1.trans rfl)⟩))
    · refine pv_aloadn (pc := 21) (n := 0) 0 rfl rfl (fm_dec dtX10_page 10 rfl) ?_
      refine pv_getR (k := 0) (j := 0) (ci := 10) (pc := 22) 1 rfl (by decide) pfl_X10_12 (by decide) rfl (by decide) (fm_dec dtX10_page 11 rfl) ?_
      refine pv_getI (k := 1) (j := 4) (ci := 7) (pc := 25) pfl_X10_116 (by decide) rfl (by decide) (fm_dec dtX10_page 12 rfl) ?_
      refine pv_bipush (pc := 28) (v := 10) (by decide) (fm_dec dtX10_page 13 rfl) ?_
      refine pv_isub (pc := 30) (fm_dec dtX10_page 14 rfl) ?_
      exact pv_ireturn (pc := 31) rfl (fm_dec dtX10_page 15 rfl) (hq _ _ (Or.inl ⟨h5, ((f15 1 1 rfl).1.trans rfl)⟩))
  · refine pv_thenX ?_
    exact hq _ _ (Or.inr ⟨h4, rfl, rfl⟩)
set_option maxRecDepth 20000 in
theorem c_owork {M : fmM} {Q : fmR → fmM → Prop} {nn : Int32} (hI : scInv Tx invX M) (hq : ∀ (r : fmR) (M' : fmM), txE M nn 150 M' → Q r M') : pvGood Tx 213 qX10_work [.ref 0, .int nn] M Q := by
  refine pvGood_of (Nat.le_of_ble_eq_true rfl) ?_
  show pvEv Tx 213 qX10_work 0 [some (.ref 0), some (.int nn)] [] M Q
  refine pv_aloadn (pc := 0) (n := 0) 0 rfl rfl (fm_dec dtX10_work 0 rfl) ?_
  refine pv_iloadn (pc := 1) (n := 1) 1 rfl rfl (fm_dec dtX10_work 1 rfl) ?_
  refine pv_sipush (pc := 2) (v := 150) (by decide) (fm_dec dtX10_work 2 rfl) ?_
  refine pv_invV2 (k := 0) (d' := 1) (pc := 5) pcv_X10_108 (by decide) rfl (Nat.le_of_ble_eq_true rfl) (by decide) (fm_dec dtX10_work 3 rfl) ?_
  refine c_openT (fun h5 => ?_) (fun h5 => ?_)
  · refine pv_then0 ?_
    have hI5 := inv_open (n := nn) hI h5.1 (by have h9 : nn.toInt ≤ 150 := h5.2.1; omega)
    refine pv_aloadn (pc := 8) (n := 0) 0 rfl rfl (fm_dec dtX10_work 4 rfl) ?_
    refine pv_getR (k := 0) (j := 9) (ci := 10) (pc := 9) 46 rfl (by decide) pfl_X10_75 (by decide) rfl (by decide) (fm_dec dtX10_work 5 rfl) ?_
    refine pv_getI (k := 46) (j := 2) (ci := 5) (pc := 12) pfl_X10_126 (by decide) rfl (by decide) (fm_dec dtX10_work 6 rfl) ?_
    refine pv_bipush (pc := 15) (v := 16) (by decide) (fm_dec dtX10_work 7 rfl) ?_
    refine pv_icmp_lt (pc := 17) 23 (by decide) (fm_dec dtX10_work 8 rfl) (fun hc17 => ?_) (fun hc17 => ?_)
    · refine pv_aloadn (pc := 23) (n := 0) 0 rfl rfl (fm_dec dtX10_work 11 rfl) ?_
      refine pv_getR (k := 0) (j := 5) (ci := 10) (pc := 24) 28 rfl (by decide) pfl_X10_43 (by decide) rfl (by decide) (fm_dec dtX10_work 12 rfl) ?_
      refine pv_aloadn (pc := 27) (n := 0) 0 rfl rfl (fm_dec dtX10_work 13 rfl) ?_
      refine pv_getR (k := 0) (j := 0) (ci := 10) (pc := 28) 1 rfl (by decide) pfl_X10_12 (by decide) rfl (by decide) (fm_dec dtX10_work 14 rfl) ?_
      refine pv_aloadn (pc := 31) (n := 0) 0 rfl rfl (fm_dec dtX10_work 15 rfl) ?_
      refine pv_getR (k := 0) (j := 1) (ci := 10) (pc := 32) 3 rfl (by decide) pfl_X10_19 (by decide) rfl (by decide) (fm_dec dtX10_work 16 rfl) ?_
      refine pv_getI (k := 3) (j := 9) (ci := 8) (pc := 35) pfl_X10_138 (by decide) rfl (by decide) (fm_dec dtX10_work 17 rfl) ?_
      refine pv_invV2 (k := 28) (d' := 27) (pc := 38) pcv_X10_142 (by decide) rfl (Nat.le_of_ble_eq_true rfl) (by decide) (fm_dec dtX10_work 18 rfl) ?_
      refine c_xread hI5 (hI5.1 3 9 (by decide)) (fun M38 z hI38 f38 h4 hz hz2 hS => ?_) (fun M38 hI38 f38 => ?_)  
      · refine pv_then1 ?_
        refine pv_if_ne (pc := 41) 55 (by decide) (fm_dec dtX10_work 19 rfl) (fun _ => ?_) (fun hc41 => by exfalso; revert hc41; decide)
        refine pv_aloadn (pc := 55) (n := 0) 0 rfl rfl (fm_dec dtX10_work 26 rfl) ?_
        refine pv_getR (k := 0) (j := 9) (ci := 10) (pc := 56) 46 rfl (by decide) pfl_X10_75 (by decide) rfl (by decide) (fm_dec dtX10_work 27 rfl) ?_
        refine pv_invV0 (k := 46) (d' := 1) (pc := 59) pcv_X10_145 (by decide) rfl (Nat.le_of_ble_eq_true rfl) (by decide) (fm_dec dtX10_work 28 rfl) ?_
        refine s_keepx hI38 (fun M59 hI59 f59 => ?_)
        refine pv_then0 ?_
        have hQ9 : xQ M59 z 0 := ⟨hz2, fun i a b => (hS i a b).up (Nat.le_refl _) (fun k hk => (f59 k i (kpW_k (by omega))).1), hI59, (by rw [(f59 28 4 (kpW_k (by decide))).1]; exact h4), by decide⟩
        refine pv_aloadn (pc := 62) (n := 0) 0 rfl rfl (fm_dec dtX10_work 29 rfl) ?_
        refine pv_getR (k := 0) (j := 5) (ci := 10) (pc := 63) 28 rfl (by decide) pfl_X10_43 (by decide) rfl (by decide) (fm_dec dtX10_work 30 rfl) ?_
        refine pv_aloadn (pc := 66) (n := 0) 0 rfl rfl (fm_dec dtX10_work 31 rfl) ?_
        refine pv_getR (k := 0) (j := 6) (ci := 10) (pc := 67) 32 rfl (by decide) pfl_X10_52 (by decide) rfl (by decide) (fm_dec dtX10_work 32 rfl) ?_
        refine pv_aloadn (pc := 70) (n := 0) 0 rfl rfl (fm_dec dtX10_work 33 rfl) ?_
        refine pv_getR (k := 0) (j := 9) (ci := 10) (pc := 71) 46 rfl (by decide) pfl_X10_75 (by decide) rfl (by decide) (fm_dec dtX10_work 34 rfl) ?_
        refine pv_getR (k := 46) (j := 0) (ci := 5) (pc := 74) 47 rfl (by decide) pfl_X10_90 (by decide) rfl (by decide) (fm_dec dtX10_work 35 rfl) ?_
        refine pv_iconst (pc := 77) (v := 0) (by decide) (fm_dec dtX10_work 36 rfl) ?_
        refine pv_aloadn (pc := 78) (n := 0) 0 rfl rfl (fm_dec dtX10_work 37 rfl) ?_
        refine pv_getR (k := 0) (j := 5) (ci := 10) (pc := 79) 28 rfl (by decide) pfl_X10_43 (by decide) rfl (by decide) (fm_dec dtX10_work 38 rfl) ?_
        refine pv_getI (k := 28) (j := 3) (ci := 9) (pc := 82) pfl_X10_148 (by decide) rfl (by decide) (fm_dec dtX10_work 39 rfl) ?_
        refine pv_iconst (pc := 85) (v := 0) (by decide) (fm_dec dtX10_work 40 rfl) ?_
        refine pv_invV5 (k := 28) (d' := (12 + 200)) (pc := 86) pcv_X10_151 (by decide) rfl (Nat.le_of_ble_eq_true rfl) (by decide) (fm_dec dtX10_work 41 rfl) ?_
        refine xp_G (xp_P 200) M59 _ z 0 0 z _ 0 0 hQ9 (by omega) (by decide) (by rw [(f59 28 3 (kpW_k (by decide))).1]; exact hz) (Nat.le_refl _) (fun M86 g86 hI86 f86 hg86 _ _ => ?_) 
        refine pv_then0 ?_
        refine pv_aloadn (pc := 89) (n := 0) 0 rfl rfl (fm_dec dtX10_work 42 rfl) ?_
        refine pv_aloadn (pc := 90) (n := 0) 0 rfl rfl (fm_dec dtX10_work 43 rfl) ?_
        refine pv_getR (k := 0) (j := 5) (ci := 10) (pc := 91) 28 rfl (by decide) pfl_X10_43 (by decide) rfl (by decide) (fm_dec dtX10_work 44 rfl) ?_
        refine pv_getI (k := 28) (j := 6) (ci := 9) (pc := 94) pfl_X10_155 (by decide) rfl (by decide) (fm_dec dtX10_work 45 rfl) ?_
        refine pv_putI (k := 0) (j := 14) (ci := 10) (pc := 97) pfl_X10_132 (by decide) rfl (by decide) (fm_dec dtX10_work 46 rfl) ?_
        refine pv_aloadn (pc := 100) (n := 0) 0 rfl rfl (fm_dec dtX10_work 47 rfl) ?_
        refine pv_getR (k := 0) (j := 7) (ci := 10) (pc := 101) 34 rfl (by decide) pfl_X10_61 (by decide) rfl (by decide) (fm_dec dtX10_work 48 rfl) ?_
        refine pv_invV0 (k := 34) (d' := 0) (pc := 104) pcv_X10_135 (by decide) rfl (Nat.le_of_ble_eq_true rfl) (by decide) (fm_dec dtX10_work 49 rfl) ?_
        refine s_forget (xInv.put hI86 (scq_t _)) (fun M104 hI104 f104 => ?_)
        refine pv_then0 ?_
        refine pv_aloadn (pc := 107) (n := 0) 0 rfl rfl (fm_dec dtX10_work 50 rfl) ?_
        refine pv_getR (k := 0) (j := 5) (ci := 10) (pc := 108) 28 rfl (by decide) pfl_X10_43 (by decide) rfl (by decide) (fm_dec dtX10_work 51 rfl) ?_
        refine pv_getI (k := 28) (j := 5) (ci := 9) (pc := 111) pfl_X10_158 (by decide) rfl (by decide) (fm_dec dtX10_work 52 rfl) ?_
        exact pv_ireturn (pc := 114) rfl (fm_dec dtX10_work 53 rfl) (hq _ _ (Or.inl ⟨h5, (f104 1 1 rfl).1.trans ((f86 1 1 rfl).1.trans ((f59 1 1 (kpW_k (by decide))).1.trans ((f38 1 1 rfl).1.trans rfl)))⟩))
      · refine pv_then1 ?_
        refine pv_if_ne (pc := 41) 55 (by decide) (fm_dec dtX10_work 19 rfl) (fun hc41 => by exfalso; revert hc41; decide) (fun _ => ?_)
        refine pv_aloadn (pc := 44) (n := 0) 0 rfl rfl (fm_dec dtX10_work 20 rfl) ?_
        refine pv_getR (k := 0) (j := 0) (ci := 10) (pc := 45) 1 rfl (by decide) pfl_X10_12 (by decide) rfl (by decide) (fm_dec dtX10_work 21 rfl) ?_
        refine pv_getI (k := 1) (j := 4) (ci := 7) (pc := 48) pfl_X10_116 (by decide) rfl (by decide) (fm_dec dtX10_work 22 rfl) ?_
        refine pv_bipush (pc := 51) (v := 10) (by decide) (fm_dec dtX10_work 23 rfl) ?_
        refine pv_isub (pc := 53) (fm_dec dtX10_work 24 rfl) ?_
        exact pv_ireturn (pc := 54) rfl (fm_dec dtX10_work 25 rfl) (hq _ _ (Or.inl ⟨h5, ((f38 1 1 rfl).1.trans rfl)⟩))
    · refine pv_bipush (pc := 20) (v := (-20)) (by decide) (fm_dec dtX10_work 9 rfl) ?_
      exact pv_ireturn (pc := 22) rfl (fm_dec dtX10_work 10 rfl) (hq _ _ (Or.inl ⟨h5, rfl⟩))
  · refine pv_thenX ?_
    exact hq _ _ (Or.inr ⟨h5, rfl, rfl⟩)
theorem tape6 {M : fmM} (hI : scInv Tm invM M) : (M.1 0 1).toInt ≤ 600 := (hI.1 0 1 (by decide)).2
theorem c_gdrawer {M : fmM} {Q : fmR → fmM → Prop} {nn : Int32} (hI : scInv Tm invM M) (hq : ∀ (r : fmR) (M' : fmM), txG M nn 600 M' → Q r M') : pvGood Tm 6 qX11_drawer [.ref 0, .int nn] M Q := by
  have h6 := tape6 hI
  refine c_drawer (inv_fed hI) h6 (fun hn => hq _ _ (Or.inr ⟨fun h => hn ⟨h.1, h.2.2⟩, rfl, rfl⟩)) (fun n0 M1 M2 D r e1 e2 hs _ hD h _ => hq _ _ (Or.inl ⟨⟨by omega, by omega, by omega⟩, ?_⟩)) (fun n0 k a M1 M2 r e1 e2 hs _ hka h _ => hq _ _ (Or.inl ⟨⟨by omega, by omega, by omega⟩, ?_⟩))
  · obtain ⟨h3, Mx, hF, -, -, -, -, d2, -⟩ := h
    rw [d2 1 (by decide) (by decide) (by decide) (by decide) (by decide), fmI_j _ _ (by decide), hF.2.1 1 (by decide) (by decide) (by decide) (by decide)]
    exact hs.2.2.2.2.1
  · obtain ⟨h1, Mx, hF, rfl⟩ := h
    rw [fmI_j _ _ (by decide), hF.2.1 1 (by decide) (by decide) (by decide) (by decide)]
    exact hs.2.2.2.2.1
theorem c_glaw {M : fmM} {Q : fmR → fmM → Prop} {nn : Int32} (hI : scInv Tm invM M) (hq : ∀ (r : fmR) (M' : fmM), txG M nn 150 M' → Q r M') : pvGood Tm 27 qX11_law [.ref 0, .int nn] M Q := c_law (inv_fed hI) (fun hn => hq _ _ (Or.inr ⟨fun h => hn ⟨h.1, h.2.2, h.2.1⟩, rfl, rfl⟩)) (fun n0 cs M' e1 e2 e3 _ hd h => hq _ _ (Or.inl ⟨⟨by omega, by omega, by omega⟩, h.1.2⟩)) (fun n0 k a r M' e1 e2 e3 _ _ _ h => hq _ _ (Or.inl ⟨⟨by omega, by omega, by omega⟩, h.1.2⟩))
theorem c_gpage {M : fmM} {Q : fmR → fmM → Prop} {nn : Int32} (hI : scInv Tm invM M) (hq : ∀ (r : fmR) (M' : fmM), txG M nn 60 M' → Q r M') : pvGood Tm 3 qX11_page [.ref 0, .int nn] M Q := by
  refine c_page (inv_fed hI) (fun hn => hq _ _ (Or.inr ⟨fun h => hn ⟨h.1, h.2.2, h.2.1⟩, rfl, rfl⟩)) (fun n0 M1 M2 ls r e1 e2 e3 hs _ h _ => hq _ _ (Or.inl ⟨⟨by omega, by omega, by omega⟩, ?_⟩)) (fun n0 k a M1 M2 r e1 e2 e3 hs _ hka h _ => hq _ _ (Or.inl ⟨⟨by omega, by omega, by omega⟩, ?_⟩))
  · obtain ⟨h1, h2, h3, h4, h5, h5b, h6, h7, h8⟩ := h
    exact (h7 1 (by decide) (by decide) (by decide) (by decide) (by decide)).trans hs.2.2.2.2.1
  · obtain ⟨h1, h2, h3, h6, h7, h8⟩ := h
    exact (h7 1 (by decide) (by decide) (by decide) (by decide) (by decide)).trans hs.2.2.2.2.1
set_option maxRecDepth 20000 in
theorem wk_f0 {Q : fmR → fmM → Prop} {M : fmM} {nn : Int32} {ss : tS} {l w : Nat} (hf : M.1 0 5 = 0) (hI : scInv Tm invM M) (hw : (M.1 0 32).toInt = w) (hw16 : w < 16) (hR : stRep M 0 ss) (hO : ssOk l 0 ss) (hn : ss.length ≤ 80) (hl : l ≤ 8) (h4 : (M.1 4 0).toInt = l) (h26 : (M.1 0 26).toInt = (ss.length : Int)) (hq : ∀ (n : Int32) (M' : fmM), scInv Tm invM M' → M'.1 0 1 = M.1 0 1 → Q (.inl (some (.int n))) M') : pvEv Tm 213 qX11_work 101 [some (.ref 0), some (.int nn)] [] M Q := by
  refine pv_aloadn (pc := 101) (n := 0) 0 rfl rfl (fm_dec dtX11_work 53 rfl) ?_
  refine pv_getI (k := 0) (j := 5) (ci := 11) (pc := 102) pfl_X11_117 (by decide) rfl (by decide) (fm_dec dtX11_work 54 rfl) ?_
  refine pv_if_eq (pc := 105) 113 (by decide) (fm_dec dtX11_work 55 rfl) (fun _ => ?_) (fun hc105 => by exfalso; exact hc105 hf)
  refine pv_aloadn (pc := 113) (n := 0) 0 rfl rfl (fm_dec dtX11_work 59 rfl) ?_
  refine pv_iconst (pc := 114) (v := (-1)) (by decide) (fm_dec dtX11_work 60 rfl) ?_
  refine pv_putI (k := 0) (j := 3) (ci := 11) (pc := 115) pfl_X11_9 (by decide) rfl (by decide) (fm_dec dtX11_work 61 rfl) ?_
  refine pv_aloadn (pc := 118) (n := 0) 0 rfl rfl (fm_dec dtX11_work 62 rfl) ?_
  refine pv_getR (k := 0) (j := 27) (ci := 11) (pc := 119) 7 rfl (by decide) pfl_X11_61 (by decide) rfl (by decide) (fm_dec dtX11_work 63 rfl) ?_
  refine pv_aloadn (pc := 122) (n := 0) 0 rfl rfl (fm_dec dtX11_work 64 rfl) ?_
  refine pv_getR (k := 0) (j := 29) (ci := 11) (pc := 123) 25 rfl (by decide) pfl_X11_67 (by decide) rfl (by decide) (fm_dec dtX11_work 65 rfl) ?_
  refine pv_aloadn (pc := 126) (n := 0) 0 rfl rfl (fm_dec dtX11_work 66 rfl) ?_
  refine pv_getI (k := 0) (j := 32) (ci := 11) (pc := 127) pfl_X11_200 (by decide) rfl (by decide) (fm_dec dtX11_work 67 rfl) ?_
  refine pv_aald (k := 25) (n := 16) (r := (503 + w)) (pc := 130) (by decide) (Or.inr (Or.inr rfl)) rfl (rw_before.inb hw hw16) (rw_before.at hw hw16) (rw_before.2.2.2 _ hw16).2.1 (fm_dec dtX11_work 68 rfl) ?_
  refine pv_iS2 (d' := 0) (pc := 131) pcs_X11_323 (Nat.le_of_ble_eq_true rfl) (by omega) (fm_dec dtX11_work 69 rfl) ?_
  refine s_keep hw16 (hI.put (k := 0) (j := 3) (x := -1) (by decide) rfl) (fun M131 hI131 f131 => ?_) 
  refine pv_then0 ?_
  refine pv_aloadn (pc := 134) (n := 0) 0 rfl rfl (fm_dec dtX11_work 70 rfl) ?_
  refine pv_dup (pc := 135) rfl (fm_dec dtX11_work 71 rfl) ?_
  refine pv_getI (k := 0) (j := 32) (ci := 11) (pc := 136) pfl_X11_200 (by decide) rfl (by decide) (fm_dec dtX11_work 72 rfl) ?_
  refine pv_iconst (pc := 139) (v := 1) (by decide) (fm_dec dtX11_work 73 rfl) ?_
  refine pv_iadd (pc := 140) (fm_dec dtX11_work 74 rfl) ?_
  refine pv_putI (k := 0) (j := 32) (ci := 11) (pc := 141) pfl_X11_200 (by decide) rfl (by decide) (fm_dec dtX11_work 75 rfl) ?_
  refine pv_aloadn (pc := 144) (n := 0) 0 rfl rfl (fm_dec dtX11_work 76 rfl) ?_
  refine pv_iconst (pc := 145) (v := 0) (by decide) (fm_dec dtX11_work 77 rfl) ?_
  refine pv_putI (k := 0) (j := 36) (ci := 11) (pc := 146) pfl_X11_310 (by decide) rfl (by decide) (fm_dec dtX11_work 78 rfl) ?_
  refine pv_aloadn (pc := 149) (n := 0) 0 rfl rfl (fm_dec dtX11_work 79 rfl) ?_
  refine pv_iconst (pc := 150) (v := 0) (by decide) (fm_dec dtX11_work 80 rfl) ?_
  refine pv_putI (k := 0) (j := 37) (ci := 11) (pc := 151) pfl_X11_320 (by decide) rfl (by decide) (fm_dec dtX11_work 81 rfl) ?_
  refine pv_aloadn (pc := 154) (n := 0) 0 rfl rfl (fm_dec dtX11_work 82 rfl) ?_
  refine pv_iconst (pc := 155) (v := 0) (by decide) (fm_dec dtX11_work 83 rfl) ?_
  refine pv_putI (k := 0) (j := 33) (ci := 11) (pc := 156) pfl_X11_203 (by decide) rfl (by decide) (fm_dec dtX11_work 84 rfl) ?_
  have h32 : M131.1 0 32 = M.1 0 32 := (f131 0 32 rfl).1
  have hI5 : scInv Tm invM (wkM M131) := (by unfold wkM; refine inv_c0g (inv_c0g (inv_c0g (hI131.put (k := 0) (j := 32) ?_ rfl) (Or.inr (Or.inl rfl))) (Or.inr (Or.inr rfl))) (Or.inl rfl); rw [h32]; have h9 := i32_p1 hw (by omega); exact ⟨by show (0 : Int) ≤ _; omega, by show _ ≤ (16 : Int); omega⟩)
  have ek : ∀ k j, k ≠ 0 → k < 503 → (wkM M131).1 k j = M.1 k j := fun k j h0 h1 => (by unfold wkM; rw [fmI_k _ _ h0, fmI_k _ _ h0, fmI_k _ _ h0, fmI_k _ _ h0, (f131 k j (cpW_k h1)).1, fmI_k _ _ h0])
  have e26 : (wkM M131).1 0 26 = M.1 0 26 := (by unfold wkM; rw [fmI_j _ _ (by decide), fmI_j _ _ (by decide), fmI_j _ _ (by decide), fmI_j _ _ (by decide), (f131 0 26 rfl).1, fmI_j _ _ (by decide)])
  have hG5 : gSt (wkM M131) ss.length l 0 := gSt_of (hR.of (by omega) (fun k j a b => ek k j (by omega) b)) hO hn hl (by rw [ek 4 0 (by decide) (by decide)]; exact h4) hI5 rfl
  refine pv_aloadn (pc := 159) (n := 0) 0 rfl rfl (fm_dec dtX11_work 85 rfl) ?_
  refine pv_iconst (pc := 160) (v := 0) (by decide) (fm_dec dtX11_work 86 rfl) ?_
  refine pv_aloadn (pc := 161) (n := 0) 0 rfl rfl (fm_dec dtX11_work 87 rfl) ?_
  refine pv_getI (k := 0) (j := 26) (ci := 11) (pc := 162) pfl_X11_250 (by decide) rfl (by decide) (fm_dec dtX11_work 88 rfl) ?_
  refine pv_invV2 (k := 0) (d' := (12 + 200)) (pc := 165) pcv_X11_313 (by decide) rfl (Nat.le_of_ble_eq_true rfl) (by omega) (fm_dec dtX11_work 89 rfl) ?_
  refine gs_G (gs_P 200) _ _ ss.length l 0 0 ss.length 0 _ hG5 (by omega) (by decide) ((congrArg Int32.toInt e26).trans h26) (Nat.le_refl _) (fun M165 g165 hI165 f165 hg165 _ _ => ?_) 
  refine pv_then0 ?_
  refine pv_aloadn (pc := 168) (n := 0) 0 rfl rfl (fm_dec dtX11_work 90 rfl) ?_
  refine pv_getI (k := 0) (j := 37) (ci := 11) (pc := 169) pfl_X11_320 (by decide) rfl (by decide) (fm_dec dtX11_work 91 rfl) ?_
  exact pv_ireturn (pc := 172) rfl (fm_dec dtX11_work 92 rfl) (hq _ M165 hI165 (((f165 0 1 rfl).1).trans ((f131 0 1 rfl).1)))
set_option maxRecDepth 20000 in
theorem c_gwork {M : fmM} {Q : fmR → fmM → Prop} {nn : Int32} (hI : scInv Tm invM M) (hq : ∀ (r : fmR) (M' : fmM), txG M nn 150 M' → Q r M') : pvGood Tm 213 qX11_work [.ref 0, .int nn] M Q := by
  refine pvGood_of (Nat.le_of_ble_eq_true rfl) ?_
  show pvEv Tm 213 qX11_work 0 [some (.ref 0), some (.int nn)] [] M Q
  obtain ⟨l, h4, hl⟩ := told8 hI
  obtain ⟨w, hw, hw16⟩ := works16 hI
  have hI0 := hI.p00 (x := 0) (Or.inl rfl)
  have hfed := inv_fed hI
  refine pv_aloadn (pc := 0) (n := 0) 0 rfl rfl (fm_dec dtX11_work 0 rfl) ?_
  refine pv_iconst (pc := 1) (v := 0) (by decide) (fm_dec dtX11_work 1 rfl) ?_
  refine pv_putI (k := 0) (j := 0) (ci := 11) (pc := 2) pfl_X11_101 (by decide) rfl (by decide) (fm_dec dtX11_work 2 rfl) ?_
  refine pv_aloadn (pc := 5) (n := 0) 0 rfl rfl (fm_dec dtX11_work 3 rfl) ?_
  refine pv_iloadn (pc := 6) (n := 1) 1 rfl rfl (fm_dec dtX11_work 4 rfl) ?_
  refine pv_iconst (pc := 7) (v := 0) (by decide) (fm_dec dtX11_work 5 rfl) ?_
  refine pv_aloadn (pc := 8) (n := 0) 0 rfl rfl (fm_dec dtX11_work 6 rfl) ?_
  refine pv_getI (k := 0) (j := 1) (ci := 11) (pc := 9) pfl_X11_104 (by decide) rfl (by decide) (fm_dec dtX11_work 7 rfl) ?_
  refine pv_iS3 (d' := 0) (pc := 12) pcs_X11_135 (Nat.le_of_ble_eq_true rfl) (by decide) (fm_dec dtX11_work 8 rfl) ?_
  refine c_in (fun h12a h12b => ?_) (fun h12 => ?_)
  · refine pv_then1 ?_
    refine pv_if_eq (pc := 15) 25 (by decide) (fm_dec dtX11_work 9 rfl) (fun hc15 => by exfalso; revert hc15; decide) (fun _ => ?_)
    refine pv_iloadn (pc := 18) (n := 1) 1 rfl rfl (fm_dec dtX11_work 10 rfl) ?_
    refine pv_sipush (pc := 19) (v := 150) (by decide) (fm_dec dtX11_work 11 rfl) ?_
    refine pv_icmp_le (pc := 22) 29 (by decide) (fm_dec dtX11_work 12 rfl) (fun hc22 => ?_) (fun hc22 => ?_)
    · refine pv_iconst (pc := 29) (v := 0) (by decide) (fm_dec dtX11_work 15 rfl) ?_
      refine pv_iconst (pc := 30) (v := 1) (by decide) (fm_dec dtX11_work 16 rfl) ?_
      refine pv_iconst (pc := 31) (v := 1) (by decide) (fm_dec dtX11_work 17 rfl) ?_
      refine pv_invV3 (k := 0) (d' := 0) (pc := 32) pcv_X11_177 (by decide) rfl (Nat.le_of_ble_eq_true rfl) (by decide) (fm_dec dtX11_work 18 rfl) ?_
      refine c_badF1 rfl ?_
      refine pv_then1 ?_
      refine pv_if_eq (pc := 35) 40 (by decide) (fm_dec dtX11_work 19 rfl) (fun _ => ?_) (fun hc35 => by exfalso; revert hc35; decide)
      refine pv_aloadn (pc := 40) (n := 0) 0 rfl rfl (fm_dec dtX11_work 22 rfl) ?_
      refine pv_getI (k := 0) (j := 32) (ci := 11) (pc := 41) pfl_X11_200 (by decide) rfl (by decide) (fm_dec dtX11_work 23 rfl) ?_
      refine pv_bipush (pc := 44) (v := 16) (by decide) (fm_dec dtX11_work 24 rfl) ?_
      refine pv_icmp_ne (pc := 46) 62 (by decide) (fm_dec dtX11_work 25 rfl) (fun hc46 => ?_) (fun hc46 => ?_)
      · obtain ⟨n0, hn0⟩ : ∃ n0 : Nat, nn.toInt = n0 := ⟨nn.toInt.toNat, by have h9 : (0 : Int32).toInt = 0 := (by decide); omega⟩
        have hn150 : n0 ≤ 150 := (by have h9 := hc22; rw [sc_le] at h9; have h8 : (150 : Int32).toInt = 150 := (by decide); omega)
        have hn6 : n0 ≤ 600 := (by omega)
        refine pv_aloadn (pc := 62) (n := 0) 0 rfl rfl (fm_dec dtX11_work 34 rfl) ?_
        refine pv_iloadn (pc := 63) (n := 1) 1 rfl rfl (fm_dec dtX11_work 35 rfl) ?_
        refine pv_invV1 (k := 0) (d' := 2) (pc := 64) pcv_X11_181 (by decide) rfl (Nat.le_of_ble_eq_true rfl) (by omega) (fm_dec dtX11_work 36 rfl) ?_
        refine c_starts (n := n0) (M := fmI M 0 0 0) hfed hn6 hn0 (fun M64 h64 => ?_) 
        refine pv_then0 ?_
        refine pv_aloadn (pc := 67) (n := 0) 0 rfl rfl (fm_dec dtX11_work 37 rfl) ?_
        refine pv_iconst (pc := 68) (v := 0) (by decide) (fm_dec dtX11_work 38 rfl) ?_
        refine pv_putI (k := 0) (j := 26) (ci := 11) (pc := 69) pfl_X11_250 (by decide) rfl (by decide) (fm_dec dtX11_work 39 rfl) ?_
        have hI64 := inv_st hI h64
        have hok9 := rT_ok (n := n0) hfed hn6
        have hs0 : sk (rT M n0) 0 ≤ n0 := sp_le tB_1 hok9 (Nat.zero_le _)
        have hIs : scInv Tm invM (fmI M64 0 26 0) := hI64.put (scq_t 0) rfl
        have h4s : ((fmI M64 0 26 0).1 4 0).toInt = l := (by rw [fmI_k _ _ (by decide), st_k h64 (by decide)]; exact h4)
        have hP : srPre (fmI M64 0 26 0) (rT M n0) n0 (sk (rT M n0) 0) 0 0 l := ⟨h64.1.of rfl rfl rfl, h64.2.1, (by show (M64.1 0 8).toInt = _; rw [h64.2.2.1]; decide), by decide, (by rw [fmI_s]; decide), by omega, hn150, h4s, hl⟩
        have hbd := fun e he => wkL_bad hok9 hn150 700 0 (sk (rT M n0) 0) e hs0 (by omega) he (l := l)
        refine wk_loop (l := l) 700 0 _ _ hP (fun a h9 => by have h8 := (hbd _ h9).1.2; exact absurd h8 (show ¬ 9 ≤ 3 by decide)) (fun M2 ss q e h => ?_) (fun M2 k a e hB => ?_)
        · have g := wkL_ok hok9 700 0 _ ss hs0 e
          refine wk_f0 (l := l) (w := w) h.2.1 (inv_sr hIs h.2.2.2.2.2) (by rw [h.2.2.2.2.2.2.1 32 (by decide) (by decide) (by decide) (by decide) (by decide), fmI_j _ _ (by decide), st_j h64 (by decide)]; exact hw) (by have h9 : ¬ w = 16 := (fun h9 => hc46 (i32_ext (hw.trans (by rw [h9]; decide)))); omega) h.2.2.2.2.1 g.1 (by omega) hl (by rw [h.2.2.2.2.2.1 4 0 (by decide) (by omega)]; exact h4s) (by rw [h.2.2.2.1]; congr 1; omega) (fun n M9 _ h9 => hq _ _ (Or.inl ⟨⟨by omega, by omega, by exact h12b⟩, h9.trans ((h.2.2.2.2.2.2.1 1 (by decide) (by decide) (by decide) (by decide) (by decide)).trans ((fmI_j _ _ (by decide)).trans h64.2.2.2.2.1))⟩))
        · have hk := hbd _ e
          exact wk_e1 hB.nz (hq _ _ (Or.inl ⟨⟨by omega, by omega, by exact h12b⟩, (hB.2.2.2.2.2.1 1 (by decide) (by decide) (by decide) (by decide) (by decide)).trans ((fmI_j _ _ (by decide)).trans h64.2.2.2.2.1)⟩))
      · refine pv_aloadn (pc := 49) (n := 0) 0 rfl rfl (fm_dec dtX11_work 26 rfl) ?_
        refine pv_iconst (pc := 50) (v := 0) (by decide) (fm_dec dtX11_work 27 rfl) ?_
        refine pv_putI (k := 0) (j := 1) (ci := 11) (pc := 51) pfl_X11_104 (by decide) rfl (by decide) (fm_dec dtX11_work 28 rfl) ?_
        refine pv_aloadn (pc := 54) (n := 0) 0 rfl rfl (fm_dec dtX11_work 29 rfl) ?_
        refine pv_iconst (pc := 55) (v := (-1)) (by decide) (fm_dec dtX11_work 30 rfl) ?_
        refine pv_putI (k := 0) (j := 3) (ci := 11) (pc := 56) pfl_X11_9 (by decide) rfl (by decide) (fm_dec dtX11_work 31 rfl) ?_
        refine pv_bipush (pc := 59) (v := (-20)) (by decide) (fm_dec dtX11_work 32 rfl) ?_
        exact pv_ireturn (pc := 61) rfl (fm_dec dtX11_work 33 rfl) (hq _ _ (Or.inl ⟨⟨h12a, (by have h8 := hc22; rw [sc_le] at h8; have h7 : (150 : Int32).toInt = 150 := (by decide); omega), h12b⟩, rfl⟩))
    · refine pv_iconst (pc := 25) (v := 1) (by decide) (fm_dec dtX11_work 13 rfl) ?_
      refine pv_goto (pc := 26) 30 (by decide) (fm_dec dtX11_work 14 rfl) ?_
      refine pv_iconst (pc := 30) (v := 1) (by decide) (fm_dec dtX11_work 16 rfl) ?_
      refine pv_iconst (pc := 31) (v := 1) (by decide) (fm_dec dtX11_work 17 rfl) ?_
      refine pv_invV3 (k := 0) (d' := 0) (pc := 32) pcv_X11_177 (by decide) rfl (Nat.le_of_ble_eq_true rfl) (by decide) (fm_dec dtX11_work 18 rfl) ?_
      refine c_badT1 rfl (by decide) ?_
      refine pv_then1 ?_
      refine pv_if_eq (pc := 35) 40 (by decide) (fm_dec dtX11_work 19 rfl) (fun hc35 => by exfalso; revert hc35; decide) (fun _ => ?_)
      refine pv_iconst (pc := 38) (v := 0) (by decide) (fm_dec dtX11_work 20 rfl) ?_
      exact pv_ireturn (pc := 39) rfl (fm_dec dtX11_work 21 rfl) (hq _ _ (Or.inr ⟨(by intro h9; first | (have h8 := hc22; rw [sc_le] at h8; have h7 : (150 : Int32).toInt = 150 := (by decide); have h6 := h9.2.1; omega) | exact h12 ⟨(show (0 : Int32).toInt ≤ _ from h9.1), h9.2.2⟩), rfl, rfl⟩))
  · refine pv_then1 ?_
    refine pv_if_eq (pc := 15) 25 (by decide) (fm_dec dtX11_work 9 rfl) (fun _ => ?_) (fun hc15 => by exfalso; revert hc15; decide)
    refine pv_iconst (pc := 25) (v := 1) (by decide) (fm_dec dtX11_work 13 rfl) ?_
    refine pv_goto (pc := 26) 30 (by decide) (fm_dec dtX11_work 14 rfl) ?_
    refine pv_iconst (pc := 30) (v := 1) (by decide) (fm_dec dtX11_work 16 rfl) ?_
    refine pv_iconst (pc := 31) (v := 1) (by decide) (fm_dec dtX11_work 17 rfl) ?_
    refine pv_invV3 (k := 0) (d' := 0) (pc := 32) pcv_X11_177 (by decide) rfl (Nat.le_of_ble_eq_true rfl) (by decide) (fm_dec dtX11_work 18 rfl) ?_
    refine c_badT1 rfl (by decide) ?_
    refine pv_then1 ?_
    refine pv_if_eq (pc := 35) 40 (by decide) (fm_dec dtX11_work 19 rfl) (fun hc35 => by exfalso; revert hc35; decide) (fun _ => ?_)
    refine pv_iconst (pc := 38) (v := 0) (by decide) (fm_dec dtX11_work 20 rfl) ?_
    exact pv_ireturn (pc := 39) rfl (fm_dec dtX11_work 21 rfl) (hq _ _ (Or.inr ⟨(by intro h9; first | (have h8 := hc22; rw [sc_le] at h8; have h7 : (150 : Int32).toInt = 150 := (by decide); have h6 := h9.2.1; omega) | exact h12 ⟨(show (0 : Int32).toInt ≤ _ from h9.1), h9.2.2⟩), rfl, rfl⟩))
def xb (x s : Int32) : Int32 := vp_nar .byte (x >>> (s &&& 31)).toInt8.toInt32
def ptM (M : fmM) (f : Nat) (b : Int32) : fmM := fmI (fmI M 2 f b) 1 1 (M.1 1 1 + 1)
def puM (M : fmM) (f : Nat) (x : Int32) : fmM := ptM (ptM (ptM (ptM M f (xb x 24)) (f + 1) (xb x 16)) (f + 2) (xb x 8)) (f + 3) (xb x 0)
theorem pt_f {M : fmM} {f : Nat} {b : Int32} (h : (M.1 1 1).toInt = (f : Int)) (hf : f < 600) : ((ptM M f b).1 1 1).toInt = ((f + 1 : Nat) : Int) := by
  unfold ptM
  rw [fmI_s]
  exact i32_p1 h (by omega)
theorem pu_f {M : fmM} {f : Nat} {x : Int32} (h : (M.1 1 1).toInt = (f : Int)) (hf : f + 4 ≤ 600) : ((puM M f x).1 1 1).toInt = ((f + 4 : Nat) : Int) := pt_f (pt_f (pt_f (pt_f h (by omega)) (by omega)) (by omega)) (by omega)
set_option maxRecDepth 20000 in
theorem pt_24 {Q : fmR → fmM → Prop} {M : fmM} {x : Int32} {f : Nat} (hf : (M.1 1 1).toInt = (f : Int)) (h6 : f < 600) (k : pvEv Tx 0 qX7_put 3 [some (.ref 1), some (.int x), some (.int 16)] [] (ptM M f (xb x 24)) Q) : pvEv Tx 0 qX7_put 3 [some (.ref 1), some (.int x), some (.int 24)] [] M Q := by
  refine pv_iloadn (pc := 3) (n := 2) 2 rfl rfl (fm_dec dtX7_put 2 rfl) ?_
  refine pv_if_lt (pc := 4) 46 (by decide) (fm_dec dtX7_put 3 rfl) (fun hc4 => by exfalso; revert hc4; decide) (fun _ => ?_)
  refine pv_aloadn (pc := 7) (n := 0) 0 rfl rfl (fm_dec dtX7_put 4 rfl) ?_
  refine pv_getI (k := 1) (j := 1) (ci := 7) (pc := 8) pfl_X7_19 (by decide) rfl (by decide) (fm_dec dtX7_put 5 rfl) ?_
  refine pv_sipush (pc := 11) (v := 600) (by decide) (fm_dec dtX7_put 6 rfl) ?_
  refine pv_icmp_ge (pc := 14) 46 (by decide) (fm_dec dtX7_put 7 rfl) (fun hc14 => by exfalso; rw [sc_le] at hc14; have h9 : (600 : Int32).toInt = 600 := (by decide); omega) (fun _ => ?_)
  refine pv_aloadn (pc := 17) (n := 0) 0 rfl rfl (fm_dec dtX7_put 8 rfl) ?_
  refine pv_getR (k := 1) (j := 0) (ci := 7) (pc := 18) 2 rfl (by decide) pfl_X7_9 (by decide) rfl (by decide) (fm_dec dtX7_put 9 rfl) ?_
  refine pv_aloadn (pc := 21) (n := 0) 0 rfl rfl (fm_dec dtX7_put 10 rfl) ?_
  refine pv_getI (k := 1) (j := 1) (ci := 7) (pc := 22) pfl_X7_19 (by decide) rfl (by decide) (fm_dec dtX7_put 11 rfl) ?_
  refine pv_iloadn (pc := 25) (n := 1) 1 rfl rfl (fm_dec dtX7_put 12 rfl) ?_
  refine pv_iloadn (pc := 26) (n := 2) 2 rfl rfl (fm_dec dtX7_put 13 rfl) ?_
  refine pv_ishr (pc := 27) (fm_dec dtX7_put 14 rfl) ?_
  refine pv_i2b (pc := 28) (fm_dec dtX7_put 15 rfl) ?_
  refine pv_bast (k := 2) (n := 600) (pc := 29) (by decide) rfl rfl (ix_in hf h6) (fm_dec dtX7_put 16 rfl) ?_
  rw [i32_cl hf]
  refine pv_aloadn (pc := 30) (n := 0) 0 rfl rfl (fm_dec dtX7_put 17 rfl) ?_
  refine pv_dup (pc := 31) rfl (fm_dec dtX7_put 18 rfl) ?_
  refine pv_getI (k := 1) (j := 1) (ci := 7) (pc := 32) pfl_X7_19 (by decide) rfl (by decide) (fm_dec dtX7_put 19 rfl) ?_
  refine pv_iconst (pc := 35) (v := 1) (by decide) (fm_dec dtX7_put 20 rfl) ?_
  refine pv_iadd (pc := 36) (fm_dec dtX7_put 21 rfl) ?_
  refine pv_putI (k := 1) (j := 1) (ci := 7) (pc := 37) pfl_X7_19 (by decide) rfl (by decide) (fm_dec dtX7_put 22 rfl) ?_
  refine pv_iincc (pc := 40) 2 (-8) (by decide) rfl (by decide) rfl (fm_dec dtX7_put 23 rfl) ?_
  dsimp only [List.set_cons_zero, List.set_cons_succ]
  rw [show (24 : Int32) + (-8) = 16 by decide]
  refine pv_goto (pc := 43) 3 (by decide) (fm_dec dtX7_put 24 rfl) ?_
  exact k
set_option maxRecDepth 20000 in
theorem pt_16 {Q : fmR → fmM → Prop} {M : fmM} {x : Int32} {f : Nat} (hf : (M.1 1 1).toInt = (f : Int)) (h6 : f < 600) (k : pvEv Tx 0 qX7_put 3 [some (.ref 1), some (.int x), some (.int 8)] [] (ptM M f (xb x 16)) Q) : pvEv Tx 0 qX7_put 3 [some (.ref 1), some (.int x), some (.int 16)] [] M Q := by
  refine pv_iloadn (pc := 3) (n := 2) 2 rfl rfl (fm_dec dtX7_put 2 rfl) ?_
  refine pv_if_lt (pc := 4) 46 (by decide) (fm_dec dtX7_put 3 rfl) (fun hc4 => by exfalso; revert hc4; decide) (fun _ => ?_)
  refine pv_aloadn (pc := 7) (n := 0) 0 rfl rfl (fm_dec dtX7_put 4 rfl) ?_
  refine pv_getI (k := 1) (j := 1) (ci := 7) (pc := 8) pfl_X7_19 (by decide) rfl (by decide) (fm_dec dtX7_put 5 rfl) ?_
  refine pv_sipush (pc := 11) (v := 600) (by decide) (fm_dec dtX7_put 6 rfl) ?_
  refine pv_icmp_ge (pc := 14) 46 (by decide) (fm_dec dtX7_put 7 rfl) (fun hc14 => by exfalso; rw [sc_le] at hc14; have h9 : (600 : Int32).toInt = 600 := (by decide); omega) (fun _ => ?_)
  refine pv_aloadn (pc := 17) (n := 0) 0 rfl rfl (fm_dec dtX7_put 8 rfl) ?_
  refine pv_getR (k := 1) (j := 0) (ci := 7) (pc := 18) 2 rfl (by decide) pfl_X7_9 (by decide) rfl (by decide) (fm_dec dtX7_put 9 rfl) ?_
  refine pv_aloadn (pc := 21) (n := 0) 0 rfl rfl (fm_dec dtX7_put 10 rfl) ?_
  refine pv_getI (k := 1) (j := 1) (ci := 7) (pc := 22) pfl_X7_19 (by decide) rfl (by decide) (fm_dec dtX7_put 11 rfl) ?_
  refine pv_iloadn (pc := 25) (n := 1) 1 rfl rfl (fm_dec dtX7_put 12 rfl) ?_
  refine pv_iloadn (pc := 26) (n := 2) 2 rfl rfl (fm_dec dtX7_put 13 rfl) ?_
  refine pv_ishr (pc := 27) (fm_dec dtX7_put 14 rfl) ?_
  refine pv_i2b (pc := 28) (fm_dec dtX7_put 15 rfl) ?_
  refine pv_bast (k := 2) (n := 600) (pc := 29) (by decide) rfl rfl (ix_in hf h6) (fm_dec dtX7_put 16 rfl) ?_
  rw [i32_cl hf]
  refine pv_aloadn (pc := 30) (n := 0) 0 rfl rfl (fm_dec dtX7_put 17 rfl) ?_
  refine pv_dup (pc := 31) rfl (fm_dec dtX7_put 18 rfl) ?_
  refine pv_getI (k := 1) (j := 1) (ci := 7) (pc := 32) pfl_X7_19 (by decide) rfl (by decide) (fm_dec dtX7_put 19 rfl) ?_
  refine pv_iconst (pc := 35) (v := 1) (by decide) (fm_dec dtX7_put 20 rfl) ?_
  refine pv_iadd (pc := 36) (fm_dec dtX7_put 21 rfl) ?_
  refine pv_putI (k := 1) (j := 1) (ci := 7) (pc := 37) pfl_X7_19 (by decide) rfl (by decide) (fm_dec dtX7_put 22 rfl) ?_
  refine pv_iincc (pc := 40) 2 (-8) (by decide) rfl (by decide) rfl (fm_dec dtX7_put 23 rfl) ?_
  dsimp only [List.set_cons_zero, List.set_cons_succ]
  rw [show (16 : Int32) + (-8) = 8 by decide]
  refine pv_goto (pc := 43) 3 (by decide) (fm_dec dtX7_put 24 rfl) ?_
  exact k
set_option maxRecDepth 20000 in
theorem pt_8 {Q : fmR → fmM → Prop} {M : fmM} {x : Int32} {f : Nat} (hf : (M.1 1 1).toInt = (f : Int)) (h6 : f < 600) (k : pvEv Tx 0 qX7_put 3 [some (.ref 1), some (.int x), some (.int 0)] [] (ptM M f (xb x 8)) Q) : pvEv Tx 0 qX7_put 3 [some (.ref 1), some (.int x), some (.int 8)] [] M Q := by
  refine pv_iloadn (pc := 3) (n := 2) 2 rfl rfl (fm_dec dtX7_put 2 rfl) ?_
  refine pv_if_lt (pc := 4) 46 (by decide) (fm_dec dtX7_put 3 rfl) (fun hc4 => by exfalso; revert hc4; decide) (fun _ => ?_)
  refine pv_aloadn (pc := 7) (n := 0) 0 rfl rfl (fm_dec dtX7_put 4 rfl) ?_
  refine pv_getI (k := 1) (j := 1) (ci := 7) (pc := 8) pfl_X7_19 (by decide) rfl (by decide) (fm_dec dtX7_put 5 rfl) ?_
  refine pv_sipush (pc := 11) (v := 600) (by decide) (fm_dec dtX7_put 6 rfl) ?_
  refine pv_icmp_ge (pc := 14) 46 (by decide) (fm_dec dtX7_put 7 rfl) (fun hc14 => by exfalso; rw [sc_le] at hc14; have h9 : (600 : Int32).toInt = 600 := (by decide); omega) (fun _ => ?_)
  refine pv_aloadn (pc := 17) (n := 0) 0 rfl rfl (fm_dec dtX7_put 8 rfl) ?_
  refine pv_getR (k := 1) (j := 0) (ci := 7) (pc := 18) 2 rfl (by decide) pfl_X7_9 (by decide) rfl (by decide) (fm_dec dtX7_put 9 rfl) ?_
  refine pv_aloadn (pc := 21) (n := 0) 0 rfl rfl (fm_dec dtX7_put 10 rfl) ?_
  refine pv_getI (k := 1) (j := 1) (ci := 7) (pc := 22) pfl_X7_19 (by decide) rfl (by decide) (fm_dec dtX7_put 11 rfl) ?_
  refine pv_iloadn (pc := 25) (n := 1) 1 rfl rfl (fm_dec dtX7_put 12 rfl) ?_
  refine pv_iloadn (pc := 26) (n := 2) 2 rfl rfl (fm_dec dtX7_put 13 rfl) ?_
  refine pv_ishr (pc := 27) (fm_dec dtX7_put 14 rfl) ?_
  refine pv_i2b (pc := 28) (fm_dec dtX7_put 15 rfl) ?_
  refine pv_bast (k := 2) (n := 600) (pc := 29) (by decide) rfl rfl (ix_in hf h6) (fm_dec dtX7_put 16 rfl) ?_
  rw [i32_cl hf]
  refine pv_aloadn (pc := 30) (n := 0) 0 rfl rfl (fm_dec dtX7_put 17 rfl) ?_
  refine pv_dup (pc := 31) rfl (fm_dec dtX7_put 18 rfl) ?_
  refine pv_getI (k := 1) (j := 1) (ci := 7) (pc := 32) pfl_X7_19 (by decide) rfl (by decide) (fm_dec dtX7_put 19 rfl) ?_
  refine pv_iconst (pc := 35) (v := 1) (by decide) (fm_dec dtX7_put 20 rfl) ?_
  refine pv_iadd (pc := 36) (fm_dec dtX7_put 21 rfl) ?_
  refine pv_putI (k := 1) (j := 1) (ci := 7) (pc := 37) pfl_X7_19 (by decide) rfl (by decide) (fm_dec dtX7_put 22 rfl) ?_
  refine pv_iincc (pc := 40) 2 (-8) (by decide) rfl (by decide) rfl (fm_dec dtX7_put 23 rfl) ?_
  dsimp only [List.set_cons_zero, List.set_cons_succ]
  rw [show (8 : Int32) + (-8) = 0 by decide]
  refine pv_goto (pc := 43) 3 (by decide) (fm_dec dtX7_put 24 rfl) ?_
  exact k
set_option maxRecDepth 20000 in
theorem pt_0 {Q : fmR → fmM → Prop} {M : fmM} {x : Int32} {f : Nat} (hf : (M.1 1 1).toInt = (f : Int)) (h6 : f < 600) (k : pvEv Tx 0 qX7_put 3 [some (.ref 1), some (.int x), some (.int (-8))] [] (ptM M f (xb x 0)) Q) : pvEv Tx 0 qX7_put 3 [some (.ref 1), some (.int x), some (.int 0)] [] M Q := by
  refine pv_iloadn (pc := 3) (n := 2) 2 rfl rfl (fm_dec dtX7_put 2 rfl) ?_
  refine pv_if_lt (pc := 4) 46 (by decide) (fm_dec dtX7_put 3 rfl) (fun hc4 => by exfalso; revert hc4; decide) (fun _ => ?_)
  refine pv_aloadn (pc := 7) (n := 0) 0 rfl rfl (fm_dec dtX7_put 4 rfl) ?_
  refine pv_getI (k := 1) (j := 1) (ci := 7) (pc := 8) pfl_X7_19 (by decide) rfl (by decide) (fm_dec dtX7_put 5 rfl) ?_
  refine pv_sipush (pc := 11) (v := 600) (by decide) (fm_dec dtX7_put 6 rfl) ?_
  refine pv_icmp_ge (pc := 14) 46 (by decide) (fm_dec dtX7_put 7 rfl) (fun hc14 => by exfalso; rw [sc_le] at hc14; have h9 : (600 : Int32).toInt = 600 := (by decide); omega) (fun _ => ?_)
  refine pv_aloadn (pc := 17) (n := 0) 0 rfl rfl (fm_dec dtX7_put 8 rfl) ?_
  refine pv_getR (k := 1) (j := 0) (ci := 7) (pc := 18) 2 rfl (by decide) pfl_X7_9 (by decide) rfl (by decide) (fm_dec dtX7_put 9 rfl) ?_
  refine pv_aloadn (pc := 21) (n := 0) 0 rfl rfl (fm_dec dtX7_put 10 rfl) ?_
  refine pv_getI (k := 1) (j := 1) (ci := 7) (pc := 22) pfl_X7_19 (by decide) rfl (by decide) (fm_dec dtX7_put 11 rfl) ?_
  refine pv_iloadn (pc := 25) (n := 1) 1 rfl rfl (fm_dec dtX7_put 12 rfl) ?_
  refine pv_iloadn (pc := 26) (n := 2) 2 rfl rfl (fm_dec dtX7_put 13 rfl) ?_
  refine pv_ishr (pc := 27) (fm_dec dtX7_put 14 rfl) ?_
  refine pv_i2b (pc := 28) (fm_dec dtX7_put 15 rfl) ?_
  refine pv_bast (k := 2) (n := 600) (pc := 29) (by decide) rfl rfl (ix_in hf h6) (fm_dec dtX7_put 16 rfl) ?_
  rw [i32_cl hf]
  refine pv_aloadn (pc := 30) (n := 0) 0 rfl rfl (fm_dec dtX7_put 17 rfl) ?_
  refine pv_dup (pc := 31) rfl (fm_dec dtX7_put 18 rfl) ?_
  refine pv_getI (k := 1) (j := 1) (ci := 7) (pc := 32) pfl_X7_19 (by decide) rfl (by decide) (fm_dec dtX7_put 19 rfl) ?_
  refine pv_iconst (pc := 35) (v := 1) (by decide) (fm_dec dtX7_put 20 rfl) ?_
  refine pv_iadd (pc := 36) (fm_dec dtX7_put 21 rfl) ?_
  refine pv_putI (k := 1) (j := 1) (ci := 7) (pc := 37) pfl_X7_19 (by decide) rfl (by decide) (fm_dec dtX7_put 22 rfl) ?_
  refine pv_iincc (pc := 40) 2 (-8) (by decide) rfl (by decide) rfl (fm_dec dtX7_put 23 rfl) ?_
  dsimp only [List.set_cons_zero, List.set_cons_succ]
  rw [show (0 : Int32) + (-8) = (-8) by decide]
  refine pv_goto (pc := 43) 3 (by decide) (fm_dec dtX7_put 24 rfl) ?_
  exact k
set_option maxRecDepth 20000 in
theorem c_put {M : fmM} {Q : fmR → fmM → Prop} {x : Int32} {f : Nat} (hf : (M.1 1 1).toInt = (f : Int)) (h6 : f + 4 ≤ 600) (hq : Q (.inl none) (puM M f x)) : pvGood Tx 0 qX7_put [.ref 1, .int x] M Q := by
  refine pvGood_of (Nat.le_of_ble_eq_true rfl) ?_
  show pvEv Tx 0 qX7_put 0 [some (.ref 1), some (.int x), none] [] M Q
  refine pv_bipush (pc := 0) (v := 24) (by decide) (fm_dec dtX7_put 0 rfl) ?_
  refine pv_istoren (pc := 2) (n := 2) 2 rfl (by decide) rfl (fm_dec dtX7_put 1 rfl) ?_
  dsimp only [List.set_cons_zero, List.set_cons_succ]
  refine pt_24 hf (by omega) ?_
  have h1 := pt_f (b := xb x 24) hf (by omega)
  refine pt_16 h1 (by omega) ?_
  have h2 := pt_f (b := xb x 16) h1 (by omega)
  refine pt_8 h2 (by omega) ?_
  have h3 := pt_f (b := xb x 8) h2 (by omega)
  refine pt_0 h3 (by omega) ?_
  refine pv_iloadn (pc := 3) (n := 2) 2 rfl rfl (fm_dec dtX7_put 2 rfl) ?_
  refine pv_if_lt (pc := 4) 46 (by decide) (fm_dec dtX7_put 3 rfl) (fun _ => ?_) (fun hc4 => by exfalso; revert hc4; decide)
  exact pv_return (pc := 46) rfl (fm_dec dtX7_put 25 rfl) hq
set_option maxRecDepth 20000 in
theorem c_xfeed {M : fmM} {Q : fmR → fmM → Prop} {a b c d e : Int32} {f : Nat} (hf : (M.1 1 1).toInt = (f : Int)) (h600 : f ≤ 600) (hn : 600 < f + 20 → Q (.inl (some (.int (-1)))) M) (hq : f + 20 ≤ 600 → Q (.inl (some (.int ((puM (puM (puM (puM (puM M f a) (f + 4) b) (f + 4 + 4) c) (f + 4 + 4 + 4) d) (f + 4 + 4 + 4 + 4) e).1 1 1)))) (puM (puM (puM (puM (puM M f a) (f + 4) b) (f + 4 + 4) c) (f + 4 + 4 + 4) d) (f + 4 + 4 + 4 + 4) e)) : pvGood Tx 1 qX10_feed [.ref 0, .int a, .int b, .int c, .int d, .int e] M Q := by
  refine pvGood_of (Nat.le_of_ble_eq_true rfl) ?_
  show pvEv Tx 1 qX10_feed 0 [some (.ref 0), some (.int a), some (.int b), some (.int c), some (.int d), some (.int e)] [] M Q
  have e20 : (M.1 1 1 + 20).toInt = (f : Int) + 20 := (by have h7 : (20 : Int32).toInt = 20 := (by decide); rw [sc_add (by omega) (by omega)]; omega)
  refine pv_aloadn (pc := 0) (n := 0) 0 rfl rfl (fm_dec dtX10_feed 0 rfl) ?_
  refine pv_getR (k := 0) (j := 0) (ci := 10) (pc := 1) 1 rfl (by decide) pfl_X10_12 (by decide) rfl (by decide) (fm_dec dtX10_feed 1 rfl) ?_
  refine pv_getI (k := 1) (j := 1) (ci := 7) (pc := 4) pfl_X10_100 (by decide) rfl (by decide) (fm_dec dtX10_feed 2 rfl) ?_
  refine pv_bipush (pc := 7) (v := 20) (by decide) (fm_dec dtX10_feed 3 rfl) ?_
  refine pv_iadd (pc := 9) (fm_dec dtX10_feed 4 rfl) ?_
  refine pv_sipush (pc := 10) (v := 600) (by decide) (fm_dec dtX10_feed 5 rfl) ?_
  refine pv_icmp_le (pc := 13) 18 (by decide) (fm_dec dtX10_feed 6 rfl) (fun hc13 => ?_) (fun hc13 => ?_)
  · have h20 : f + 20 ≤ 600 := (by rw [sc_le] at hc13; have h8 : (600 : Int32).toInt = 600 := (by decide); have h7 : (20 : Int32).toInt = 20 := (by decide); omega)
    refine pv_aloadn (pc := 18) (n := 0) 0 rfl rfl (fm_dec dtX10_feed 9 rfl) ?_
    refine pv_getR (k := 0) (j := 0) (ci := 10) (pc := 19) 1 rfl (by decide) pfl_X10_12 (by decide) rfl (by decide) (fm_dec dtX10_feed 10 rfl) ?_
    refine pv_iloadn (pc := 22) (n := 1) 1 rfl rfl (fm_dec dtX10_feed 11 rfl) ?_
    refine pv_invV1 (k := 1) (d' := 0) (pc := 23) pcv_X10_104 (by decide) rfl (Nat.le_of_ble_eq_true rfl) (by decide) (fm_dec dtX10_feed 12 rfl) ?_
    refine c_put hf (by omega) ?_
    refine pv_then0 ?_
    have g1 := pu_f (x := a) hf (by omega)
    refine pv_aloadn (pc := 26) (n := 0) 0 rfl rfl (fm_dec dtX10_feed 13 rfl) ?_
    refine pv_getR (k := 0) (j := 0) (ci := 10) (pc := 27) 1 rfl (by decide) pfl_X10_12 (by decide) rfl (by decide) (fm_dec dtX10_feed 14 rfl) ?_
    refine pv_iloadn (pc := 30) (n := 2) 2 rfl rfl (fm_dec dtX10_feed 15 rfl) ?_
    refine pv_invV1 (k := 1) (d' := 0) (pc := 31) pcv_X10_104 (by decide) rfl (Nat.le_of_ble_eq_true rfl) (by decide) (fm_dec dtX10_feed 16 rfl) ?_
    refine c_put g1 (by omega) ?_
    refine pv_then0 ?_
    have g2 := pu_f (x := b) g1 (by omega)
    refine pv_aloadn (pc := 34) (n := 0) 0 rfl rfl (fm_dec dtX10_feed 17 rfl) ?_
    refine pv_getR (k := 0) (j := 0) (ci := 10) (pc := 35) 1 rfl (by decide) pfl_X10_12 (by decide) rfl (by decide) (fm_dec dtX10_feed 18 rfl) ?_
    refine pv_iloadn (pc := 38) (n := 3) 3 rfl rfl (fm_dec dtX10_feed 19 rfl) ?_
    refine pv_invV1 (k := 1) (d' := 0) (pc := 39) pcv_X10_104 (by decide) rfl (Nat.le_of_ble_eq_true rfl) (by decide) (fm_dec dtX10_feed 20 rfl) ?_
    refine c_put g2 (by omega) ?_
    refine pv_then0 ?_
    have g3 := pu_f (x := c) g2 (by omega)
    refine pv_aloadn (pc := 42) (n := 0) 0 rfl rfl (fm_dec dtX10_feed 21 rfl) ?_
    refine pv_getR (k := 0) (j := 0) (ci := 10) (pc := 43) 1 rfl (by decide) pfl_X10_12 (by decide) rfl (by decide) (fm_dec dtX10_feed 22 rfl) ?_
    refine pv_iload (pc := 46) (i := 4) rfl (fm_dec dtX10_feed 23 rfl) ?_
    refine pv_invV1 (k := 1) (d' := 0) (pc := 48) pcv_X10_104 (by decide) rfl (Nat.le_of_ble_eq_true rfl) (by decide) (fm_dec dtX10_feed 24 rfl) ?_
    refine c_put g3 (by omega) ?_
    refine pv_then0 ?_
    have g4 := pu_f (x := d) g3 (by omega)
    refine pv_aloadn (pc := 51) (n := 0) 0 rfl rfl (fm_dec dtX10_feed 25 rfl) ?_
    refine pv_getR (k := 0) (j := 0) (ci := 10) (pc := 52) 1 rfl (by decide) pfl_X10_12 (by decide) rfl (by decide) (fm_dec dtX10_feed 26 rfl) ?_
    refine pv_iload (pc := 55) (i := 5) rfl (fm_dec dtX10_feed 27 rfl) ?_
    refine pv_invV1 (k := 1) (d' := 0) (pc := 57) pcv_X10_104 (by decide) rfl (Nat.le_of_ble_eq_true rfl) (by decide) (fm_dec dtX10_feed 28 rfl) ?_
    refine c_put g4 (by omega) ?_
    refine pv_then0 ?_
    have g5 := pu_f (x := e) g4 (by omega)
    refine pv_aloadn (pc := 60) (n := 0) 0 rfl rfl (fm_dec dtX10_feed 29 rfl) ?_
    refine pv_getR (k := 0) (j := 0) (ci := 10) (pc := 61) 1 rfl (by decide) pfl_X10_12 (by decide) rfl (by decide) (fm_dec dtX10_feed 30 rfl) ?_
    refine pv_getI (k := 1) (j := 1) (ci := 7) (pc := 64) pfl_X10_100 (by decide) rfl (by decide) (fm_dec dtX10_feed 31 rfl) ?_
    exact pv_ireturn (pc := 67) rfl (fm_dec dtX10_feed 32 rfl) (hq h20)
  · refine pv_iconst (pc := 16) (v := (-1)) (by decide) (fm_dec dtX10_feed 7 rfl) ?_
    exact pv_ireturn (pc := 17) rfl (fm_dec dtX10_feed 8 rfl) (hn (by rw [sc_le] at hc13; have h8 : (600 : Int32).toInt = 600 := (by decide); have h7 : (20 : Int32).toInt = 20 := (by decide); omega))
def fdS (a b c d e k : Int32) : Int32 := if 4 ≤ k then (if 8 ≤ k then (if 12 ≤ k then (if 16 ≤ k then e else d) else c) else b) else a
def fdB (a b c d e k : Int32) : Int32 := fdS a b c d e k >>> ((24 - 8 * (k - k / 4 * 4)) &&& 31) &&& 255
def feM (M : fmM) (f : Nat) (b : Int32) : fmM := fmI (fmI M 1 f b) 0 1 (M.1 0 1 + 1)
/-- bytes k to 20 are fed from place f on -/
def feR (M M' : fmM) (f k : Nat) (B : Nat → Int32) : Prop := (M'.1 0 1).toInt = ((f + 20 : Nat) : Int) ∧ (∀ i, k ≤ i → i < 20 → M'.1 1 (f + i) = B i) ∧ (∀ q j, ¬ (q = 0 ∧ j = 1) → ¬ (q = 1 ∧ f + k ≤ j ∧ j < f + 20) → M'.1 q j = M.1 q j) ∧ M'.2 = M.2
theorem feR.step {M M' : fmM} {f k : Nat} {B : Nat → Int32} (hk : k < 20) (h : feR (feM M (f + k) (B k)) M' f (k + 1) B) : feR M M' f k B := by
  obtain ⟨h1, h2, h3, h4⟩ := h
  refine ⟨h1, fun i hi h20 => ?_, fun q j n1 n2 => ?_, h4⟩
  · by_cases e : i = k
    · subst e
      rw [h3 1 (f + i) (by omega) (by omega)]
      unfold feM
      rw [fmI_k _ _ (by decide), fmI_s]
    · exact h2 i (by omega) h20
  · rw [h3 q j n1 (by omega)]
    unfold feM
    rw [fmI_at, if_neg n1, fmI_at, if_neg (by omega)]
set_option maxRecDepth 20000 in
theorem fe_loop {Q : fmR → fmM → Prop} {a b c d e : Int32} {f : Nat} (h20 : f + 20 ≤ 600) : ∀ (m k : Nat) (M : fmM) (v7 : Option Value), (M.1 0 1).toInt = ((f + k : Nat) : Int) → k + m = 20 → (∀ (M' : fmM) (x6 v7 : Option Value), feR M M' f k (fun i => fdB a b c d e (nI i)) → pvEv Tm 0 qX11_feed 120 [some (.ref 0), some (.int a), some (.int b), some (.int c), some (.int d), some (.int e), x6, v7] [] M' Q) → pvEv Tm 0 qX11_feed 23 [some (.ref 0), some (.int a), some (.int b), some (.int c), some (.int d), some (.int e), some (.int (nI k)), v7] [] M Q := by
  intro m
  induction m with
  | zero =>
    intro k M v7 hf hk hq
    refine pv_iload (pc := 23) (i := 6) rfl (fm_dec dtX11_feed 13 rfl) ?_
    refine pv_bipush (pc := 25) (v := 20) (by decide) (fm_dec dtX11_feed 14 rfl) ?_
    refine pv_icmp_ge (pc := 27) 120 (by decide) (fm_dec dtX11_feed 15 rfl) (fun _ => ?_) (fun hc27 => by exfalso; apply hc27; rw [sc_le]; have h8 : (20 : Int32).toInt = 20 := (by decide); have h7 : (nI k).toInt = (k : Int) := nI_toInt (by omega); omega)
    exact hq M _ _ ⟨by rw [hf]; congr 1; omega, fun i h1 h2 => by omega, fun _ _ _ _ => rfl, rfl⟩
  | succ m ih =>
    intro k M v7 hf hk hq
    refine pv_iload (pc := 23) (i := 6) rfl (fm_dec dtX11_feed 13 rfl) ?_
    refine pv_bipush (pc := 25) (v := 20) (by decide) (fm_dec dtX11_feed 14 rfl) ?_
    refine pv_icmp_ge (pc := 27) 120 (by decide) (fm_dec dtX11_feed 15 rfl) (fun hc27 => by exfalso; rw [sc_le] at hc27; have h8 : (20 : Int32).toInt = 20 := (by decide); have h7 : (nI k).toInt = (k : Int) := nI_toInt (by omega); omega) (fun _ => ?_)
    refine pv_iload (pc := 30) (i := 6) rfl (fm_dec dtX11_feed 16 rfl) ?_
    refine pv_iconst (pc := 32) (v := 4) (by decide) (fm_dec dtX11_feed 17 rfl) ?_
    refine pv_icmp_ge (pc := 33) 40 (by decide) (fm_dec dtX11_feed 18 rfl) (fun hc33 => ?_) (fun hc33 => ?_)
    · refine pv_iload (pc := 40) (i := 6) rfl (fm_dec dtX11_feed 21 rfl) ?_
      refine pv_bipush (pc := 42) (v := 8) (by decide) (fm_dec dtX11_feed 22 rfl) ?_
      refine pv_icmp_ge (pc := 44) 51 (by decide) (fm_dec dtX11_feed 23 rfl) (fun hc44 => ?_) (fun hc44 => ?_)
      · refine pv_iload (pc := 51) (i := 6) rfl (fm_dec dtX11_feed 26 rfl) ?_
        refine pv_bipush (pc := 53) (v := 12) (by decide) (fm_dec dtX11_feed 27 rfl) ?_
        refine pv_icmp_ge (pc := 55) 62 (by decide) (fm_dec dtX11_feed 28 rfl) (fun hc55 => ?_) (fun hc55 => ?_)
        · refine pv_iload (pc := 62) (i := 6) rfl (fm_dec dtX11_feed 31 rfl) ?_
          refine pv_bipush (pc := 64) (v := 16) (by decide) (fm_dec dtX11_feed 32 rfl) ?_
          refine pv_icmp_ge (pc := 66) 74 (by decide) (fm_dec dtX11_feed 33 rfl) (fun hc66 => ?_) (fun hc66 => ?_)
          · refine pv_iload (pc := 74) (i := 5) rfl (fm_dec dtX11_feed 36 rfl) ?_
            refine pv_istore (pc := 76) (i := 7) (by decide) rfl (fm_dec dtX11_feed 37 rfl) ?_
            dsimp only [List.set_cons_zero, List.set_cons_succ]
            refine pv_aloadn (pc := 78) (n := 0) 0 rfl rfl (fm_dec dtX11_feed 38 rfl) ?_
            refine pv_getR (k := 0) (j := 9) (ci := 11) (pc := 79) 1 rfl (by decide) pfl_X11_13 (by decide) rfl (by decide) (fm_dec dtX11_feed 39 rfl) ?_
            refine pv_aloadn (pc := 82) (n := 0) 0 rfl rfl (fm_dec dtX11_feed 40 rfl) ?_
            refine pv_getI (k := 0) (j := 1) (ci := 11) (pc := 83) pfl_X11_104 (by decide) rfl (by decide) (fm_dec dtX11_feed 41 rfl) ?_
            refine pv_iload (pc := 86) (i := 7) rfl (fm_dec dtX11_feed 42 rfl) ?_
            refine pv_bipush (pc := 88) (v := 24) (by decide) (fm_dec dtX11_feed 43 rfl) ?_
            refine pv_bipush (pc := 90) (v := 8) (by decide) (fm_dec dtX11_feed 44 rfl) ?_
            refine pv_iload (pc := 92) (i := 6) rfl (fm_dec dtX11_feed 45 rfl) ?_
            refine pv_iconst (pc := 94) (v := 4) (by decide) (fm_dec dtX11_feed 46 rfl) ?_
            refine pv_irem (pc := 95) (by decide) (fm_dec dtX11_feed 47 rfl) ?_
            refine pv_imul (pc := 96) (fm_dec dtX11_feed 48 rfl) ?_
            refine pv_isub (pc := 97) (fm_dec dtX11_feed 49 rfl) ?_
            refine pv_ishr (pc := 98) (fm_dec dtX11_feed 50 rfl) ?_
            refine pv_sipush (pc := 99) (v := 255) (by decide) (fm_dec dtX11_feed 51 rfl) ?_
            refine pv_iand (pc := 102) (fm_dec dtX11_feed 52 rfl) ?_
            refine pv_iast (k := 1) (n := 600) (pc := 103) (by decide) rfl rfl (ix_in hf (by omega)) (fm_dec dtX11_feed 53 rfl) ?_
            refine pv_aloadn (pc := 104) (n := 0) 0 rfl rfl (fm_dec dtX11_feed 54 rfl) ?_
            refine pv_dup (pc := 105) rfl (fm_dec dtX11_feed 55 rfl) ?_
            refine pv_getI (k := 0) (j := 1) (ci := 11) (pc := 106) pfl_X11_104 (by decide) rfl (by decide) (fm_dec dtX11_feed 56 rfl) ?_
            refine pv_iconst (pc := 109) (v := 1) (by decide) (fm_dec dtX11_feed 57 rfl) ?_
            refine pv_iadd (pc := 110) (fm_dec dtX11_feed 58 rfl) ?_
            refine pv_putI (k := 0) (j := 1) (ci := 11) (pc := 111) pfl_X11_104 (by decide) rfl (by decide) (fm_dec dtX11_feed 59 rfl) ?_
            refine pv_iincc (pc := 114) 6 1 (by decide) rfl (by decide) rfl (fm_dec dtX11_feed 60 rfl) ?_
            dsimp only [List.set_cons_zero, List.set_cons_succ]
            refine pv_goto (pc := 117) 23 (by decide) (fm_dec dtX11_feed 61 rfl) ?_
            rw [i32_cl hf]
            have eB : fdB a b c d e (nI k) = e >>> ((24 - 8 * (nI k - nI k / 4 * 4)) &&& 31) &&& 255 := (by unfold fdB fdS; rw [if_pos hc33, if_pos hc44, if_pos hc55, if_pos hc66])
            rw [nI_succ1, ← eB]
            exact ih (k + 1) (feM M (f + k) (fdB a b c d e (nI k))) _ (by unfold feM; rw [fmI_s]; exact i32_p1 (p := f + k) hf (by omega)) (by omega) (fun M9 x9 w9 h9 => hq M9 x9 w9 (feR.step (by omega) h9))
          · refine pv_iload (pc := 69) (i := 4) rfl (fm_dec dtX11_feed 34 rfl) ?_
            refine pv_goto (pc := 71) 76 (by decide) (fm_dec dtX11_feed 35 rfl) ?_
            refine pv_istore (pc := 76) (i := 7) (by decide) rfl (fm_dec dtX11_feed 37 rfl) ?_
            dsimp only [List.set_cons_zero, List.set_cons_succ]
            refine pv_aloadn (pc := 78) (n := 0) 0 rfl rfl (fm_dec dtX11_feed 38 rfl) ?_
            refine pv_getR (k := 0) (j := 9) (ci := 11) (pc := 79) 1 rfl (by decide) pfl_X11_13 (by decide) rfl (by decide) (fm_dec dtX11_feed 39 rfl) ?_
            refine pv_aloadn (pc := 82) (n := 0) 0 rfl rfl (fm_dec dtX11_feed 40 rfl) ?_
            refine pv_getI (k := 0) (j := 1) (ci := 11) (pc := 83) pfl_X11_104 (by decide) rfl (by decide) (fm_dec dtX11_feed 41 rfl) ?_
            refine pv_iload (pc := 86) (i := 7) rfl (fm_dec dtX11_feed 42 rfl) ?_
            refine pv_bipush (pc := 88) (v := 24) (by decide) (fm_dec dtX11_feed 43 rfl) ?_
            refine pv_bipush (pc := 90) (v := 8) (by decide) (fm_dec dtX11_feed 44 rfl) ?_
            refine pv_iload (pc := 92) (i := 6) rfl (fm_dec dtX11_feed 45 rfl) ?_
            refine pv_iconst (pc := 94) (v := 4) (by decide) (fm_dec dtX11_feed 46 rfl) ?_
            refine pv_irem (pc := 95) (by decide) (fm_dec dtX11_feed 47 rfl) ?_
            refine pv_imul (pc := 96) (fm_dec dtX11_feed 48 rfl) ?_
            refine pv_isub (pc := 97) (fm_dec dtX11_feed 49 rfl) ?_
            refine pv_ishr (pc := 98) (fm_dec dtX11_feed 50 rfl) ?_
            refine pv_sipush (pc := 99) (v := 255) (by decide) (fm_dec dtX11_feed 51 rfl) ?_
            refine pv_iand (pc := 102) (fm_dec dtX11_feed 52 rfl) ?_
            refine pv_iast (k := 1) (n := 600) (pc := 103) (by decide) rfl rfl (ix_in hf (by omega)) (fm_dec dtX11_feed 53 rfl) ?_
            refine pv_aloadn (pc := 104) (n := 0) 0 rfl rfl (fm_dec dtX11_feed 54 rfl) ?_
            refine pv_dup (pc := 105) rfl (fm_dec dtX11_feed 55 rfl) ?_
            refine pv_getI (k := 0) (j := 1) (ci := 11) (pc := 106) pfl_X11_104 (by decide) rfl (by decide) (fm_dec dtX11_feed 56 rfl) ?_
            refine pv_iconst (pc := 109) (v := 1) (by decide) (fm_dec dtX11_feed 57 rfl) ?_
            refine pv_iadd (pc := 110) (fm_dec dtX11_feed 58 rfl) ?_
            refine pv_putI (k := 0) (j := 1) (ci := 11) (pc := 111) pfl_X11_104 (by decide) rfl (by decide) (fm_dec dtX11_feed 59 rfl) ?_
            refine pv_iincc (pc := 114) 6 1 (by decide) rfl (by decide) rfl (fm_dec dtX11_feed 60 rfl) ?_
            dsimp only [List.set_cons_zero, List.set_cons_succ]
            refine pv_goto (pc := 117) 23 (by decide) (fm_dec dtX11_feed 61 rfl) ?_
            rw [i32_cl hf]
            have eB : fdB a b c d e (nI k) = d >>> ((24 - 8 * (nI k - nI k / 4 * 4)) &&& 31) &&& 255 := (by unfold fdB fdS; rw [if_pos hc33, if_pos hc44, if_pos hc55, if_neg hc66])
            rw [nI_succ1, ← eB]
            exact ih (k + 1) (feM M (f + k) (fdB a b c d e (nI k))) _ (by unfold feM; rw [fmI_s]; exact i32_p1 (p := f + k) hf (by omega)) (by omega) (fun M9 x9 w9 h9 => hq M9 x9 w9 (feR.step (by omega) h9))
        · refine pv_iloadn (pc := 58) (n := 3) 3 rfl rfl (fm_dec dtX11_feed 29 rfl) ?_
          refine pv_goto (pc := 59) 76 (by decide) (fm_dec dtX11_feed 30 rfl) ?_
          refine pv_istore (pc := 76) (i := 7) (by decide) rfl (fm_dec dtX11_feed 37 rfl) ?_
          dsimp only [List.set_cons_zero, List.set_cons_succ]
          refine pv_aloadn (pc := 78) (n := 0) 0 rfl rfl (fm_dec dtX11_feed 38 rfl) ?_
          refine pv_getR (k := 0) (j := 9) (ci := 11) (pc := 79) 1 rfl (by decide) pfl_X11_13 (by decide) rfl (by decide) (fm_dec dtX11_feed 39 rfl) ?_
          refine pv_aloadn (pc := 82) (n := 0) 0 rfl rfl (fm_dec dtX11_feed 40 rfl) ?_
          refine pv_getI (k := 0) (j := 1) (ci := 11) (pc := 83) pfl_X11_104 (by decide) rfl (by decide) (fm_dec dtX11_feed 41 rfl) ?_
          refine pv_iload (pc := 86) (i := 7) rfl (fm_dec dtX11_feed 42 rfl) ?_
          refine pv_bipush (pc := 88) (v := 24) (by decide) (fm_dec dtX11_feed 43 rfl) ?_
          refine pv_bipush (pc := 90) (v := 8) (by decide) (fm_dec dtX11_feed 44 rfl) ?_
          refine pv_iload (pc := 92) (i := 6) rfl (fm_dec dtX11_feed 45 rfl) ?_
          refine pv_iconst (pc := 94) (v := 4) (by decide) (fm_dec dtX11_feed 46 rfl) ?_
          refine pv_irem (pc := 95) (by decide) (fm_dec dtX11_feed 47 rfl) ?_
          refine pv_imul (pc := 96) (fm_dec dtX11_feed 48 rfl) ?_
          refine pv_isub (pc := 97) (fm_dec dtX11_feed 49 rfl) ?_
          refine pv_ishr (pc := 98) (fm_dec dtX11_feed 50 rfl) ?_
          refine pv_sipush (pc := 99) (v := 255) (by decide) (fm_dec dtX11_feed 51 rfl) ?_
          refine pv_iand (pc := 102) (fm_dec dtX11_feed 52 rfl) ?_
          refine pv_iast (k := 1) (n := 600) (pc := 103) (by decide) rfl rfl (ix_in hf (by omega)) (fm_dec dtX11_feed 53 rfl) ?_
          refine pv_aloadn (pc := 104) (n := 0) 0 rfl rfl (fm_dec dtX11_feed 54 rfl) ?_
          refine pv_dup (pc := 105) rfl (fm_dec dtX11_feed 55 rfl) ?_
          refine pv_getI (k := 0) (j := 1) (ci := 11) (pc := 106) pfl_X11_104 (by decide) rfl (by decide) (fm_dec dtX11_feed 56 rfl) ?_
          refine pv_iconst (pc := 109) (v := 1) (by decide) (fm_dec dtX11_feed 57 rfl) ?_
          refine pv_iadd (pc := 110) (fm_dec dtX11_feed 58 rfl) ?_
          refine pv_putI (k := 0) (j := 1) (ci := 11) (pc := 111) pfl_X11_104 (by decide) rfl (by decide) (fm_dec dtX11_feed 59 rfl) ?_
          refine pv_iincc (pc := 114) 6 1 (by decide) rfl (by decide) rfl (fm_dec dtX11_feed 60 rfl) ?_
          dsimp only [List.set_cons_zero, List.set_cons_succ]
          refine pv_goto (pc := 117) 23 (by decide) (fm_dec dtX11_feed 61 rfl) ?_
          rw [i32_cl hf]
          have eB : fdB a b c d e (nI k) = c >>> ((24 - 8 * (nI k - nI k / 4 * 4)) &&& 31) &&& 255 := (by unfold fdB fdS; rw [if_pos hc33, if_pos hc44, if_neg hc55])
          rw [nI_succ1, ← eB]
          exact ih (k + 1) (feM M (f + k) (fdB a b c d e (nI k))) _ (by unfold feM; rw [fmI_s]; exact i32_p1 (p := f + k) hf (by omega)) (by omega) (fun M9 x9 w9 h9 => hq M9 x9 w9 (feR.step (by omega) h9))
      · refine pv_iloadn (pc := 47) (n := 2) 2 rfl rfl (fm_dec dtX11_feed 24 rfl) ?_
        refine pv_goto (pc := 48) 76 (by decide) (fm_dec dtX11_feed 25 rfl) ?_
        refine pv_istore (pc := 76) (i := 7) (by decide) rfl (fm_dec dtX11_feed 37 rfl) ?_
        dsimp only [List.set_cons_zero, List.set_cons_succ]
        refine pv_aloadn (pc := 78) (n := 0) 0 rfl rfl (fm_dec dtX11_feed 38 rfl) ?_
        refine pv_getR (k := 0) (j := 9) (ci := 11) (pc := 79) 1 rfl (by decide) pfl_X11_13 (by decide) rfl (by decide) (fm_dec dtX11_feed 39 rfl) ?_
        refine pv_aloadn (pc := 82) (n := 0) 0 rfl rfl (fm_dec dtX11_feed 40 rfl) ?_
        refine pv_getI (k := 0) (j := 1) (ci := 11) (pc := 83) pfl_X11_104 (by decide) rfl (by decide) (fm_dec dtX11_feed 41 rfl) ?_
        refine pv_iload (pc := 86) (i := 7) rfl (fm_dec dtX11_feed 42 rfl) ?_
        refine pv_bipush (pc := 88) (v := 24) (by decide) (fm_dec dtX11_feed 43 rfl) ?_
        refine pv_bipush (pc := 90) (v := 8) (by decide) (fm_dec dtX11_feed 44 rfl) ?_
        refine pv_iload (pc := 92) (i := 6) rfl (fm_dec dtX11_feed 45 rfl) ?_
        refine pv_iconst (pc := 94) (v := 4) (by decide) (fm_dec dtX11_feed 46 rfl) ?_
        refine pv_irem (pc := 95) (by decide) (fm_dec dtX11_feed 47 rfl) ?_
        refine pv_imul (pc := 96) (fm_dec dtX11_feed 48 rfl) ?_
        refine pv_isub (pc := 97) (fm_dec dtX11_feed 49 rfl) ?_
        refine pv_ishr (pc := 98) (fm_dec dtX11_feed 50 rfl) ?_
        refine pv_sipush (pc := 99) (v := 255) (by decide) (fm_dec dtX11_feed 51 rfl) ?_
        refine pv_iand (pc := 102) (fm_dec dtX11_feed 52 rfl) ?_
        refine pv_iast (k := 1) (n := 600) (pc := 103) (by decide) rfl rfl (ix_in hf (by omega)) (fm_dec dtX11_feed 53 rfl) ?_
        refine pv_aloadn (pc := 104) (n := 0) 0 rfl rfl (fm_dec dtX11_feed 54 rfl) ?_
        refine pv_dup (pc := 105) rfl (fm_dec dtX11_feed 55 rfl) ?_
        refine pv_getI (k := 0) (j := 1) (ci := 11) (pc := 106) pfl_X11_104 (by decide) rfl (by decide) (fm_dec dtX11_feed 56 rfl) ?_
        refine pv_iconst (pc := 109) (v := 1) (by decide) (fm_dec dtX11_feed 57 rfl) ?_
        refine pv_iadd (pc := 110) (fm_dec dtX11_feed 58 rfl) ?_
        refine pv_putI (k := 0) (j := 1) (ci := 11) (pc := 111) pfl_X11_104 (by decide) rfl (by decide) (fm_dec dtX11_feed 59 rfl) ?_
        refine pv_iincc (pc := 114) 6 1 (by decide) rfl (by decide) rfl (fm_dec dtX11_feed 60 rfl) ?_
        dsimp only [List.set_cons_zero, List.set_cons_succ]
        refine pv_goto (pc := 117) 23 (by decide) (fm_dec dtX11_feed 61 rfl) ?_
        rw [i32_cl hf]
        have eB : fdB a b c d e (nI k) = b >>> ((24 - 8 * (nI k - nI k / 4 * 4)) &&& 31) &&& 255 := (by unfold fdB fdS; rw [if_pos hc33, if_neg hc44])
        rw [nI_succ1, ← eB]
        exact ih (k + 1) (feM M (f + k) (fdB a b c d e (nI k))) _ (by unfold feM; rw [fmI_s]; exact i32_p1 (p := f + k) hf (by omega)) (by omega) (fun M9 x9 w9 h9 => hq M9 x9 w9 (feR.step (by omega) h9))
    · refine pv_iloadn (pc := 36) (n := 1) 1 rfl rfl (fm_dec dtX11_feed 19 rfl) ?_
      refine pv_goto (pc := 37) 76 (by decide) (fm_dec dtX11_feed 20 rfl) ?_
      refine pv_istore (pc := 76) (i := 7) (by decide) rfl (fm_dec dtX11_feed 37 rfl) ?_
      dsimp only [List.set_cons_zero, List.set_cons_succ]
      refine pv_aloadn (pc := 78) (n := 0) 0 rfl rfl (fm_dec dtX11_feed 38 rfl) ?_
      refine pv_getR (k := 0) (j := 9) (ci := 11) (pc := 79) 1 rfl (by decide) pfl_X11_13 (by decide) rfl (by decide) (fm_dec dtX11_feed 39 rfl) ?_
      refine pv_aloadn (pc := 82) (n := 0) 0 rfl rfl (fm_dec dtX11_feed 40 rfl) ?_
      refine pv_getI (k := 0) (j := 1) (ci := 11) (pc := 83) pfl_X11_104 (by decide) rfl (by decide) (fm_dec dtX11_feed 41 rfl) ?_
      refine pv_iload (pc := 86) (i := 7) rfl (fm_dec dtX11_feed 42 rfl) ?_
      refine pv_bipush (pc := 88) (v := 24) (by decide) (fm_dec dtX11_feed 43 rfl) ?_
      refine pv_bipush (pc := 90) (v := 8) (by decide) (fm_dec dtX11_feed 44 rfl) ?_
      refine pv_iload (pc := 92) (i := 6) rfl (fm_dec dtX11_feed 45 rfl) ?_
      refine pv_iconst (pc := 94) (v := 4) (by decide) (fm_dec dtX11_feed 46 rfl) ?_
      refine pv_irem (pc := 95) (by decide) (fm_dec dtX11_feed 47 rfl) ?_
      refine pv_imul (pc := 96) (fm_dec dtX11_feed 48 rfl) ?_
      refine pv_isub (pc := 97) (fm_dec dtX11_feed 49 rfl) ?_
      refine pv_ishr (pc := 98) (fm_dec dtX11_feed 50 rfl) ?_
      refine pv_sipush (pc := 99) (v := 255) (by decide) (fm_dec dtX11_feed 51 rfl) ?_
      refine pv_iand (pc := 102) (fm_dec dtX11_feed 52 rfl) ?_
      refine pv_iast (k := 1) (n := 600) (pc := 103) (by decide) rfl rfl (ix_in hf (by omega)) (fm_dec dtX11_feed 53 rfl) ?_
      refine pv_aloadn (pc := 104) (n := 0) 0 rfl rfl (fm_dec dtX11_feed 54 rfl) ?_
      refine pv_dup (pc := 105) rfl (fm_dec dtX11_feed 55 rfl) ?_
      refine pv_getI (k := 0) (j := 1) (ci := 11) (pc := 106) pfl_X11_104 (by decide) rfl (by decide) (fm_dec dtX11_feed 56 rfl) ?_
      refine pv_iconst (pc := 109) (v := 1) (by decide) (fm_dec dtX11_feed 57 rfl) ?_
      refine pv_iadd (pc := 110) (fm_dec dtX11_feed 58 rfl) ?_
      refine pv_putI (k := 0) (j := 1) (ci := 11) (pc := 111) pfl_X11_104 (by decide) rfl (by decide) (fm_dec dtX11_feed 59 rfl) ?_
      refine pv_iincc (pc := 114) 6 1 (by decide) rfl (by decide) rfl (fm_dec dtX11_feed 60 rfl) ?_
      dsimp only [List.set_cons_zero, List.set_cons_succ]
      refine pv_goto (pc := 117) 23 (by decide) (fm_dec dtX11_feed 61 rfl) ?_
      rw [i32_cl hf]
      have eB : fdB a b c d e (nI k) = a >>> ((24 - 8 * (nI k - nI k / 4 * 4)) &&& 31) &&& 255 := (by unfold fdB fdS; rw [if_neg hc33])
      rw [nI_succ1, ← eB]
      exact ih (k + 1) (feM M (f + k) (fdB a b c d e (nI k))) _ (by unfold feM; rw [fmI_s]; exact i32_p1 (p := f + k) hf (by omega)) (by omega) (fun M9 x9 w9 h9 => hq M9 x9 w9 (feR.step (by omega) h9))
set_option maxRecDepth 20000 in
theorem c_mfeed {M : fmM} {Q : fmR → fmM → Prop} {a b c d e : Int32} {f : Nat} (hf : (M.1 0 1).toInt = (f : Int)) (h600 : f ≤ 600) (hn : 600 < f + 20 → Q (.inl (some (.int (-1)))) (fmI M 0 0 0)) (hq : f + 20 ≤ 600 → ∀ M' : fmM, feR (fmI M 0 0 0) M' f 0 (fun i => fdB a b c d e (nI i)) → Q (.inl (some (.int (M'.1 0 1)))) M') : pvGood Tm 0 qX11_feed [.ref 0, .int a, .int b, .int c, .int d, .int e] M Q := by
  refine pvGood_of (Nat.le_of_ble_eq_true rfl) ?_
  show pvEv Tm 0 qX11_feed 0 [some (.ref 0), some (.int a), some (.int b), some (.int c), some (.int d), some (.int e), none, none] [] M Q
  have e20 : ((fmI M 0 0 0).1 0 1 + 20).toInt = (f : Int) + 20 := (by have h7 : (20 : Int32).toInt = 20 := (by decide); have h6 : ((fmI M 0 0 0).1 0 1).toInt = (f : Int) := hf; rw [sc_add (by omega) (by omega)]; omega)
  refine pv_aloadn (pc := 0) (n := 0) 0 rfl rfl (fm_dec dtX11_feed 0 rfl) ?_
  refine pv_iconst (pc := 1) (v := 0) (by decide) (fm_dec dtX11_feed 1 rfl) ?_
  refine pv_putI (k := 0) (j := 0) (ci := 11) (pc := 2) pfl_X11_101 (by decide) rfl (by decide) (fm_dec dtX11_feed 2 rfl) ?_
  refine pv_aloadn (pc := 5) (n := 0) 0 rfl rfl (fm_dec dtX11_feed 3 rfl) ?_
  refine pv_getI (k := 0) (j := 1) (ci := 11) (pc := 6) pfl_X11_104 (by decide) rfl (by decide) (fm_dec dtX11_feed 4 rfl) ?_
  refine pv_bipush (pc := 9) (v := 20) (by decide) (fm_dec dtX11_feed 5 rfl) ?_
  refine pv_iadd (pc := 11) (fm_dec dtX11_feed 6 rfl) ?_
  refine pv_sipush (pc := 12) (v := 600) (by decide) (fm_dec dtX11_feed 7 rfl) ?_
  refine pv_icmp_le (pc := 15) 20 (by decide) (fm_dec dtX11_feed 8 rfl) (fun hc15 => ?_) (fun hc15 => ?_)
  · have h20 : f + 20 ≤ 600 := (by rw [sc_le] at hc15; have h8 : (600 : Int32).toInt = 600 := (by decide); have h7 : (20 : Int32).toInt = 20 := (by decide); omega)
    refine pv_iconst (pc := 20) (v := 0) (by decide) (fm_dec dtX11_feed 11 rfl) ?_
    refine pv_istore (pc := 21) (i := 6) (by decide) rfl (fm_dec dtX11_feed 12 rfl) ?_
    dsimp only [List.set_cons_zero, List.set_cons_succ]
    refine fe_loop h20 20 0 (fmI M 0 0 0) _ hf (by decide) (fun M' x6 v7 h9 => ?_)
    refine pv_aloadn (pc := 120) (n := 0) 0 rfl rfl (fm_dec dtX11_feed 62 rfl) ?_
    refine pv_getI (k := 0) (j := 1) (ci := 11) (pc := 121) pfl_X11_104 (by decide) rfl (by decide) (fm_dec dtX11_feed 63 rfl) ?_
    exact pv_ireturn (pc := 124) rfl (fm_dec dtX11_feed 64 rfl) (hq h20 M' h9)
  · refine pv_iconst (pc := 18) (v := (-1)) (by decide) (fm_dec dtX11_feed 9 rfl) ?_
    exact pv_ireturn (pc := 19) rfl (fm_dec dtX11_feed 10 rfl) (hn (by rw [sc_le] at hc15; have h8 : (600 : Int32).toInt = 600 := (by decide); have h7 : (20 : Int32).toInt = 20 := (by decide); omega))
end
-- P 18g
section
-- THE CLASS READS TEXTS
/-- a signed byte and what it says -/
def bt (x : Int32) (c : Int) : Prop := x.toInt = if c < 128 then c else c - 256
theorem and255 (x : Int32) : (x &&& 255).toInt = x.toInt % 256 := by
  have e : (x &&& 255).toBitVec.toNat = x.toBitVec.toNat % 256 := by
    rw [Int32.toBitVec_and, BitVec.toNat_and]
    exact Nat.and_two_pow_sub_one_eq_mod _ 8
  have e3 : (x &&& 255).toInt = ((x &&& 255).toBitVec.toNat : Int) := by
    show (x &&& 255).toBitVec.toInt = _
    rw [BitVec.toInt_eq_toNat_of_lt (by omega)]
  have e4 : x.toInt = if 2 * x.toBitVec.toNat < 2 ^ 32 then (x.toBitVec.toNat : Int) else (x.toBitVec.toNat : Int) - ((2 ^ 32 : Nat) : Int) := by
    show x.toBitVec.toInt = _
    rw [BitVec.toInt_eq_toNat_cond]
  rw [e3, e, e4]
  split <;> omega
theorem bt.and {x : Int32} {c : Int} (h : bt x c) (h0 : 0 ≤ c) (h1 : c ≤ 255) : (x &&& 255).toInt = c := by
  rw [and255, h]
  split <;> omega
theorem bt.eq {x : Int32} {c v : Int} (h : bt x c) (h1 : c ≤ 255) (h2 : 0 ≤ v) (h3 : v < 128) : x.toInt = v ↔ c = v := by
  rw [h]
  split <;> omega
theorem bt.D {x : Int32} {c : Int} (h : bt x c) (h1 : c ≤ 255) : tD c = tD x.toInt := by
  rw [h]
  unfold tD
  split
  · rfl
  · have a1 : decide (c ≤ 57) = false := decide_eq_false (by omega)
    have a2 : decide (48 ≤ c - 256) = false := decide_eq_false (by omega)
    rw [a1, a2, Bool.and_false, Bool.false_and]
theorem bt.W {x : Int32} {c : Int} (h : bt x c) (h1 : c ≤ 255) : tW c = tW x.toInt := by
  rw [h]
  unfold tW
  split
  · rfl
  · have a1 : decide (c ≤ 122) = false := decide_eq_false (by omega)
    have a2 : decide (97 ≤ c - 256) = false := decide_eq_false (by omega)
    rw [a1, a2, Bool.and_false, Bool.false_and]
def xS2 (M : fmM) (tx : tX) (n p : Nat) : Prop := (M.1 1 2).toInt = n ∧ (M.1 1 3).toInt = p ∧ p ≤ n ∧ tOk tx n ∧ ∀ i, i < n → bt (M.1 2 i) (tx i)
theorem xS2.of {M M' : fmM} {tx : tX} {n p : Nat} (h : xS2 M tx n p) (e1 : M'.1 1 2 = M.1 1 2) (e2 : M'.1 1 3 = M.1 1 3) (e3 : M'.1 2 = M.1 2) : xS2 M' tx n p := by
  obtain ⟨a, b, c, d, e⟩ := h
  exact ⟨by rw [e1]; exact a, by rw [e2]; exact b, c, d, by rw [e3]; exact e⟩
theorem xS2.set {M : fmM} {tx : tX} {n p q : Nat} {x : Int32} (h : xS2 M tx n p) (hx : x.toInt = q) (hq : q ≤ n) : xS2 (fmI M 1 3 x) tx n q := by
  obtain ⟨a, b, c, d, e⟩ := h
  exact ⟨a, hx, hq, d, e⟩
theorem xS2.lt {M : fmM} {tx : tX} {n p : Nat} (h : xS2 M tx n p) (hc : ¬ M.1 1 2 ≤ M.1 1 3) : p < n := by
  rw [sc_le] at hc
  have h1 := h.1
  have h2 := h.2.1
  omega
theorem xS2.ge {M : fmM} {tx : tX} {n p : Nat} (h : xS2 M tx n p) (hc : M.1 1 2 ≤ M.1 1 3) : p = n := by
  rw [sc_le] at hc
  have h1 := h.1
  have h2 := h.2.1
  have h3 := h.2.2.1
  omega
theorem xS2.byte {M : fmM} {tx : tX} {n p : Nat} (h : xS2 M tx n p) (hp : p < n) : bt (M.1 2 (M.1 1 3).toNatClampNeg) (tx p) ∧ 0 ≤ tx p ∧ tx p ≤ 255 := by
  rw [i32_cl h.2.1]
  exact ⟨h.2.2.2.2 p hp, h.2.2.2.1.2.2 p hp⟩
theorem xS2.inb {M : fmM} {tx : tX} {n p : Nat} (h : xS2 M tx n p) (hp : p < n) : vp_in (M.1 1 3) 600 := ix_in h.2.1 (by have := h.2.2.2.1.1; omega)
theorem xS2.bl {M : fmM} {tx : tX} {n p : Nat} {x : Int32} (h : xS2 M tx n p) (hx : x.toInt = sk tx p) : xS2 (fmI M 1 3 x) tx n (sk tx p) := h.set hx (sp_le tB_1 h.2.2.2.1 h.2.2.1)
theorem bt.B {x : Int32} {c : Int} (h : bt x c) (h1 : c ≤ 255) : tB c = decide (x = 32) := by
  unfold tB
  have e : (c = 32) ↔ (x = 32) := by
    rw [← h.eq h1 (by decide) (by decide)]
    constructor
    · intro h9
      exact i32_ext (h9.trans (by decide))
    · intro h9
      rw [h9]
      decide
  exact decide_eq_decide.mpr e
def xdFr (M M' : fmM) : Prop := (∀ k j, k ≠ 1 → M'.1 k j = M.1 k j ∧ M'.2 k j = M.2 k j) ∧ (∀ j, j ≠ 3 → j ≠ 4 → j ≠ 5 → M'.1 1 j = M.1 1 j)
def xdOk (M M' : fmM) (tx : tX) (n q : Nat) : Prop := xS2 M' tx n q ∧ M'.1 1 4 = 0 ∧ xdFr M M' ∧ scInv Tx invX M'
def xdBad (M M' : fmM) (k a : Nat) : Prop := (M'.1 1 4).toInt = k ∧ (M'.1 1 5).toInt = a ∧ k ≠ 0 ∧ xdFr M M' ∧ scInv Tx invX M'
theorem xdFr.refl (M : fmM) : xdFr M M := ⟨fun _ _ _ => ⟨rfl, rfl⟩, fun _ _ _ _ => rfl⟩
theorem xdFr.trans {M M1 M2 : fmM} (h : xdFr M M1) (h' : xdFr M1 M2) : xdFr M M2 := ⟨fun k j a => ⟨(h'.1 k j a).1.trans (h.1 k j a).1, (h'.1 k j a).2.trans (h.1 k j a).2⟩, fun j a b c => (h'.2 j a b c).trans (h.2 j a b c)⟩
theorem xdFr.set {M M1 : fmM} {j : Nat} {x : Int32} (h : xdFr M M1) (hj : j = 3 ∨ j = 4 ∨ j = 5) : xdFr M (fmI M1 1 j x) := by
  refine ⟨fun k' j' a => ⟨?_, (h.1 k' j' a).2⟩, fun j' a b c => ?_⟩
  · rw [fmI_k _ _ a]
    exact (h.1 k' j' a).1
  · rw [fmI_j _ _ (by omega)]
    exact h.2 j' a b c
theorem xdFr.of3 {M M' : fmM} (h : scFr [(1, 3, 3)] M M') : xdFr M M' := by
  refine ⟨fun k j hk => h k j ?_, fun j a b c => (h 1 j ?_).1⟩
  · have e : ((1 : Nat) == k) = false := by
      rw [beq_eq_false_iff_ne]
      omega
    simp [scIn, e]
  · by_cases h3 : j < 3
    · have e : Nat.ble 3 j = false := by
        cases h9 : Nat.ble 3 j with
        | false => rfl
        | true => exact absurd (Nat.le_of_ble_eq_true h9) (by omega)
      show ((((1 : Nat) == 1) && Nat.ble 3 j && Nat.blt j (3 + 3)) || false) = false
      rw [e]
      rfl
    · have e : Nat.blt j (3 + 3) = false := by
        cases h9 : Nat.blt j (3 + 3) with
        | false => rfl
        | true => exact absurd (Nat.le_of_ble_eq_true h9) (by omega)
      show ((((1 : Nat) == 1) && Nat.ble 3 j && Nat.blt j (3 + 3)) || false) = false
      rw [e, Bool.and_false]
      rfl
theorem xdFr.of1 {M M' : fmM} (h : scFr [(1, 3, 1)] M M') : xdFr M M' := xdFr.of3 (scFr.trans scFr.rfl h (by decide))
/-- a state with a fault stays one, whatever is read -/
theorem xdBad.go {M M1 M2 : fmM} {k a : Nat} (h : xdBad M M1 k a) (h' : scFr [(1, 3, 1)] M1 M2) (hI : scInv Tx invX M2) : xdBad M M2 k a := ⟨by rw [(h' 1 4 rfl).1]; exact h.1, by rw [(h' 1 5 rfl).1]; exact h.2.1, h.2.2.1, h.2.2.2.1.trans (xdFr.of1 h'), hI⟩
theorem xdBad.nz {M M' : fmM} {k a : Nat} (h : xdBad M M' k a) : ¬ M'.1 1 4 = 0 := by
  intro e
  have h1 := h.1
  rw [e] at h1
  have e0 : (0 : Int32).toInt = 0 := by decide
  have := h.2.2.1
  omega
theorem xdBad.f13 {M M' : fmM} {k a : Nat} (h : xdBad M M' k a) : 1 ≤ (M'.1 1 4).toInt ∧ (M'.1 1 4).toInt ≤ 3 := by
  have h9 : 0 ≤ (M'.1 1 4).toInt ∧ (M'.1 1 4).toInt ≤ 3 := h.2.2.2.2.1 1 4 (by decide)
  have h1 := h.1
  have := h.2.2.1
  omega
theorem xI_3 {M : fmM} {x : Int32} {q n : Nat} (hI : scInv Tx invX M) (hx : x.toInt = q) (hq : q ≤ n) (hn : n ≤ 600) : scInv Tx invX (fmI M 1 3 x) := xInv.put hI ⟨by show (0 : Int) ≤ _; omega, by show _ ≤ (600 : Int); omega⟩
theorem xI_45 {M : fmM} {k a : Int32} {kk aa n : Nat} (hI : scInv Tx invX M) (hk : k.toInt = kk) (h3 : kk ≤ 3) (ha : a.toInt = aa) (h6 : aa ≤ n) (hn : n ≤ 600) : scInv Tx invX (fmI (fmI M 1 4 k) 1 5 a) := xInv.put (xInv.put hI ⟨by show (0 : Int) ≤ _; omega, by show _ ≤ (3 : Int); omega⟩) ⟨by show (-1 : Int) ≤ _; omega, by show _ ≤ (600 : Int); omega⟩
theorem xdOk.at {M : fmM} {tx : tX} {n p q : Nat} {x : Int32} (hS : xS2 M tx n p) (hf : M.1 1 4 = 0) (hI : scInv Tx invX M) (hx : x.toInt = q) (hq : q ≤ n) : xdOk M (fmI M 1 3 x) tx n q := ⟨hS.set hx hq, hf, (xdFr.refl M).set (Or.inl rfl), xI_3 hI hx hq hS.2.2.2.1.1⟩
theorem xdBad.at {M : fmM} {tx : tX} {n p q kk aa : Nat} {x k a : Int32} (hS : xS2 M tx n p) (hI : scInv Tx invX M) (hx : x.toInt = q) (hq : q ≤ n) (hk : k.toInt = kk) (h3 : kk ≤ 3) (h0 : kk ≠ 0) (ha : a.toInt = aa) (h6 : aa ≤ n) : xdBad M (fmI (fmI (fmI M 1 3 x) 1 4 k) 1 5 a) kk aa := ⟨hk, ha, h0, (((xdFr.refl M).set (Or.inl rfl)).set (Or.inr (Or.inl rfl))).set (Or.inr (Or.inr rfl)), xI_45 (xI_3 hI hx hq hS.2.2.2.1.1) hk h3 ha h6 hS.2.2.2.1.1⟩
theorem xnm {tx : tX} {q w : Nat} {x v : Int32} (hb : bt x (tx q)) (h255 : tx q ≤ 255) (hd : tD (tx q) = true) (hv : v.toInt = min (w : Int) 1000000) : (pvMx false 1000000 (v * 10 + x - 48)).toInt = min ((10 * w + (tx q - 48).toNat : Nat) : Int) 1000000 := by
  have hd9 := tD_in hd
  have e1 : x.toInt = tx q := by
    rw [hb, if_pos (by omega)]
  have e10 : (10 : Int32).toInt = 10 := by decide
  have e48 : (48 : Int32).toInt = 48 := by decide
  have eM : (1000000 : Int32).toInt = 1000000 := by decide
  have b1 : 0 ≤ v.toInt ∧ v.toInt ≤ 1000000 := by omega
  have m1 : (v * 10).toInt = v.toInt * 10 := by
    rw [sc_mul (by rw [e10]; omega) (by rw [e10]; omega), e10]
  have m2 : (v * 10 + x).toInt = v.toInt * 10 + x.toInt := by rw [sc_add (by omega) (by omega), m1]
  have m3 : (v * 10 + x - 48).toInt = v.toInt * 10 + x.toInt - 48 := by rw [sc_sub (by omega) (by omega), m2, e48]
  show (if (1000000 : Int32).toInt ≤ (v * 10 + x - 48).toInt then (1000000 : Int32) else v * 10 + x - 48).toInt = _
  rw [eM, m3]
  split
  · rw [eM]
    omega
  · rw [m3]
    omega
/-- words, one behind the other, each with a blank behind it -/
def fndF (tx : tX) (s e : Nat) : List Int → Nat → Nat → Bool → Option Nat
  | [], _, _, _ => none
  | c :: cs, w, a, b => if c = 32 then (if b && decide (a = e) then some w else fndF tx s e cs (w + 1) s true) else fndF tx s e cs w (a + 1) (b && decide (a < e) && decide (tx a = c))
def wdI : List (List Int) → List Int → Nat → Option Nat
  | [], _, _ => none
  | w :: ws, u, k => if u = w then some k else wdI ws u (k + 1)
def flat1 : List (List Int) → List Int
  | [] => []
  | w :: ws => w ++ 32 :: flat1 ws
theorem fnd_w {tx : tX} {n s e : Nat} (ht : tOk tx n) : ∀ (u : List Int) (cs : List Int) (w a : Nat), a ≤ e → e ≤ n → sp tW tx a = e → (∀ c ∈ u, ¬ c = 32) → fndF tx s e (u ++ 32 :: cs) w a true = if wd tx a = u then some w else fndF tx s e cs (w + 1) s true := by
  intro u
  have hdead : ∀ (u : List Int) (cs : List Int) (w a : Nat), (∀ c ∈ u, ¬ c = 32) → fndF tx s e (u ++ 32 :: cs) w a false = fndF tx s e cs (w + 1) s true := by
    intro u
    induction u with
    | nil =>
      intro cs w a _
      show (if (32 : Int) = 32 then (if (false && decide (a = e)) then some w else fndF tx s e cs (w + 1) s true) else _) = _
      rw [if_pos rfl, Bool.false_and]
      rfl
    | cons c u ih =>
      intro cs w a hu
      show (if c = 32 then _ else fndF tx s e (u ++ 32 :: cs) w (a + 1) (false && decide (a < e) && decide (tx a = c))) = _
      rw [if_neg (hu c List.mem_cons_self), Bool.false_and, Bool.false_and]
      exact ih cs w (a + 1) (fun c hc => hu c (List.mem_cons_of_mem _ hc))
  induction u with
  | nil =>
    intro cs w a ha hen he _
    show (if (32 : Int) = 32 then (if (true && decide (a = e)) then some w else fndF tx s e cs (w + 1) s true) else _) = _
    rw [if_pos rfl, Bool.true_and]
    by_cases h : a = e
    · have hf : tW (tx a) = false := by
        have h9 := sp_stop (P := tW) (p := a) tW_1 ht (by omega)
        rw [he, ← h] at h9
        exact h9
      rw [wd_f hf, if_pos rfl, if_pos (decide_eq_true h)]
    · have hw : tW (tx a) = true := by
        cases h9 : tW (tx a) with
        | true => rfl
        | false =>
          rw [sp_f h9] at he
          exact absurd he h
      rw [wd_t (by have := ht.1; omega) hw, if_neg (by simp [h]), if_neg (by simp)]
  | cons c u ih =>
    intro cs w a ha hen he hu
    show (if c = 32 then _ else fndF tx s e (u ++ 32 :: cs) w (a + 1) (true && decide (a < e) && decide (tx a = c))) = _
    rw [if_neg (hu c List.mem_cons_self), Bool.true_and]
    have hu' : ∀ c ∈ u, ¬ c = 32 := fun c hc => hu c (List.mem_cons_of_mem _ hc)
    by_cases h : a = e
    · have hf : tW (tx a) = false := by
        have h9 := sp_stop (P := tW) (p := a) tW_1 ht (by omega)
        rw [he, ← h] at h9
        exact h9
      rw [wd_f hf, if_neg (by simp), decide_eq_false (by omega), Bool.false_and]
      exact hdead u cs w (a + 1) hu'
    · have hw : tW (tx a) = true := by
        cases h9 : tW (tx a) with
        | true => rfl
        | false =>
          rw [sp_f h9] at he
          exact absurd he h
      have h700 : a < 700 := by have := ht.1; omega
      rw [wd_t h700 hw, decide_eq_true (show a < e by omega), Bool.true_and]
      by_cases hc : tx a = c
      · rw [decide_eq_true hc, ih cs w (a + 1) (by omega) hen (by rw [← sp_t h700 hw]; exact he) hu']
        by_cases h8 : wd tx (a + 1) = u
        · rw [if_pos h8, if_pos (by rw [hc, h8])]
        · rw [if_neg h8, if_neg (by intro h7; injection h7 with h6 h5; exact h8 h5)]
      · rw [decide_eq_false hc, if_neg (by intro h7; injection h7 with h6 h5; exact hc h6)]
        exact hdead u cs w (a + 1) hu'
theorem fnd_all {tx : tX} {n s e : Nat} (ht : tOk tx n) (hs : s ≤ e) (hen : e ≤ n) (he : sp tW tx s = e) : ∀ (ws : List (List Int)) (w : Nat), (∀ u ∈ ws, ∀ c ∈ u, ¬ c = 32) → fndF tx s e (flat1 ws) w s true = wdI ws (wd tx s) w := by
  intro ws
  induction ws with
  | nil => intro w _; rfl
  | cons u ws ih =>
    intro w hu
    show fndF tx s e (u ++ 32 :: flat1 ws) w s true = _
    rw [fnd_w ht u (flat1 ws) w s hs hen he (hu u List.mem_cons_self)]
    simp only [wdI]
    rw [ih (w + 1) (fun v hv => hu v (List.mem_cons_of_mem _ hv))]
set_option maxRecDepth 20000 in
theorem xpk_loop {Q : fmR → fmM → Prop} {tx : tX} {n : Nat} : ∀ (m : Nat) (M : fmM) (p : Nat), xS2 M tx n p → n - p = m → (∀ x v : Int32, x.toInt = sk tx p → v.toInt = tx (sk tx p) → Q (.inl (some (.int v))) (fmI M 1 3 x)) → pvEv Tx 0 qX7_peek 0 [some (.ref 1)] [] M Q := by
  intro m
  induction m using Nat.strongRecOn with
  | _ m ih =>
    intro M p hS hm hq
    refine pv_aloadn (pc := 0) (n := 0) 0 rfl rfl (fm_dec dtX7_peek 0 rfl) ?_
    refine pv_getI (k := 1) (j := 3) (ci := 7) (pc := 1) pfl_X7_25 (by decide) rfl (by decide) (fm_dec dtX7_peek 1 rfl) ?_
    refine pv_aloadn (pc := 4) (n := 0) 0 rfl rfl (fm_dec dtX7_peek 2 rfl) ?_
    refine pv_getI (k := 1) (j := 2) (ci := 7) (pc := 5) pfl_X7_22 (by decide) rfl (by decide) (fm_dec dtX7_peek 3 rfl) ?_
    refine pv_icmp_ge (pc := 8) 38 (by decide) (fm_dec dtX7_peek 4 rfl) (fun hc8 => ?_) (fun hc8 => ?_)
    · refine pv_aloadn (pc := 38) (n := 0) 0 rfl rfl (fm_dec dtX7_peek 19 rfl) ?_
      refine pv_getI (k := 1) (j := 3) (ci := 7) (pc := 39) pfl_X7_25 (by decide) rfl (by decide) (fm_dec dtX7_peek 20 rfl) ?_
      refine pv_aloadn (pc := 42) (n := 0) 0 rfl rfl (fm_dec dtX7_peek 21 rfl) ?_
      refine pv_getI (k := 1) (j := 2) (ci := 7) (pc := 43) pfl_X7_22 (by decide) rfl (by decide) (fm_dec dtX7_peek 22 rfl) ?_
      refine pv_icmp_ge (pc := 46) 65 (by decide) (fm_dec dtX7_peek 23 rfl) (fun _ => ?_) (fun hc46 => by exfalso; exact hc46 hc8)
      refine pv_iconst (pc := 65) (v := (-1)) (by decide) (fm_dec dtX7_peek 32 rfl) ?_
      exact pv_ireturn (pc := 66) rfl (fm_dec dtX7_peek 33 rfl) (by have e9 := hS.ge hc8; subst e9; have h9 := hq (M.1 1 3) (-1) (by rw [hS.2.1]; unfold sk; rw [sp_f (by rw [hS.2.2.2.1.2.1 p (Nat.le_refl _)]; exact tB_1)]) (by unfold sk; rw [sp_f (by rw [hS.2.2.2.1.2.1 p (Nat.le_refl _)]; exact tB_1), hS.2.2.2.1.2.1 p (Nat.le_refl _)]; decide); rw [fmI_id] at h9; exact h9)
    · refine pv_aloadn (pc := 11) (n := 0) 0 rfl rfl (fm_dec dtX7_peek 5 rfl) ?_
      refine pv_getR (k := 1) (j := 0) (ci := 7) (pc := 12) 2 rfl (by decide) pfl_X7_9 (by decide) rfl (by decide) (fm_dec dtX7_peek 6 rfl) ?_
      refine pv_aloadn (pc := 15) (n := 0) 0 rfl rfl (fm_dec dtX7_peek 7 rfl) ?_
      refine pv_getI (k := 1) (j := 3) (ci := 7) (pc := 16) pfl_X7_25 (by decide) rfl (by decide) (fm_dec dtX7_peek 8 rfl) ?_
      refine pv_bald (k := 2) (n := 600) (pc := 19) (by decide) rfl rfl (hS.inb (hS.lt hc8)) (fm_dec dtX7_peek 9 rfl) ?_
      refine pv_bipush (pc := 20) (v := 32) (by decide) (fm_dec dtX7_peek 10 rfl) ?_
      refine pv_icmp_ne (pc := 22) 38 (by decide) (fm_dec dtX7_peek 11 rfl) (fun hc22 => ?_) (fun hc22 => ?_)
      · refine pv_aloadn (pc := 38) (n := 0) 0 rfl rfl (fm_dec dtX7_peek 19 rfl) ?_
        refine pv_getI (k := 1) (j := 3) (ci := 7) (pc := 39) pfl_X7_25 (by decide) rfl (by decide) (fm_dec dtX7_peek 20 rfl) ?_
        refine pv_aloadn (pc := 42) (n := 0) 0 rfl rfl (fm_dec dtX7_peek 21 rfl) ?_
        refine pv_getI (k := 1) (j := 2) (ci := 7) (pc := 43) pfl_X7_22 (by decide) rfl (by decide) (fm_dec dtX7_peek 22 rfl) ?_
        refine pv_icmp_ge (pc := 46) 65 (by decide) (fm_dec dtX7_peek 23 rfl) (fun hc46 => by exfalso; exact hc8 hc46) (fun _ => ?_)
        refine pv_aloadn (pc := 49) (n := 0) 0 rfl rfl (fm_dec dtX7_peek 24 rfl) ?_
        refine pv_getR (k := 1) (j := 0) (ci := 7) (pc := 50) 2 rfl (by decide) pfl_X7_9 (by decide) rfl (by decide) (fm_dec dtX7_peek 25 rfl) ?_
        refine pv_aloadn (pc := 53) (n := 0) 0 rfl rfl (fm_dec dtX7_peek 26 rfl) ?_
        refine pv_getI (k := 1) (j := 3) (ci := 7) (pc := 54) pfl_X7_25 (by decide) rfl (by decide) (fm_dec dtX7_peek 27 rfl) ?_
        refine pv_bald (k := 2) (n := 600) (pc := 57) (by decide) rfl rfl (hS.inb (hS.lt hc8)) (fm_dec dtX7_peek 28 rfl) ?_
        refine pv_sipush (pc := 58) (v := 255) (by decide) (fm_dec dtX7_peek 29 rfl) ?_
        refine pv_iand (pc := 61) (fm_dec dtX7_peek 30 rfl) ?_
        refine pv_goto (pc := 62) 66 (by decide) (fm_dec dtX7_peek 31 rfl) ?_
        exact pv_ireturn (pc := 66) rfl (fm_dec dtX7_peek 33 rfl) (by have hp := hS.lt hc8; have hb := hS.byte hp; have hB : tB (tx p) = false := (by rw [hb.1.B hb.2.2]; exact decide_eq_false hc22); have h9 := hq (M.1 1 3) _ (by rw [hS.2.1]; unfold sk; rw [sp_f hB]) (by unfold sk; rw [sp_f hB]; exact hb.1.and hb.2.1 hb.2.2); rw [fmI_id] at h9; exact h9)
      · refine pv_aloadn (pc := 25) (n := 0) 0 rfl rfl (fm_dec dtX7_peek 12 rfl) ?_
        refine pv_dup (pc := 26) rfl (fm_dec dtX7_peek 13 rfl) ?_
        refine pv_getI (k := 1) (j := 3) (ci := 7) (pc := 27) pfl_X7_25 (by decide) rfl (by decide) (fm_dec dtX7_peek 14 rfl) ?_
        refine pv_iconst (pc := 30) (v := 1) (by decide) (fm_dec dtX7_peek 15 rfl) ?_
        refine pv_iadd (pc := 31) (fm_dec dtX7_peek 16 rfl) ?_
        refine pv_putI (k := 1) (j := 3) (ci := 7) (pc := 32) pfl_X7_25 (by decide) rfl (by decide) (fm_dec dtX7_peek 17 rfl) ?_
        refine pv_goto (pc := 35) 0 (by decide) (fm_dec dtX7_peek 18 rfl) ?_
        have hp := hS.lt hc8
        have hb := hS.byte hp
        have hB : tB (tx p) = true := (by rw [hb.1.B hb.2.2]; exact decide_eq_true hc22)
        have h700 : p < 700 := (by have := hS.2.2.2.1.1; omega)
        refine ih (n - (p + 1)) (by omega) _ (p + 1) (hS.set (i32_p1 hS.2.1 (by omega)) hp) rfl (fun x v hx hv => ?_)
        rw [fmI_fmI]
        exact hq x v (by unfold sk at hx ⊢; rw [sp_t h700 hB]; exact hx) (by unfold sk at hv ⊢; rw [sp_t h700 hB]; exact hv)
theorem c_xpeek {M : fmM} {Q : fmR → fmM → Prop} {tx : tX} {n p : Nat} (hS : xS2 M tx n p) (hq : ∀ x v : Int32, x.toInt = sk tx p → v.toInt = tx (sk tx p) → Q (.inl (some (.int v))) (fmI M 1 3 x)) : pvGood Tx 0 qX7_peek [.ref 1] M Q := pvGood_of (Nat.le_of_ble_eq_true rfl) (xpk_loop _ M p hS rfl hq)
theorem x_peek {M : fmM} {Q : fmR → fmM → Prop} {tx : tX} {n p : Nat} (hS : xS2 M tx n p) (hf : M.1 1 4 = 0) (hI : scInv Tx invX M) (hq : ∀ (M' : fmM) (v : Int32), v.toInt = tx (sk tx p) → xdOk M M' tx n (sk tx p) → Q (.inl (some (.int v))) M') : pvGood Tx 0 qX7_peek [.ref 1] M Q := c_xpeek hS (fun x v hx hv => hq _ v hv (xdOk.at hS hf hI hx (sp_le tB_1 hS.2.2.2.1 hS.2.2.1)))
set_option maxRecDepth 20000 in
theorem c_xnext {M : fmM} {Q : fmR → fmM → Prop} {tx : tX} {n p : Nat} (hS : xS2 M tx n p) (hq : ∀ x : Int32, x.toInt = sk tx p → Q (.inl (some (.int x))) (fmI M 1 3 x)) : pvGood Tx 1 qX7_nextPlace [.ref 1] M Q := by
  refine pvGood_of (Nat.le_of_ble_eq_true rfl) ?_
  show pvEv Tx 1 qX7_nextPlace 0 [some (.ref 1)] [] M Q
  refine pv_aloadn (pc := 0) (n := 0) 0 rfl rfl (fm_dec dtX7_nextPlace 0 rfl) ?_
  refine pv_invV0 (k := 1) (d' := 0) (pc := 1) pcv_X7_31 (by decide) rfl (Nat.le_of_ble_eq_true rfl) (by decide) (fm_dec dtX7_nextPlace 1 rfl) ?_
  refine c_xpeek hS (fun x1 v1 hx1 hv1 => ?_)
  refine pv_then1 ?_
  refine pv_pop (pc := 4) rfl (fm_dec dtX7_nextPlace 2 rfl) ?_
  refine pv_aloadn (pc := 5) (n := 0) 0 rfl rfl (fm_dec dtX7_nextPlace 3 rfl) ?_
  refine pv_getI (k := 1) (j := 3) (ci := 7) (pc := 6) pfl_X7_25 (by decide) rfl (by decide) (fm_dec dtX7_nextPlace 4 rfl) ?_
  exact pv_ireturn (pc := 9) rfl (fm_dec dtX7_nextPlace 5 rfl) (hq x1 hx1)
theorem x_next {M : fmM} {Q : fmR → fmM → Prop} {tx : tX} {n p : Nat} (hS : xS2 M tx n p) (hf : M.1 1 4 = 0) (hI : scInv Tx invX M) (hq : ∀ (M' : fmM) (x : Int32), x.toInt = sk tx p → xdOk M M' tx n (sk tx p) → Q (.inl (some (.int x))) M') : pvGood Tx 1 qX7_nextPlace [.ref 1] M Q := c_xnext hS (fun x hx => hq _ x hx (xdOk.at hS hf hI hx (sp_le tB_1 hS.2.2.2.1 hS.2.2.1)))
set_option maxRecDepth 20000 in
theorem c_xfail0 {M : fmM} {Q : fmR → fmM → Prop} {k a : Int32} (hf : M.1 1 4 = 0) (hq : Q (.inl (some (.int 0))) (fmI (fmI M 1 4 k) 1 5 a)) : pvGood Tx 0 qX7_fail [.ref 1, .int k, .int a] M Q := by
  refine pvGood_of (Nat.le_of_ble_eq_true rfl) ?_
  show pvEv Tx 0 qX7_fail 0 [some (.ref 1), some (.int k), some (.int a)] [] M Q
  refine pv_aloadn (pc := 0) (n := 0) 0 rfl rfl (fm_dec dtX7_fail 0 rfl) ?_
  refine pv_getI (k := 1) (j := 4) (ci := 7) (pc := 1) pfl_X7_28 (by decide) rfl (by decide) (fm_dec dtX7_fail 1 rfl) ?_
  refine pv_if_ne (pc := 4) 17 (by decide) (fm_dec dtX7_fail 2 rfl) (fun hc4 => by exfalso; exact hc4 hf) (fun _ => ?_)
  refine pv_aloadn (pc := 7) (n := 0) 0 rfl rfl (fm_dec dtX7_fail 3 rfl) ?_
  refine pv_iloadn (pc := 8) (n := 1) 1 rfl rfl (fm_dec dtX7_fail 4 rfl) ?_
  refine pv_putI (k := 1) (j := 4) (ci := 7) (pc := 9) pfl_X7_28 (by decide) rfl (by decide) (fm_dec dtX7_fail 5 rfl) ?_
  refine pv_aloadn (pc := 12) (n := 0) 0 rfl rfl (fm_dec dtX7_fail 6 rfl) ?_
  refine pv_iloadn (pc := 13) (n := 2) 2 rfl rfl (fm_dec dtX7_fail 7 rfl) ?_
  refine pv_putI (k := 1) (j := 5) (ci := 7) (pc := 14) pfl_X7_15 (by decide) rfl (by decide) (fm_dec dtX7_fail 8 rfl) ?_
  refine pv_iconst (pc := 17) (v := 0) (by decide) (fm_dec dtX7_fail 9 rfl) ?_
  exact pv_zreturn (pc := 18) rfl (by first | exact Or.inr rfl | exact Or.inl rfl) (fm_dec dtX7_fail 10 rfl) hq
set_option maxRecDepth 20000 in
theorem c_xfail1 {M : fmM} {Q : fmR → fmM → Prop} {k a : Int32} (hf : ¬ M.1 1 4 = 0) (hq : Q (.inl (some (.int 0))) M) : pvGood Tx 0 qX7_fail [.ref 1, .int k, .int a] M Q := by
  refine pvGood_of (Nat.le_of_ble_eq_true rfl) ?_
  show pvEv Tx 0 qX7_fail 0 [some (.ref 1), some (.int k), some (.int a)] [] M Q
  refine pv_aloadn (pc := 0) (n := 0) 0 rfl rfl (fm_dec dtX7_fail 0 rfl) ?_
  refine pv_getI (k := 1) (j := 4) (ci := 7) (pc := 1) pfl_X7_28 (by decide) rfl (by decide) (fm_dec dtX7_fail 1 rfl) ?_
  refine pv_if_ne (pc := 4) 17 (by decide) (fm_dec dtX7_fail 2 rfl) (fun _ => ?_) (fun hc4 => by exfalso; exact hf hc4)
  refine pv_iconst (pc := 17) (v := 0) (by decide) (fm_dec dtX7_fail 9 rfl) ?_
  exact pv_zreturn (pc := 18) rfl (by first | exact Or.inr rfl | exact Or.inl rfl) (fm_dec dtX7_fail 10 rfl) hq
set_option maxRecDepth 20000 in
theorem c_xfailed {M : fmM} {Q : fmR → fmM → Prop}  (h0 : M.1 1 4 = 0 → Q (.inl (some (.int 0))) M) (h1 : ¬ M.1 1 4 = 0 → Q (.inl (some (.int 1))) M) : pvGood Tx 0 qX7_failed [.ref 1] M Q := by
  refine pvGood_of (Nat.le_of_ble_eq_true rfl) ?_
  show pvEv Tx 0 qX7_failed 0 [some (.ref 1)] [] M Q
  refine pv_aloadn (pc := 0) (n := 0) 0 rfl rfl (fm_dec dtX7_failed 0 rfl) ?_
  refine pv_getI (k := 1) (j := 4) (ci := 7) (pc := 1) pfl_X7_28 (by decide) rfl (by decide) (fm_dec dtX7_failed 1 rfl) ?_
  refine pv_if_eq (pc := 4) 11 (by decide) (fm_dec dtX7_failed 2 rfl) (fun hc4 => ?_) (fun hc4 => ?_)
  · refine pv_iconst (pc := 11) (v := 0) (by decide) (fm_dec dtX7_failed 5 rfl) ?_
    exact pv_zreturn (pc := 12) rfl (by first | exact Or.inr rfl | exact Or.inl rfl) (fm_dec dtX7_failed 6 rfl) (by first | exact h0 hc4 | exact h1 hc4)
  · refine pv_iconst (pc := 7) (v := 1) (by decide) (fm_dec dtX7_failed 3 rfl) ?_
    refine pv_goto (pc := 8) 12 (by decide) (fm_dec dtX7_failed 4 rfl) ?_
    exact pv_zreturn (pc := 12) rfl (by first | exact Or.inr rfl | exact Or.inl rfl) (fm_dec dtX7_failed 6 rfl) (by first | exact h0 hc4 | exact h1 hc4)
set_option maxRecDepth 20000 in
theorem x_sign {M : fmM} {Q : fmR → fmM → Prop} {tx : tX} {n p : Nat} {c : Int32} (hc : 0 ≤ c.toInt) (hS : xS2 M tx n p) (hf : M.1 1 4 = 0) (hI : scInv Tx invX M) (hok : ∀ (M' : fmM) (q : Nat), spSign tx c.toInt p = .inr ((), q) → xdOk M M' tx n q → Q (.inl (some (.int 1))) M') (hbad : ∀ (M' : fmM) (k a : Nat), spSign tx c.toInt p = .inl (k, a) → xdBad M M' k a → Q (.inl (some (.int 0))) M') : pvGood Tx 1 qX7_takeSign [.ref 1, .int c] M Q := by
  refine pvGood_of (Nat.le_of_ble_eq_true rfl) ?_
  show pvEv Tx 1 qX7_takeSign 0 [some (.ref 1), some (.int c)] [] M Q
  refine pv_aloadn (pc := 0) (n := 0) 0 rfl rfl (fm_dec dtX7_takeSign 0 rfl) ?_
  refine pv_invV0 (k := 1) (d' := 0) (pc := 1) pcv_X7_31 (by decide) rfl (Nat.le_of_ble_eq_true rfl) (by decide) (fm_dec dtX7_takeSign 1 rfl) ?_
  refine c_xpeek hS (fun x1 v1 hx1 hv1 => ?_)
  refine pv_then1 ?_
  refine pv_iloadn (pc := 4) (n := 1) 1 rfl rfl (fm_dec dtX7_takeSign 2 rfl) ?_
  refine pv_icmp_eq (pc := 5) 18 (by decide) (fm_dec dtX7_takeSign 3 rfl) (fun hc5 => ?_) (fun hc5 => ?_)
  · refine pv_aloadn (pc := 18) (n := 0) 0 rfl rfl (fm_dec dtX7_takeSign 10 rfl) ?_
    refine pv_dup (pc := 19) rfl (fm_dec dtX7_takeSign 11 rfl) ?_
    refine pv_getI (k := 1) (j := 3) (ci := 7) (pc := 20) pfl_X7_25 (by decide) rfl (by decide) (fm_dec dtX7_takeSign 12 rfl) ?_
    refine pv_iconst (pc := 23) (v := 1) (by decide) (fm_dec dtX7_takeSign 13 rfl) ?_
    refine pv_iadd (pc := 24) (fm_dec dtX7_takeSign 14 rfl) ?_
    refine pv_putI (k := 1) (j := 3) (ci := 7) (pc := 25) pfl_X7_25 (by decide) rfl (by decide) (fm_dec dtX7_takeSign 15 rfl) ?_
    refine pv_iconst (pc := 28) (v := 1) (by decide) (fm_dec dtX7_takeSign 16 rfl) ?_
    exact pv_zreturn (pc := 29) rfl (by first | exact Or.inr rfl | exact Or.inl rfl) (fm_dec dtX7_takeSign 17 rfl) (by rw [fmI_fmI]; have e9 : spSign tx c.toInt p = .inr ((), sk tx p + 1) := (by unfold spSign; rw [if_pos (by rw [← hv1, hc5])]); exact hok _ _ e9 (xdOk.at hS hf hI (i32_p1 hx1 (by have := hS.2.2.2.1.1; have := (sp_le tB_1 hS.2.2.2.1 hS.2.2.1); unfold sk; omega)) (spSign_ok hS.2.2.2.1 hS.2.2.1 hc e9).2))
  · refine pv_aloadn (pc := 8) (n := 0) 0 rfl rfl (fm_dec dtX7_takeSign 4 rfl) ?_
    refine pv_iconst (pc := 9) (v := 1) (by decide) (fm_dec dtX7_takeSign 5 rfl) ?_
    refine pv_aloadn (pc := 10) (n := 0) 0 rfl rfl (fm_dec dtX7_takeSign 6 rfl) ?_
    refine pv_getI (k := 1) (j := 3) (ci := 7) (pc := 11) pfl_X7_25 (by decide) rfl (by decide) (fm_dec dtX7_takeSign 7 rfl) ?_
    refine pv_invV2 (k := 1) (d' := 0) (pc := 14) pcv_X7_35 (by decide) rfl (Nat.le_of_ble_eq_true rfl) (by decide) (fm_dec dtX7_takeSign 8 rfl) ?_
    refine c_xfail0 hf ?_
    refine pv_then1 ?_
    exact pv_zreturn (pc := 17) rfl (by first | exact Or.inr rfl | exact Or.inl rfl) (fm_dec dtX7_takeSign 9 rfl) (by have e9 : spSign tx c.toInt p = .inl (1, sk tx p) := (by unfold spSign; rw [if_neg (fun h9 => hc5 (i32_ext (hv1.trans h9)))]); exact hbad _ _ _ e9 (xdBad.at hS hI hx1 (sp_le tB_1 hS.2.2.2.1 hS.2.2.1) (by decide) (by decide) (by decide) hx1 (sp_le tB_1 hS.2.2.2.1 hS.2.2.1)))
set_option maxRecDepth 20000 in
theorem xn_loop {Q : fmR → fmM → Prop} {tx : tX} {n : Nat} {lo hi st : Int32} : ∀ (m : Nat) (M : fmM) (q : Nat) (v : Int32) (w : Nat), xS2 M tx n q → n - q = m → v.toInt = min (w : Int) 1000000 → (∀ x v' : Int32, x.toInt = sp tD tx q → v'.toInt = min (nu tx q w : Int) 1000000 → pvEv Tx 2 qX7_takeNumber 85 [some (.ref 1), some (.int lo), some (.int hi), some (.int st), some (.int v')] [] (fmI M 1 3 x) Q) → pvEv Tx 2 qX7_takeNumber 8 [some (.ref 1), some (.int lo), some (.int hi), some (.int st), some (.int v)] [] M Q := by
  intro m
  induction m using Nat.strongRecOn with
  | _ m ih =>
    intro M q v w hS hm hv hq
    refine pv_aloadn (pc := 8) (n := 0) 0 rfl rfl (fm_dec dtX7_takeNumber 5 rfl) ?_
    refine pv_getI (k := 1) (j := 3) (ci := 7) (pc := 9) pfl_X7_25 (by decide) rfl (by decide) (fm_dec dtX7_takeNumber 6 rfl) ?_
    refine pv_aloadn (pc := 12) (n := 0) 0 rfl rfl (fm_dec dtX7_takeNumber 7 rfl) ?_
    refine pv_getI (k := 1) (j := 2) (ci := 7) (pc := 13) pfl_X7_22 (by decide) rfl (by decide) (fm_dec dtX7_takeNumber 8 rfl) ?_
    refine pv_icmp_ge (pc := 16) 85 (by decide) (fm_dec dtX7_takeNumber 9 rfl) (fun hc16 => ?_) (fun hc16 => ?_)
    · have hD : tD (tx q) = false := (by have e9 := hS.ge hc16; subst e9; rw [hS.2.2.2.1.2.1 q (Nat.le_refl _)]; exact tD_1)
      have h9 := hq (M.1 1 3) v (by rw [hS.2.1, sp_f hD]) (by rw [nu_f hD]; exact hv)
      rw [fmI_id] at h9
      exact h9
    · refine pv_aloadn (pc := 19) (n := 0) 0 rfl rfl (fm_dec dtX7_takeNumber 10 rfl) ?_
      refine pv_getR (k := 1) (j := 0) (ci := 7) (pc := 20) 2 rfl (by decide) pfl_X7_9 (by decide) rfl (by decide) (fm_dec dtX7_takeNumber 11 rfl) ?_
      refine pv_aloadn (pc := 23) (n := 0) 0 rfl rfl (fm_dec dtX7_takeNumber 12 rfl) ?_
      refine pv_getI (k := 1) (j := 3) (ci := 7) (pc := 24) pfl_X7_25 (by decide) rfl (by decide) (fm_dec dtX7_takeNumber 13 rfl) ?_
      refine pv_bald (k := 2) (n := 600) (pc := 27) (by decide) rfl rfl (hS.inb (hS.lt hc16)) (fm_dec dtX7_takeNumber 14 rfl) ?_
      refine pv_bipush (pc := 28) (v := 48) (by decide) (fm_dec dtX7_takeNumber 15 rfl) ?_
      refine pv_icmp_lt (pc := 30) 85 (by decide) (fm_dec dtX7_takeNumber 16 rfl) (fun hc30 => ?_) (fun hc30 => ?_)
      · have hD : tD (tx q) = false := (by have hb := hS.byte (hS.lt hc16); rw [hb.1.D hb.2.2]; exact tD_f (Or.inl hc30))
        have h9 := hq (M.1 1 3) v (by rw [hS.2.1, sp_f hD]) (by rw [nu_f hD]; exact hv)
        rw [fmI_id] at h9
        exact h9
      · refine pv_aloadn (pc := 33) (n := 0) 0 rfl rfl (fm_dec dtX7_takeNumber 17 rfl) ?_
        refine pv_getR (k := 1) (j := 0) (ci := 7) (pc := 34) 2 rfl (by decide) pfl_X7_9 (by decide) rfl (by decide) (fm_dec dtX7_takeNumber 18 rfl) ?_
        refine pv_aloadn (pc := 37) (n := 0) 0 rfl rfl (fm_dec dtX7_takeNumber 19 rfl) ?_
        refine pv_getI (k := 1) (j := 3) (ci := 7) (pc := 38) pfl_X7_25 (by decide) rfl (by decide) (fm_dec dtX7_takeNumber 20 rfl) ?_
        refine pv_bald (k := 2) (n := 600) (pc := 41) (by decide) rfl rfl (hS.inb (hS.lt hc16)) (fm_dec dtX7_takeNumber 21 rfl) ?_
        refine pv_bipush (pc := 42) (v := 57) (by decide) (fm_dec dtX7_takeNumber 22 rfl) ?_
        refine pv_icmp_gt (pc := 44) 85 (by decide) (fm_dec dtX7_takeNumber 23 rfl) (fun hc44 => ?_) (fun hc44 => ?_)
        · have hD : tD (tx q) = false := (by have hb := hS.byte (hS.lt hc16); rw [hb.1.D hb.2.2]; exact tD_f (Or.inr hc44))
          have h9 := hq (M.1 1 3) v (by rw [hS.2.1, sp_f hD]) (by rw [nu_f hD]; exact hv)
          rw [fmI_id] at h9
          exact h9
        · refine pv_ldc (pc := 47) pkc_X7_42 (fm_dec dtX7_takeNumber 24 rfl) ?_
          refine pv_iload (pc := 49) (i := 4) rfl (fm_dec dtX7_takeNumber 25 rfl) ?_
          refine pv_bipush (pc := 51) (v := 10) (by decide) (fm_dec dtX7_takeNumber 26 rfl) ?_
          refine pv_imul (pc := 53) (fm_dec dtX7_takeNumber 27 rfl) ?_
          refine pv_aloadn (pc := 54) (n := 0) 0 rfl rfl (fm_dec dtX7_takeNumber 28 rfl) ?_
          refine pv_getR (k := 1) (j := 0) (ci := 7) (pc := 55) 2 rfl (by decide) pfl_X7_9 (by decide) rfl (by decide) (fm_dec dtX7_takeNumber 29 rfl) ?_
          refine pv_aloadn (pc := 58) (n := 0) 0 rfl rfl (fm_dec dtX7_takeNumber 30 rfl) ?_
          refine pv_getI (k := 1) (j := 3) (ci := 7) (pc := 59) pfl_X7_25 (by decide) rfl (by decide) (fm_dec dtX7_takeNumber 31 rfl) ?_
          refine pv_bald (k := 2) (n := 600) (pc := 62) (by decide) rfl rfl (hS.inb (hS.lt hc16)) (fm_dec dtX7_takeNumber 32 rfl) ?_
          refine pv_iadd (pc := 63) (fm_dec dtX7_takeNumber 33 rfl) ?_
          refine pv_bipush (pc := 64) (v := 48) (by decide) (fm_dec dtX7_takeNumber 34 rfl) ?_
          refine pv_isub (pc := 66) (fm_dec dtX7_takeNumber 35 rfl) ?_
          refine pv_mm (pc := 67) pmm_X7_43 (by decide) (Nat.le_of_ble_eq_true rfl) (fm_dec dtX7_takeNumber 36 rfl) ?_
          refine pv_istore (pc := 70) (i := 4) (by decide) rfl (fm_dec dtX7_takeNumber 37 rfl) ?_
          dsimp only [List.set_cons_zero, List.set_cons_succ]
          refine pv_aloadn (pc := 72) (n := 0) 0 rfl rfl (fm_dec dtX7_takeNumber 38 rfl) ?_
          refine pv_dup (pc := 73) rfl (fm_dec dtX7_takeNumber 39 rfl) ?_
          refine pv_getI (k := 1) (j := 3) (ci := 7) (pc := 74) pfl_X7_25 (by decide) rfl (by decide) (fm_dec dtX7_takeNumber 40 rfl) ?_
          refine pv_iconst (pc := 77) (v := 1) (by decide) (fm_dec dtX7_takeNumber 41 rfl) ?_
          refine pv_iadd (pc := 78) (fm_dec dtX7_takeNumber 42 rfl) ?_
          refine pv_putI (k := 1) (j := 3) (ci := 7) (pc := 79) pfl_X7_25 (by decide) rfl (by decide) (fm_dec dtX7_takeNumber 43 rfl) ?_
          refine pv_goto (pc := 82) 8 (by decide) (fm_dec dtX7_takeNumber 44 rfl) ?_
          have hp := hS.lt hc16
          have hb := hS.byte hp
          have hD : tD (tx q) = true := (by rw [hb.1.D hb.2.2]; exact tD_t hc30 hc44)
          have h700 : q < 700 := (by have := hS.2.2.2.1.1; omega)
          refine ih (n - (q + 1)) (by omega) _ (q + 1) _ (10 * w + (tx q - 48).toNat) (hS.set (i32_p1 hS.2.1 (by omega)) hp) rfl (xnm hb.1 hb.2.2 hD hv) (fun x v' hx hv' => ?_)
          rw [fmI_fmI]
          exact hq x v' (by rw [sp_t h700 hD]; exact hx) (by rw [nu_t h700 hD]; exact hv')
theorem dg1 {tx : tX} {q : Nat} {x y : Int32} (hx : x.toInt = sp tD tx q) (hy : y.toInt = q) (h : ¬ x = y) (_ : True) : tD (tx q) = true := by
  cases h9 : tD (tx q) with
  | true => rfl
  | false =>
    rw [sp_f h9] at hx
    exact absurd (i32_ext (hx.trans hy.symm)) h
theorem dg0 {M : fmM} {tx : tX} {n p q : Nat} {x y : Int32} (hx : x.toInt = sp tD tx q) (hy : y.toInt = q) (h : x = y) (hS : xS2 M tx n p) (hq : q < 700) : tD (tx q) = false := by
  cases h9 : tD (tx q) with
  | false => rfl
  | true =>
    have h8 := sp_gt hq h9
    rw [h, hy] at hx
    omega
set_option maxRecDepth 20000 in
theorem x_num {M : fmM} {Q : fmR → fmM → Prop} {tx : tX} {n p : Nat} {lo hi : Int32} (h9hi : hi.toInt < 1000000) (hS : xS2 M tx n p) (hf : M.1 1 4 = 0) (hI : scInv Tx invX M) (hok : ∀ (M' : fmM) (v q : Nat) (w : Int32), spNum tx lo.toInt hi.toInt p = .inr (v, q) → w.toInt = v → xdOk M M' tx n q → Q (.inl (some (.int w))) M') (hbad : ∀ (M' : fmM) (k a : Nat), spNum tx lo.toInt hi.toInt p = .inl (k, a) → xdBad M M' k a → Q (.inl (some (.int (-1)))) M') : pvGood Tx 2 qX7_takeNumber [.ref 1, .int lo, .int hi] M Q := by
  refine pvGood_of (Nat.le_of_ble_eq_true rfl) ?_
  show pvEv Tx 2 qX7_takeNumber 0 [some (.ref 1), some (.int lo), some (.int hi), none, none] [] M Q
  refine pv_aloadn (pc := 0) (n := 0) 0 rfl rfl (fm_dec dtX7_takeNumber 0 rfl) ?_
  refine pv_invV0 (k := 1) (d' := 1) (pc := 1) pcv_X7_39 (by decide) rfl (Nat.le_of_ble_eq_true rfl) (by decide) (fm_dec dtX7_takeNumber 1 rfl) ?_
  refine c_xnext hS (fun x1 hx1 => ?_)
  refine pv_then1 ?_
  refine pv_istoren (pc := 4) (n := 3) 3 rfl (by decide) rfl (fm_dec dtX7_takeNumber 2 rfl) ?_
  dsimp only [List.set_cons_zero, List.set_cons_succ]
  refine pv_iconst (pc := 5) (v := 0) (by decide) (fm_dec dtX7_takeNumber 3 rfl) ?_
  refine pv_istore (pc := 6) (i := 4) (by decide) rfl (fm_dec dtX7_takeNumber 4 rfl) ?_
  dsimp only [List.set_cons_zero, List.set_cons_succ]
  have hsk : sk tx p ≤ n := (sp_le tB_1 hS.2.2.2.1 hS.2.2.1)
  have hsd : sp tD tx (sk tx p) ≤ n := sp_le tD_1 hS.2.2.2.1 hsk
  have h700 : sk tx p < 700 := (by have := hS.2.2.2.1.1; omega)
  refine xn_loop _ _ (sk tx p) _ 0 (hS.bl hx1) rfl (by decide) (fun x85 w85 hx85 hw85 => ?_)
  rw [fmI_fmI]
  refine pv_aloadn (pc := 85) (n := 0) 0 rfl rfl (fm_dec dtX7_takeNumber 45 rfl) ?_
  refine pv_getI (k := 1) (j := 3) (ci := 7) (pc := 86) pfl_X7_25 (by decide) rfl (by decide) (fm_dec dtX7_takeNumber 46 rfl) ?_
  refine pv_iloadn (pc := 89) (n := 3) 3 rfl rfl (fm_dec dtX7_takeNumber 47 rfl) ?_
  refine pv_icmp_ne (pc := 90) 102 (by decide) (fm_dec dtX7_takeNumber 48 rfl) (fun hc90 => ?_) (fun hc90 => ?_)
  · refine pv_iload (pc := 102) (i := 4) rfl (fm_dec dtX7_takeNumber 56 rfl) ?_
    refine pv_iloadn (pc := 104) (n := 1) 1 rfl rfl (fm_dec dtX7_takeNumber 57 rfl) ?_
    refine pv_icmp_lt (pc := 105) 114 (by decide) (fm_dec dtX7_takeNumber 58 rfl) (fun hc105 => ?_) (fun hc105 => ?_)
    · refine pv_aloadn (pc := 114) (n := 0) 0 rfl rfl (fm_dec dtX7_takeNumber 62 rfl) ?_
      refine pv_iconst (pc := 115) (v := 2) (by decide) (fm_dec dtX7_takeNumber 63 rfl) ?_
      refine pv_iloadn (pc := 116) (n := 3) 3 rfl rfl (fm_dec dtX7_takeNumber 64 rfl) ?_
      refine pv_invV2 (k := 1) (d' := 0) (pc := 117) pcv_X7_35 (by decide) rfl (Nat.le_of_ble_eq_true rfl) (by decide) (fm_dec dtX7_takeNumber 65 rfl) ?_
      refine c_xfail0 hf ?_
      refine pv_then1 ?_
      refine pv_pop (pc := 120) rfl (fm_dec dtX7_takeNumber 66 rfl) ?_
      refine pv_iconst (pc := 121) (v := (-1)) (by decide) (fm_dec dtX7_takeNumber 67 rfl) ?_
      exact pv_ireturn (pc := 122) rfl (fm_dec dtX7_takeNumber 68 rfl) (hbad _ 2 (sk tx p) (spNum_n (dg1 hx85 hx1 hc90 trivial) (by intro h9; rw [sc_lt] at hc105; omega)) (xdBad.at hS hI hx85 hsd (by decide) (by decide) (by decide) hx1 hsk))
    · refine pv_iload (pc := 108) (i := 4) rfl (fm_dec dtX7_takeNumber 59 rfl) ?_
      refine pv_iloadn (pc := 110) (n := 2) 2 rfl rfl (fm_dec dtX7_takeNumber 60 rfl) ?_
      refine pv_icmp_le (pc := 111) 123 (by decide) (fm_dec dtX7_takeNumber 61 rfl) (fun hc111 => ?_) (fun hc111 => ?_)
      · refine pv_iload (pc := 123) (i := 4) rfl (fm_dec dtX7_takeNumber 69 rfl) ?_
        exact pv_ireturn (pc := 125) rfl (fm_dec dtX7_takeNumber 70 rfl) (hok _ (nu tx (sk tx p) 0) (sp tD tx (sk tx p)) w85 (spNum_y (dg1 hx85 hx1 hc90 trivial) (by rw [sc_lt] at hc105; omega) (by rw [sc_le] at hc111; omega)) (by rw [sc_le] at hc111; omega) (xdOk.at hS hf hI hx85 hsd))
      · refine pv_aloadn (pc := 114) (n := 0) 0 rfl rfl (fm_dec dtX7_takeNumber 62 rfl) ?_
        refine pv_iconst (pc := 115) (v := 2) (by decide) (fm_dec dtX7_takeNumber 63 rfl) ?_
        refine pv_iloadn (pc := 116) (n := 3) 3 rfl rfl (fm_dec dtX7_takeNumber 64 rfl) ?_
        refine pv_invV2 (k := 1) (d' := 0) (pc := 117) pcv_X7_35 (by decide) rfl (Nat.le_of_ble_eq_true rfl) (by decide) (fm_dec dtX7_takeNumber 65 rfl) ?_
        refine c_xfail0 hf ?_
        refine pv_then1 ?_
        refine pv_pop (pc := 120) rfl (fm_dec dtX7_takeNumber 66 rfl) ?_
        refine pv_iconst (pc := 121) (v := (-1)) (by decide) (fm_dec dtX7_takeNumber 67 rfl) ?_
        exact pv_ireturn (pc := 122) rfl (fm_dec dtX7_takeNumber 68 rfl) (hbad _ 2 (sk tx p) (spNum_n (dg1 hx85 hx1 hc90 trivial) (by intro h9; rw [sc_le] at hc111; omega)) (xdBad.at hS hI hx85 hsd (by decide) (by decide) (by decide) hx1 hsk))
  · refine pv_aloadn (pc := 93) (n := 0) 0 rfl rfl (fm_dec dtX7_takeNumber 49 rfl) ?_
    refine pv_iconst (pc := 94) (v := 1) (by decide) (fm_dec dtX7_takeNumber 50 rfl) ?_
    refine pv_iloadn (pc := 95) (n := 3) 3 rfl rfl (fm_dec dtX7_takeNumber 51 rfl) ?_
    refine pv_invV2 (k := 1) (d' := 0) (pc := 96) pcv_X7_35 (by decide) rfl (Nat.le_of_ble_eq_true rfl) (by decide) (fm_dec dtX7_takeNumber 52 rfl) ?_
    refine c_xfail0 hf ?_
    refine pv_then1 ?_
    refine pv_pop (pc := 99) rfl (fm_dec dtX7_takeNumber 53 rfl) ?_
    refine pv_iconst (pc := 100) (v := (-1)) (by decide) (fm_dec dtX7_takeNumber 54 rfl) ?_
    exact pv_ireturn (pc := 101) rfl (fm_dec dtX7_takeNumber 55 rfl) (hbad _ 1 (sk tx p) (spNum_0 (dg0 hx85 hx1 hc90 hS h700)) (xdBad.at hS hI hx85 hsd (by decide) (by decide) (by decide) hx1 hsk))
def chs (i5 : Nat) : List Int := (List.range (fmLen.getD i5 0)).map (fun k => (chE i5 k).toInt)
def fdR (r : Option Nat) : Int32 := match r with
  | some j => nI j
  | none => -1
theorem chs_dr {i5 i : Nat} (h : i < fmLen.getD i5 0) : (chs i5).drop i = (chE i5 i).toInt :: (chs i5).drop (i + 1) := by
  have hl : i < (chs i5).length := by
    unfold chs
    simpa using h
  rw [List.drop_eq_getElem_cons hl]
  congr 1
  unfold chs
  simp
theorem chs_end {i5 i : Nat} (h : fmLen.getD i5 0 ≤ i) : (chs i5).drop i = [] := by
  apply List.drop_eq_nil_of_le
  unfold chs
  simpa using h
theorem ch_lt : ∀ i5, i5 < 5 → ∀ k, k < fmLen.getD i5 0 → 0 ≤ (chE i5 k).toInt ∧ (chE i5 k).toInt < 128 := by decide +kernel
set_option maxRecDepth 20000 in
theorem fd_loop {Q : fmR → fmM → Prop} {tx : tX} {n i5 sN eN : Nat} {M : fmM} {s e : Int32} (hi : i5 < 5) (hn : n ≤ 600) (hs : s.toInt = (sN : Int)) (he : e.toInt = (eN : Int)) (hen : eN ≤ n) (hse : sN ≤ eN) (hB : ∀ j, j < n → bt (M.1 2 j) (tx j) ∧ tx j ≤ 255) : ∀ (m : Nat) (i wN aN : Nat) (bb : Bool) (w a b : Int32) (v8 : Option Value), fmLen.getD i5 0 - i = m → i ≤ fmLen.getD i5 0 → w.toInt = (wN : Int) → a.toInt = (aN : Int) → b = (if bb = true then 1 else 0) → aN ≤ 600 + i → wN ≤ i → Q (.inl (some (.int (fdR (fndF tx sN eN ((chs i5).drop i) wN aN bb))))) M → pvEv Tx 4 qX7_find 12 [some (.ref 1), some (.ref (1000 + i5)), some (.int s), some (.int e), some (.int w), some (.int a), some (.int b), some (.int (nI i)), v8] [] M Q := by
  intro m
  induction m using Nat.strongRecOn with
  | _ m ih =>
    intro i wN aN bb w a b v8 hm hil0 hw ha hb ha7 hw7 hq
    refine pv_iload (pc := 12) (i := 7) rfl (fm_dec dtX7_find 8 rfl) ?_
    refine pv_aloadn (pc := 14) (n := 1) 1 rfl rfl (fm_dec dtX7_find 9 rfl) ?_
    refine pv_strlen (i := i5) (pc := 15) pcq_X7_53 hi (by decide) (Nat.le_of_ble_eq_true rfl) (fm_dec dtX7_find 10 rfl) ?_
    refine pv_icmp_ge (pc := 18) 101 (by decide) (fm_dec dtX7_find 11 rfl) (fun hc18 => ?_) (fun hc18 => ?_)
    · refine pv_iconst (pc := 101) (v := (-1)) (by decide) (fm_dec dtX7_find 50 rfl) ?_
      exact pv_ireturn (pc := 102) rfl (fm_dec dtX7_find 51 rfl) (by have hl64 := fmLen_lt i5 hi; have h9 := hq; rw [chs_end (by rw [sc_le] at hc18; have h9 : (nI (fmLen.getD i5 0)).toInt = ((fmLen.getD i5 0 : Nat) : Int) := nI_toInt (by omega); have h8 : (nI i).toInt = (i : Int) := nI_toInt (by omega); omega)] at h9; exact h9)
    · have hl64 := fmLen_lt i5 hi
      have hil : i < fmLen.getD i5 0 := (by rw [sc_le] at hc18; have h9 : (nI (fmLen.getD i5 0)).toInt = ((fmLen.getD i5 0 : Nat) : Int) := nI_toInt (by omega); have h8 : (nI i).toInt = (i : Int) := nI_toInt (by omega); omega)
      have hii : (nI i).toNatClampNeg = i := i32_cl (nI_toInt (by omega))
      refine pv_aloadn (pc := 21) (n := 1) 1 rfl rfl (fm_dec dtX7_find 12 rfl) ?_
      refine pv_iload (pc := 22) (i := 7) rfl (fm_dec dtX7_find 13 rfl) ?_
      refine pv_charAt (i := i5) (pc := 24) pcq_X7_57 hi (by have hl64 := fmLen_lt i5 hi; have h8 : (nI i).toInt = (i : Int) := nI_toInt (by omega); omega) (by have hl64 := fmLen_lt i5 hi; have h8 : (nI i).toInt = (i : Int) := nI_toInt (by omega); have h9 : (nI (fmLen.getD i5 0)).toInt = ((fmLen.getD i5 0 : Nat) : Int) := nI_toInt (by omega); rw [sc_le] at hc18; omega) (by decide) (Nat.le_of_ble_eq_true rfl) (fm_dec dtX7_find 14 rfl) ?_
      refine pv_istore (pc := 27) (i := 8) (by decide) rfl (fm_dec dtX7_find 15 rfl) ?_
      dsimp only [List.set_cons_zero, List.set_cons_succ]
      refine pv_iload (pc := 29) (i := 8) rfl (fm_dec dtX7_find 16 rfl) ?_
      refine pv_bipush (pc := 31) (v := 32) (by decide) (fm_dec dtX7_find 17 rfl) ?_
      refine pv_icmp_eq (pc := 33) 72 (by decide) (fm_dec dtX7_find 18 rfl) (fun hc33 => ?_) (fun hc33 => ?_)
      · refine pv_iload (pc := 72) (i := 6) rfl (fm_dec dtX7_find 36 rfl) ?_
        refine pv_if_eq (pc := 74) 86 (by decide) (fm_dec dtX7_find 37 rfl) (fun hc74 => ?_) (fun hc74 => ?_)
        · refine pv_iincc (pc := 86) 4 1 (by decide) rfl (by decide) rfl (fm_dec dtX7_find 43 rfl) ?_
          dsimp only [List.set_cons_zero, List.set_cons_succ]
          refine pv_iloadn (pc := 89) (n := 2) 2 rfl rfl (fm_dec dtX7_find 44 rfl) ?_
          refine pv_istore (pc := 90) (i := 5) (by decide) rfl (fm_dec dtX7_find 45 rfl) ?_
          dsimp only [List.set_cons_zero, List.set_cons_succ]
          refine pv_iconst (pc := 92) (v := 1) (by decide) (fm_dec dtX7_find 46 rfl) ?_
          refine pv_istore (pc := 93) (i := 6) (by decide) rfl (fm_dec dtX7_find 47 rfl) ?_
          dsimp only [List.set_cons_zero, List.set_cons_succ]
          refine pv_iincc (pc := 95) 7 1 (by decide) rfl (by decide) rfl (fm_dec dtX7_find 48 rfl) ?_
          dsimp only [List.set_cons_zero, List.set_cons_succ]
          refine pv_goto (pc := 98) 12 (by decide) (fm_dec dtX7_find 49 rfl) ?_
          have hb0 : bb = false := (by cases bb with | false => rfl | true => exact absurd (hb.symm.trans hc74) (by decide))
          have eF : fndF tx sN eN ((chs i5).drop i) wN aN bb = fndF tx sN eN ((chs i5).drop (i + 1)) (wN + 1) sN true := (by rw [chs_dr hil]; show (if (chE i5 i).toInt = 32 then (if (bb && decide (aN = eN)) = true then some wN else fndF tx sN eN ((chs i5).drop (i + 1)) (wN + 1) sN true) else _) = _; rw [if_pos (by rw [hii] at hc33; rw [hc33]; decide), if_neg (by rw [hb0]; simp)])
          rw [nI_succ1]
          exact ih (fmLen.getD i5 0 - (i + 1)) (by omega) (i + 1) (wN + 1) sN true _ _ _ _ rfl (by omega) (i32_p1 hw (by omega)) hs rfl (by omega) (by omega) (by rw [← eF]; exact hq)
        · refine pv_iload (pc := 77) (i := 5) rfl (fm_dec dtX7_find 38 rfl) ?_
          refine pv_iloadn (pc := 79) (n := 3) 3 rfl rfl (fm_dec dtX7_find 39 rfl) ?_
          refine pv_icmp_ne (pc := 80) 86 (by decide) (fm_dec dtX7_find 40 rfl) (fun hc80 => ?_) (fun hc80 => ?_)
          · refine pv_iincc (pc := 86) 4 1 (by decide) rfl (by decide) rfl (fm_dec dtX7_find 43 rfl) ?_
            dsimp only [List.set_cons_zero, List.set_cons_succ]
            refine pv_iloadn (pc := 89) (n := 2) 2 rfl rfl (fm_dec dtX7_find 44 rfl) ?_
            refine pv_istore (pc := 90) (i := 5) (by decide) rfl (fm_dec dtX7_find 45 rfl) ?_
            dsimp only [List.set_cons_zero, List.set_cons_succ]
            refine pv_iconst (pc := 92) (v := 1) (by decide) (fm_dec dtX7_find 46 rfl) ?_
            refine pv_istore (pc := 93) (i := 6) (by decide) rfl (fm_dec dtX7_find 47 rfl) ?_
            dsimp only [List.set_cons_zero, List.set_cons_succ]
            refine pv_iincc (pc := 95) 7 1 (by decide) rfl (by decide) rfl (fm_dec dtX7_find 48 rfl) ?_
            dsimp only [List.set_cons_zero, List.set_cons_succ]
            refine pv_goto (pc := 98) 12 (by decide) (fm_dec dtX7_find 49 rfl) ?_
            have eF : fndF tx sN eN ((chs i5).drop i) wN aN bb = fndF tx sN eN ((chs i5).drop (i + 1)) (wN + 1) sN true := (by rw [chs_dr hil]; show (if (chE i5 i).toInt = 32 then (if (bb && decide (aN = eN)) = true then some wN else fndF tx sN eN ((chs i5).drop (i + 1)) (wN + 1) sN true) else _) = _; rw [if_pos (by rw [hii] at hc33; rw [hc33]; decide), if_neg (by intro h9; rw [Bool.and_eq_true] at h9; exact hc80 (i32_ext (ha.trans ((congrArg Nat.cast (of_decide_eq_true h9.2)).trans he.symm))))])
            rw [nI_succ1]
            exact ih (fmLen.getD i5 0 - (i + 1)) (by omega) (i + 1) (wN + 1) sN true _ _ _ _ rfl (by omega) (i32_p1 hw (by omega)) hs rfl (by omega) (by omega) (by rw [← eF]; exact hq)
          · refine pv_iload (pc := 83) (i := 4) rfl (fm_dec dtX7_find 41 rfl) ?_
            exact pv_ireturn (pc := 85) rfl (fm_dec dtX7_find 42 rfl) (by have hb1 : bb = true := (by cases bb with | true => rfl | false => exact absurd hb hc74); have e1 : aN = eN := (by have h9 := congrArg Int32.toInt hc80; omega); have h9 := hq; rw [chs_dr hil] at h9; have e9 : fndF tx sN eN ((chE i5 i).toInt :: (chs i5).drop (i + 1)) wN aN bb = some wN := (by show (if (chE i5 i).toInt = 32 then (if (bb && decide (aN = eN)) = true then some wN else _) else _) = _; rw [if_pos (by rw [hii] at hc33; rw [hc33]; decide), if_pos (by rw [hb1, e1]; simp)]); rw [e9] at h9; rw [nI_is hw (by omega)]; exact h9)
      · refine pv_iload (pc := 36) (i := 6) rfl (fm_dec dtX7_find 19 rfl) ?_
        refine pv_if_eq (pc := 38) 63 (by decide) (fm_dec dtX7_find 20 rfl) (fun hc38 => ?_) (fun hc38 => ?_)
        · refine pv_iconst (pc := 63) (v := 0) (by decide) (fm_dec dtX7_find 32 rfl) ?_
          refine pv_istore (pc := 64) (i := 6) (by decide) rfl (fm_dec dtX7_find 33 rfl) ?_
          dsimp only [List.set_cons_zero, List.set_cons_succ]
          refine pv_iincc (pc := 66) 5 1 (by decide) rfl (by decide) rfl (fm_dec dtX7_find 34 rfl) ?_
          dsimp only [List.set_cons_zero, List.set_cons_succ]
          refine pv_goto (pc := 69) 95 (by decide) (fm_dec dtX7_find 35 rfl) ?_
          refine pv_iincc (pc := 95) 7 1 (by decide) rfl (by decide) rfl (fm_dec dtX7_find 48 rfl) ?_
          dsimp only [List.set_cons_zero, List.set_cons_succ]
          refine pv_goto (pc := 98) 12 (by decide) (fm_dec dtX7_find 49 rfl) ?_
          have hb0 : bb = false := (by cases bb with | false => rfl | true => exact absurd (hb.symm.trans hc38) (by decide))
          have eF : fndF tx sN eN ((chs i5).drop i) wN aN bb = fndF tx sN eN ((chs i5).drop (i + 1)) wN (aN + 1) false := (by rw [chs_dr hil]; show (if (chE i5 i).toInt = 32 then _ else fndF tx sN eN ((chs i5).drop (i + 1)) wN (aN + 1) (bb && decide (aN < eN) && decide (tx aN = (chE i5 i).toInt))) = _; rw [if_neg (fun h9 => hc33 (by rw [hii]; exact i32_ext (h9.trans (by decide))))]; congr 1; rw [hb0]; rfl)
          rw [nI_succ1]
          exact ih (fmLen.getD i5 0 - (i + 1)) (by omega) (i + 1) wN (aN + 1) false _ _ _ _ rfl (by omega) hw (i32_p1 ha (by omega)) rfl (by omega) (by omega) (by rw [← eF]; exact hq)
        · refine pv_iload (pc := 41) (i := 5) rfl (fm_dec dtX7_find 21 rfl) ?_
          refine pv_iloadn (pc := 43) (n := 3) 3 rfl rfl (fm_dec dtX7_find 22 rfl) ?_
          refine pv_icmp_ge (pc := 44) 63 (by decide) (fm_dec dtX7_find 23 rfl) (fun hc44 => ?_) (fun hc44 => ?_)
          · refine pv_iconst (pc := 63) (v := 0) (by decide) (fm_dec dtX7_find 32 rfl) ?_
            refine pv_istore (pc := 64) (i := 6) (by decide) rfl (fm_dec dtX7_find 33 rfl) ?_
            dsimp only [List.set_cons_zero, List.set_cons_succ]
            refine pv_iincc (pc := 66) 5 1 (by decide) rfl (by decide) rfl (fm_dec dtX7_find 34 rfl) ?_
            dsimp only [List.set_cons_zero, List.set_cons_succ]
            refine pv_goto (pc := 69) 95 (by decide) (fm_dec dtX7_find 35 rfl) ?_
            refine pv_iincc (pc := 95) 7 1 (by decide) rfl (by decide) rfl (fm_dec dtX7_find 48 rfl) ?_
            dsimp only [List.set_cons_zero, List.set_cons_succ]
            refine pv_goto (pc := 98) 12 (by decide) (fm_dec dtX7_find 49 rfl) ?_
            have eF : fndF tx sN eN ((chs i5).drop i) wN aN bb = fndF tx sN eN ((chs i5).drop (i + 1)) wN (aN + 1) false := (by rw [chs_dr hil]; show (if (chE i5 i).toInt = 32 then _ else fndF tx sN eN ((chs i5).drop (i + 1)) wN (aN + 1) (bb && decide (aN < eN) && decide (tx aN = (chE i5 i).toInt))) = _; rw [if_neg (fun h9 => hc33 (by rw [hii]; exact i32_ext (h9.trans (by decide))))]; congr 1; rw [decide_eq_false (show ¬ aN < eN by rw [sc_le] at hc44; omega), Bool.and_false, Bool.false_and])
            rw [nI_succ1]
            exact ih (fmLen.getD i5 0 - (i + 1)) (by omega) (i + 1) wN (aN + 1) false _ _ _ _ rfl (by omega) hw (i32_p1 ha (by omega)) rfl (by omega) (by omega) (by rw [← eF]; exact hq)
          · refine pv_aloadn (pc := 47) (n := 0) 0 rfl rfl (fm_dec dtX7_find 24 rfl) ?_
            refine pv_getR (k := 1) (j := 0) (ci := 7) (pc := 48) 2 rfl (by decide) pfl_X7_9 (by decide) rfl (by decide) (fm_dec dtX7_find 25 rfl) ?_
            refine pv_iload (pc := 51) (i := 5) rfl (fm_dec dtX7_find 26 rfl) ?_
            refine pv_bald (k := 2) (n := 600) (pc := 53) (by decide) rfl rfl (ix_in ha (by rw [sc_le] at hc44; omega)) (fm_dec dtX7_find 27 rfl) ?_
            have haE : aN < eN := (by rw [sc_le] at hc44; omega)
            have hbb := hB aN (by omega)
            have hcl := ch_lt i5 hi i hil
            have hcc : (nI i).toNatClampNeg = i := hii
            have byE : M.1 2 a.toNatClampNeg = chE i5 (nI i).toNatClampNeg ↔ tx aN = (chE i5 i).toInt := (by rw [hcc, i32_cl ha, ← hbb.1.eq hbb.2 hcl.1 hcl.2]; exact ⟨fun h9 => by rw [h9], fun h9 => i32_ext h9⟩)
            refine pv_iload (pc := 54) (i := 8) rfl (fm_dec dtX7_find 28 rfl) ?_
            refine pv_icmp_ne (pc := 56) 63 (by decide) (fm_dec dtX7_find 29 rfl) (fun hc56 => ?_) (fun hc56 => ?_)
            · refine pv_iconst (pc := 63) (v := 0) (by decide) (fm_dec dtX7_find 32 rfl) ?_
              refine pv_istore (pc := 64) (i := 6) (by decide) rfl (fm_dec dtX7_find 33 rfl) ?_
              dsimp only [List.set_cons_zero, List.set_cons_succ]
              refine pv_iincc (pc := 66) 5 1 (by decide) rfl (by decide) rfl (fm_dec dtX7_find 34 rfl) ?_
              dsimp only [List.set_cons_zero, List.set_cons_succ]
              refine pv_goto (pc := 69) 95 (by decide) (fm_dec dtX7_find 35 rfl) ?_
              refine pv_iincc (pc := 95) 7 1 (by decide) rfl (by decide) rfl (fm_dec dtX7_find 48 rfl) ?_
              dsimp only [List.set_cons_zero, List.set_cons_succ]
              refine pv_goto (pc := 98) 12 (by decide) (fm_dec dtX7_find 49 rfl) ?_
              have eF : fndF tx sN eN ((chs i5).drop i) wN aN bb = fndF tx sN eN ((chs i5).drop (i + 1)) wN (aN + 1) false := (by rw [chs_dr hil]; show (if (chE i5 i).toInt = 32 then _ else fndF tx sN eN ((chs i5).drop (i + 1)) wN (aN + 1) (bb && decide (aN < eN) && decide (tx aN = (chE i5 i).toInt))) = _; rw [if_neg (fun h9 => hc33 (by rw [hii]; exact i32_ext (h9.trans (by decide))))]; congr 1; rw [decide_eq_false (fun h9 => hc56 (byE.mpr h9)), Bool.and_false])
              rw [nI_succ1]
              exact ih (fmLen.getD i5 0 - (i + 1)) (by omega) (i + 1) wN (aN + 1) false _ _ _ _ rfl (by omega) hw (i32_p1 ha (by omega)) rfl (by omega) (by omega) (by rw [← eF]; exact hq)
            · refine pv_iconst (pc := 59) (v := 1) (by decide) (fm_dec dtX7_find 30 rfl) ?_
              refine pv_goto (pc := 60) 64 (by decide) (fm_dec dtX7_find 31 rfl) ?_
              refine pv_istore (pc := 64) (i := 6) (by decide) rfl (fm_dec dtX7_find 33 rfl) ?_
              dsimp only [List.set_cons_zero, List.set_cons_succ]
              refine pv_iincc (pc := 66) 5 1 (by decide) rfl (by decide) rfl (fm_dec dtX7_find 34 rfl) ?_
              dsimp only [List.set_cons_zero, List.set_cons_succ]
              refine pv_goto (pc := 69) 95 (by decide) (fm_dec dtX7_find 35 rfl) ?_
              refine pv_iincc (pc := 95) 7 1 (by decide) rfl (by decide) rfl (fm_dec dtX7_find 48 rfl) ?_
              dsimp only [List.set_cons_zero, List.set_cons_succ]
              refine pv_goto (pc := 98) 12 (by decide) (fm_dec dtX7_find 49 rfl) ?_
              have hb1 : bb = true := (by cases bb with | true => rfl | false => exact absurd hb hc38)
              have eF : fndF tx sN eN ((chs i5).drop i) wN aN bb = fndF tx sN eN ((chs i5).drop (i + 1)) wN (aN + 1) true := (by rw [chs_dr hil]; show (if (chE i5 i).toInt = 32 then _ else fndF tx sN eN ((chs i5).drop (i + 1)) wN (aN + 1) (bb && decide (aN < eN) && decide (tx aN = (chE i5 i).toInt))) = _; rw [if_neg (fun h9 => hc33 (by rw [hii]; exact i32_ext (h9.trans (by decide))))]; congr 1; rw [hb1, decide_eq_true haE, decide_eq_true (byE.mp hc56)]; rfl)
              rw [nI_succ1]
              exact ih (fmLen.getD i5 0 - (i + 1)) (by omega) (i + 1) wN (aN + 1) true _ _ _ _ rfl (by omega) hw (i32_p1 ha (by omega)) rfl (by omega) (by omega) (by rw [← eF]; exact hq)
set_option maxRecDepth 20000 in
theorem c_xfind {M : fmM} {Q : fmR → fmM → Prop} {tx : tX} {n i5 sN eN : Nat} {s e : Int32} (hi : i5 < 5) (hn : n ≤ 600) (hs : s.toInt = (sN : Int)) (he : e.toInt = (eN : Int)) (hen : eN ≤ n) (hse : sN ≤ eN) (hB : ∀ j, j < n → bt (M.1 2 j) (tx j) ∧ tx j ≤ 255) (hq : Q (.inl (some (.int (fdR (fndF tx sN eN (chs i5) 0 sN true))))) M) : pvGood Tx 4 qX7_find [.ref 1, .ref (1000 + i5), .int s, .int e] M Q := by
  refine pvGood_of (Nat.le_of_ble_eq_true rfl) ?_
  show pvEv Tx 4 qX7_find 0 [some (.ref 1), some (.ref (1000 + i5)), some (.int s), some (.int e), none, none, none, none, none] [] M Q
  refine pv_iconst (pc := 0) (v := 0) (by decide) (fm_dec dtX7_find 0 rfl) ?_
  refine pv_istore (pc := 1) (i := 4) (by decide) rfl (fm_dec dtX7_find 1 rfl) ?_
  dsimp only [List.set_cons_zero, List.set_cons_succ]
  refine pv_iloadn (pc := 3) (n := 2) 2 rfl rfl (fm_dec dtX7_find 2 rfl) ?_
  refine pv_istore (pc := 4) (i := 5) (by decide) rfl (fm_dec dtX7_find 3 rfl) ?_
  dsimp only [List.set_cons_zero, List.set_cons_succ]
  refine pv_iconst (pc := 6) (v := 1) (by decide) (fm_dec dtX7_find 4 rfl) ?_
  refine pv_istore (pc := 7) (i := 6) (by decide) rfl (fm_dec dtX7_find 5 rfl) ?_
  dsimp only [List.set_cons_zero, List.set_cons_succ]
  refine pv_iconst (pc := 9) (v := 0) (by decide) (fm_dec dtX7_find 6 rfl) ?_
  refine pv_istore (pc := 10) (i := 7) (by decide) rfl (fm_dec dtX7_find 7 rfl) ?_
  dsimp only [List.set_cons_zero, List.set_cons_succ]
  exact fd_loop hi hn hs he hen hse hB _ 0 0 sN true _ _ _ _ rfl (Nat.zero_le _) (by decide) hs rfl (by omega) (by omega) hq
theorem wdI_lt {u : List Int} : ∀ (ws : List (List Int)) (k j : Nat), wdI ws u k = some j → k ≤ j ∧ j < k + ws.length
  | [], k, j, h => by cases h
  | w :: ws, k, j, h => by
    simp only [wdI] at h
    split at h
    · cases h
      exact ⟨Nat.le_refl _, by rw [List.length_cons]; omega⟩
    · have h9 := wdI_lt ws (k + 1) j h
      rw [List.length_cons]
      omega
set_option maxRecDepth 20000 in
theorem xw_loop {Q : fmR → fmM → Prop} {tx : tX} {n p i5 : Nat} {M : fmM} {s : Int32} (hS : xS2 M tx n p) : ∀ (m : Nat) (q : Nat) (e : Int32) (v4 : Option Value), e.toInt = (q : Int) → q ≤ n → n - q = m → (∀ (x : Int32) (v : Option Value), x.toInt = sp tW tx q → pvEv Tx 5 qX7_takeWord 43 [some (.ref 1), some (.ref (1000 + i5)), some (.int s), some (.int x), v] [] M Q) → pvEv Tx 5 qX7_takeWord 7 [some (.ref 1), some (.ref (1000 + i5)), some (.int s), some (.int e), v4] [] M Q := by
  intro m
  induction m using Nat.strongRecOn with
  | _ m ih =>
    intro q e v4 hE hqn0 hm hq
    refine pv_iloadn (pc := 7) (n := 3) 3 rfl rfl (fm_dec dtX7_takeWord 5 rfl) ?_
    refine pv_aloadn (pc := 8) (n := 0) 0 rfl rfl (fm_dec dtX7_takeWord 6 rfl) ?_
    refine pv_getI (k := 1) (j := 2) (ci := 7) (pc := 9) pfl_X7_22 (by decide) rfl (by decide) (fm_dec dtX7_takeWord 7 rfl) ?_
    refine pv_icmp_ge (pc := 12) 43 (by decide) (fm_dec dtX7_takeWord 8 rfl) (fun hc12 => ?_) (fun hc12 => ?_)
    · have hW : tW (tx q) = false := (by have h9 := hc12; rw [sc_le] at h9; have := hS.1; have e9 : q = n := (by omega); subst e9; rw [hS.2.2.2.1.2.1 q (Nat.le_refl _)]; exact tW_1)
      exact hq e _ (by rw [sp_f hW]; exact hE)
    · have hqn : q < n := (by have h9 := hc12; rw [sc_le] at h9; have := hS.1; omega)
      have hn6 := hS.2.2.2.1.1
      refine pv_aloadn (pc := 15) (n := 0) 0 rfl rfl (fm_dec dtX7_takeWord 9 rfl) ?_
      refine pv_getR (k := 1) (j := 0) (ci := 7) (pc := 16) 2 rfl (by decide) pfl_X7_9 (by decide) rfl (by decide) (fm_dec dtX7_takeWord 10 rfl) ?_
      refine pv_iloadn (pc := 19) (n := 3) 3 rfl rfl (fm_dec dtX7_takeWord 11 rfl) ?_
      refine pv_bald (k := 2) (n := 600) (pc := 20) (by decide) rfl rfl (ix_in hE (by omega)) (fm_dec dtX7_takeWord 12 rfl) ?_
      refine pv_bipush (pc := 21) (v := 97) (by decide) (fm_dec dtX7_takeWord 13 rfl) ?_
      refine pv_icmp_lt (pc := 23) 43 (by decide) (fm_dec dtX7_takeWord 14 rfl) (fun hc23 => ?_) (fun hc23 => ?_)
      · have hW : tW (tx q) = false := (by have hbb := hS.2.2.2.2 q hqn; have h255 := hS.2.2.2.1.2.2 q hqn; rw [hbb.W h255.2, ← i32_cl hE]; exact tW_f (Or.inl hc23))
        exact hq e _ (by rw [sp_f hW]; exact hE)
      · refine pv_aloadn (pc := 26) (n := 0) 0 rfl rfl (fm_dec dtX7_takeWord 15 rfl) ?_
        refine pv_getR (k := 1) (j := 0) (ci := 7) (pc := 27) 2 rfl (by decide) pfl_X7_9 (by decide) rfl (by decide) (fm_dec dtX7_takeWord 16 rfl) ?_
        refine pv_iloadn (pc := 30) (n := 3) 3 rfl rfl (fm_dec dtX7_takeWord 17 rfl) ?_
        refine pv_bald (k := 2) (n := 600) (pc := 31) (by decide) rfl rfl (ix_in hE (by omega)) (fm_dec dtX7_takeWord 18 rfl) ?_
        refine pv_bipush (pc := 32) (v := 122) (by decide) (fm_dec dtX7_takeWord 19 rfl) ?_
        refine pv_icmp_gt (pc := 34) 43 (by decide) (fm_dec dtX7_takeWord 20 rfl) (fun hc34 => ?_) (fun hc34 => ?_)
        · have hW : tW (tx q) = false := (by have hbb := hS.2.2.2.2 q hqn; have h255 := hS.2.2.2.1.2.2 q hqn; rw [hbb.W h255.2, ← i32_cl hE]; exact tW_f (Or.inr hc34))
          exact hq e _ (by rw [sp_f hW]; exact hE)
        · refine pv_iincc (pc := 37) 3 1 (by decide) rfl (by decide) rfl (fm_dec dtX7_takeWord 21 rfl) ?_
          dsimp only [List.set_cons_zero, List.set_cons_succ]
          refine pv_goto (pc := 40) 7 (by decide) (fm_dec dtX7_takeWord 22 rfl) ?_
          have hW : tW (tx q) = true := (by have hbb := hS.2.2.2.2 q hqn; have h255 := hS.2.2.2.1.2.2 q hqn; rw [hbb.W h255.2, ← i32_cl hE]; exact tW_t hc23 hc34)
          refine ih (n - (q + 1)) (by omega) (q + 1) _ _ (i32_p1 hE (by omega)) (by omega) rfl (fun x v hx => hq x v (by rw [sp_t (by omega) hW]; exact hx))
set_option maxRecDepth 20000 in
theorem x_word {M : fmM} {Q : fmR → fmM → Prop} {tx : tX} {n p i5 : Nat} {ws : List (List Int)} (hi : i5 < 5) (hch : chs i5 = flat1 ws) (hws : ∀ u ∈ ws, ∀ c ∈ u, ¬ c = 32) (hl : ws.length ≤ 10) (hS : xS2 M tx n p) (hf : M.1 1 4 = 0) (hI : scInv Tx invX M) (hok : ∀ (M' : fmM) (j : Nat) (w : Int32), wdI ws (wd tx (sk tx p)) 0 = some j → w.toInt = (j : Int) → xdOk M M' tx n (sp tW tx (sk tx p)) → Q (.inl (some (.int w))) M') (hbad : wdI ws (wd tx (sk tx p)) 0 = none → ∀ M' : fmM, xdBad M M' 1 (sk tx p) → Q (.inl (some (.int (-1)))) M') : pvGood Tx 5 qX7_takeWord [.ref 1, .ref (1000 + i5)] M Q := by
  refine pvGood_of (Nat.le_of_ble_eq_true rfl) ?_
  show pvEv Tx 5 qX7_takeWord 0 [some (.ref 1), some (.ref (1000 + i5)), none, none, none] [] M Q
  refine pv_aloadn (pc := 0) (n := 0) 0 rfl rfl (fm_dec dtX7_takeWord 0 rfl) ?_
  refine pv_invV0 (k := 1) (d' := 1) (pc := 1) pcv_X7_39 (by decide) rfl (Nat.le_of_ble_eq_true rfl) (by decide) (fm_dec dtX7_takeWord 1 rfl) ?_
  refine c_xnext hS (fun x1 hx1 => ?_)
  refine pv_then1 ?_
  refine pv_istoren (pc := 4) (n := 2) 2 rfl (by decide) rfl (fm_dec dtX7_takeWord 2 rfl) ?_
  dsimp only [List.set_cons_zero, List.set_cons_succ]
  refine pv_iloadn (pc := 5) (n := 2) 2 rfl rfl (fm_dec dtX7_takeWord 3 rfl) ?_
  refine pv_istoren (pc := 6) (n := 3) 3 rfl (by decide) rfl (fm_dec dtX7_takeWord 4 rfl) ?_
  dsimp only [List.set_cons_zero, List.set_cons_succ]
  have hsk : sk tx p ≤ n := (sp_le tB_1 hS.2.2.2.1 hS.2.2.1)
  have hsw : sp tW tx (sk tx p) ≤ n := sp_le tW_1 hS.2.2.2.1 hsk
  refine xw_loop (hS.bl hx1) _ (sk tx p) _ _ hx1 hsk rfl (fun x43 v43 hx43 => ?_)
  refine pv_aloadn (pc := 43) (n := 0) 0 rfl rfl (fm_dec dtX7_takeWord 23 rfl) ?_
  refine pv_aloadn (pc := 44) (n := 1) 1 rfl rfl (fm_dec dtX7_takeWord 24 rfl) ?_
  refine pv_iloadn (pc := 45) (n := 2) 2 rfl rfl (fm_dec dtX7_takeWord 25 rfl) ?_
  refine pv_iloadn (pc := 46) (n := 3) 3 rfl rfl (fm_dec dtX7_takeWord 26 rfl) ?_
  refine pv_invV3 (k := 1) (d' := 4) (pc := 47) pcv_X7_49 (by decide) rfl (Nat.le_of_ble_eq_true rfl) (by decide) (fm_dec dtX7_takeWord 27 rfl) ?_
  refine c_xfind hi hS.2.2.2.1.1 hx1 hx43 hsw (sp_ge _) (fun j hj => ⟨hS.2.2.2.2 j hj, (hS.2.2.2.1.2.2 j hj).2⟩) ?_ 
  refine pv_then1 ?_
  rw [hch, fnd_all hS.2.2.2.1 (sp_ge _) hsw rfl ws 0 hws]
  cases hw9 : wdI ws (wd tx (sk tx p)) 0 with
  | none =>
    show pvEv Tx 5 qX7_takeWord (47 + 3) [some (.ref 1), some (.ref (1000 + i5)), some (.int x1), some (.int x43), v43] [.int (-1)] (fmI M 1 3 x1) Q
    refine pv_istore (pc := 50) (i := 4) (by decide) rfl (fm_dec dtX7_takeWord 28 rfl) ?_
    dsimp only [List.set_cons_zero, List.set_cons_succ]
    refine pv_iload (pc := 52) (i := 4) rfl (fm_dec dtX7_takeWord 29 rfl) ?_
    refine pv_iconst (pc := 54) (v := (-1)) (by decide) (fm_dec dtX7_takeWord 30 rfl) ?_
    refine pv_icmp_ne (pc := 55) 67 (by decide) (fm_dec dtX7_takeWord 31 rfl) (fun hc55 => by exfalso; revert hc55; decide) (fun _ => ?_)
    refine pv_aloadn (pc := 58) (n := 0) 0 rfl rfl (fm_dec dtX7_takeWord 32 rfl) ?_
    refine pv_iconst (pc := 59) (v := 1) (by decide) (fm_dec dtX7_takeWord 33 rfl) ?_
    refine pv_iloadn (pc := 60) (n := 2) 2 rfl rfl (fm_dec dtX7_takeWord 34 rfl) ?_
    refine pv_invV2 (k := 1) (d' := 0) (pc := 61) pcv_X7_35 (by decide) rfl (Nat.le_of_ble_eq_true rfl) (by decide) (fm_dec dtX7_takeWord 35 rfl) ?_
    refine c_xfail0 hf ?_
    refine pv_then1 ?_
    refine pv_pop (pc := 64) rfl (fm_dec dtX7_takeWord 36 rfl) ?_
    refine pv_iconst (pc := 65) (v := (-1)) (by decide) (fm_dec dtX7_takeWord 37 rfl) ?_
    exact pv_ireturn (pc := 66) rfl (fm_dec dtX7_takeWord 38 rfl) (hbad hw9 _ (xdBad.at hS hI hx1 hsk (by decide) (by decide) (by decide) hx1 hsk))
  | some j =>
    have hj := wdI_lt ws 0 j hw9
    have ej : (nI j).toInt = (j : Int) := nI_toInt (by omega)
    show pvEv Tx 5 qX7_takeWord (47 + 3) [some (.ref 1), some (.ref (1000 + i5)), some (.int x1), some (.int x43), v43] [.int (nI j)] (fmI M 1 3 x1) Q
    refine pv_istore (pc := 50) (i := 4) (by decide) rfl (fm_dec dtX7_takeWord 28 rfl) ?_
    dsimp only [List.set_cons_zero, List.set_cons_succ]
    refine pv_iload (pc := 52) (i := 4) rfl (fm_dec dtX7_takeWord 29 rfl) ?_
    refine pv_iconst (pc := 54) (v := (-1)) (by decide) (fm_dec dtX7_takeWord 30 rfl) ?_
    refine pv_icmp_ne (pc := 55) 67 (by decide) (fm_dec dtX7_takeWord 31 rfl) (fun _ => ?_) (fun hc55 => by exfalso; have h9 := congrArg Int32.toInt hc55; have h8 : (-1 : Int32).toInt = -1 := (by decide); omega)
    refine pv_aloadn (pc := 67) (n := 0) 0 rfl rfl (fm_dec dtX7_takeWord 39 rfl) ?_
    refine pv_iloadn (pc := 68) (n := 3) 3 rfl rfl (fm_dec dtX7_takeWord 40 rfl) ?_
    refine pv_putI (k := 1) (j := 3) (ci := 7) (pc := 69) pfl_X7_25 (by decide) rfl (by decide) (fm_dec dtX7_takeWord 41 rfl) ?_
    refine pv_iload (pc := 72) (i := 4) rfl (fm_dec dtX7_takeWord 42 rfl) ?_
    exact pv_ireturn (pc := 74) rfl (fm_dec dtX7_takeWord 43 rfl) (by rw [fmI_fmI]; exact hok _ j (nI j) hw9 ej (xdOk.at hS hf hI hx43 hsw))
def wsWork : List (List Int) := [[119, 114, 105, 116, 101], [114, 101, 110, 101, 119], [100, 105, 101], [119, 101, 101, 107], [97, 103, 97, 105, 110]]
def wsLaw : List (List Int) := [[97, 103, 101], [121, 101, 97, 114, 115], [119, 111, 114, 116, 104], [100, 101, 97, 100], [102, 97, 99, 116, 115], [108, 101, 97, 115, 116], [109, 111, 115, 116]]
def wsTold : List (List Int) := [[108, 105, 102, 101], [104, 97, 115], [98, 121], [102, 97, 99, 116], [104, 111, 117, 114, 115], [108, 97, 99, 107], [119, 114, 111, 110, 103], [104, 97, 108, 102]]
theorem chs_4 : chs 4 = flat1 wsWork := by decide +kernel
theorem chs_3 : chs 3 = flat1 wsLaw := by decide +kernel
theorem chs_2 : chs 2 = flat1 wsTold := by decide +kernel
theorem wsWork_ok : ∀ u ∈ wsWork, ∀ c ∈ u, ¬ c = 32 := by decide
theorem wsLaw_ok : ∀ u ∈ wsLaw, ∀ c ∈ u, ¬ c = 32 := by decide
theorem wsTold_ok : ∀ u ∈ wsTold, ∀ c ∈ u, ¬ c = 32 := by decide
theorem x_numC {M : fmM} {Q : fmR → fmM → Prop} {tx : tX} {n p : Nat} {lo hi : Int32} (a b : Int) (ea : lo.toInt = a) (eb : hi.toInt = b) (h9 : b < 1000000) (hS : xS2 M tx n p) (hf : M.1 1 4 = 0) (hI : scInv Tx invX M) (hok : ∀ (M' : fmM) (v q : Nat) (w : Int32), spNum tx a b p = .inr (v, q) → w.toInt = v → xdOk M M' tx n q → Q (.inl (some (.int w))) M') (hbad : ∀ (M' : fmM) (k a' : Nat), spNum tx a b p = .inl (k, a') → xdBad M M' k a' → Q (.inl (some (.int (-1)))) M') : pvGood Tx 2 qX7_takeNumber [.ref 1, .int lo, .int hi] M Q := by
  subst ea
  subst eb
  exact x_num h9 hS hf hI hok hbad
theorem x_signC {M : fmM} {Q : fmR → fmM → Prop} {tx : tX} {n p : Nat} {c : Int32} (a : Int) (ea : c.toInt = a) (hc : 0 ≤ a) (hS : xS2 M tx n p) (hf : M.1 1 4 = 0) (hI : scInv Tx invX M) (hok : ∀ (M' : fmM) (q : Nat), spSign tx a p = .inr ((), q) → xdOk M M' tx n q → Q (.inl (some (.int 1))) M') (hbad : ∀ (M' : fmM) (k a' : Nat), spSign tx a p = .inl (k, a') → xdBad M M' k a' → Q (.inl (some (.int 0))) M') : pvGood Tx 1 qX7_takeSign [.ref 1, .int c] M Q := by
  subst ea
  exact x_sign hc hS hf hI hok hbad
end
-- P 18h
section
-- THE CLASS READS LAWS
def cdV (c : Nat × Nat) : Int := if c.1 = 0 then (c.2 : Int) else if c.1 = 1 then -1 - (c.2 : Int) else if c.1 < 6 then -6 - (c.1 : Int) else -(c.1 : Int)
def xlPre (M : fmM) (tx : tX) (n p m : Nat) : Prop := xS2 M tx n p ∧ M.1 1 4 = 0 ∧ scInv Tx invX M ∧ (M.1 23 4).toInt = (m : Int) ∧ m ≤ p ∧ n ≤ 150
def xlRep (M : fmM) (m : Nat) (cs : tC) : Prop := ∀ i c, cs[i]? = some c → (M.1 25 (m + i)).toInt = cdV c
def xlFr (m : Nat) (M M' : fmM) : Prop := (∀ k j, k ≠ 1 → ¬ (k = 23 ∧ j = 4) → ¬ (k = 25 ∧ m ≤ j) → M'.1 k j = M.1 k j) ∧ (∀ k j, k ≠ 1 → k ≠ 23 → k ≠ 25 → M'.2 k j = M.2 k j) ∧ (∀ j, j ≠ 3 → j ≠ 4 → j ≠ 5 → M'.1 1 j = M.1 1 j)
def xlOk (M M' : fmM) (tx : tX) (n q m : Nat) (cs : tC) : Prop := xS2 M' tx n q ∧ M'.1 1 4 = 0 ∧ scInv Tx invX M' ∧ (M'.1 23 4).toInt = ((m + cs.length : Nat) : Int) ∧ xlRep M' m cs ∧ xlFr m M M'
def xlBad (M M' : fmM) (k a : Nat) : Prop := (M'.1 1 4).toInt = (k : Int) ∧ (M'.1 1 5).toInt = (a : Int) ∧ k ≠ 0 ∧ scInv Tx invX M' ∧ xlFr 0 M M'
theorem xlFr.refl (m : Nat) (M : fmM) : xlFr m M M := ⟨fun _ _ _ _ _ => rfl, fun _ _ _ _ _ => rfl, fun _ _ _ _ => rfl⟩
theorem xlFr.trans {m m' : Nat} {M M1 M2 : fmM} (h : xlFr m M M1) (h' : xlFr m' M1 M2) (hm : m ≤ m') : xlFr m M M2 := ⟨fun k j a b c => (h'.1 k j a b (by omega)).trans (h.1 k j a b c), fun k j a b c => (h'.2.1 k j a b c).trans (h.2.1 k j a b c), fun j a b c => (h'.2.2 j a b c).trans (h.2.2 j a b c)⟩
theorem xlFr.zero {m : Nat} {M M1 : fmM} (h : xlFr m M M1) : xlFr 0 M M1 := ⟨fun k j a b c => h.1 k j a b (by omega), h.2.1, h.2.2⟩
theorem xlFr.tr0 {m m' : Nat} {M M1 M2 : fmM} (h : xlFr m M M1) (h' : xlFr m' M1 M2) : xlFr 0 M M2 := xlFr.trans h.zero h'.zero (Nat.le_refl _)
theorem xdFr.xl {M M1 : fmM} (h : xdFr M M1) (m : Nat) : xlFr m M M1 := ⟨fun k j a _ _ => (h.1 k j a).1, fun k j a _ _ => (h.1 k j a).2, h.2⟩
theorem xlRep.fr {M M' : fmM} {m m' : Nat} {cs : tC} (h : xlRep M m cs) (hf : xlFr m' M M') (hm : m + cs.length ≤ m') : xlRep M' m cs := fun i c hi => by
  have hl : i < cs.length := (List.getElem?_eq_some_iff.mp hi).1
  rw [hf.1 25 (m + i) (by decide) (by omega) (by omega)]
  exact h i c hi
theorem xlRep.app {M : fmM} {m : Nat} {cs ds : tC} (h : xlRep M m cs) (h' : xlRep M (m + cs.length) ds) : xlRep M m (cs ++ ds) := fun i c hi => by
  by_cases e : i < cs.length
  · rw [List.getElem?_append_left e] at hi
    exact h i c hi
  · rw [List.getElem?_append_right (by omega)] at hi
    have h9 := h' (i - cs.length) c hi
    rw [show m + cs.length + (i - cs.length) = m + i by omega] at h9
    exact h9
theorem xlOk.trans {M M1 M2 : fmM} {tx : tX} {n q1 q2 m : Nat} {cs ds : tC} (h : xlOk M M1 tx n q1 m cs) (h' : xlOk M1 M2 tx n q2 (m + cs.length) ds) : xlOk M M2 tx n q2 m (cs ++ ds) := ⟨h'.1, h'.2.1, h'.2.2.1, by rw [List.length_append, ← Nat.add_assoc]; exact h'.2.2.2.1, (h.2.2.2.2.1.fr h'.2.2.2.2.2 (Nat.le_refl _)).app h'.2.2.2.2.1, h.2.2.2.2.2.trans h'.2.2.2.2.2 (by omega)⟩
theorem xlOk.xd {M M1 M2 : fmM} {tx : tX} {n q1 q2 m : Nat} {cs : tC} (h : xlOk M M1 tx n q1 m cs) (h' : xdOk M1 M2 tx n q2) : xlOk M M2 tx n q2 m cs := ⟨h'.1, h'.2.1, h'.2.2.2, by rw [(h'.2.2.1.1 23 4 (by decide)).1]; exact h.2.2.2.1, h.2.2.2.2.1.fr (h'.2.2.1.xl (m + cs.length)) (Nat.le_refl _), h.2.2.2.2.2.trans (h'.2.2.1.xl m) (Nat.le_refl _)⟩
theorem xlOk.xdb {M M1 M2 : fmM} {tx : tX} {n q1 m k a : Nat} {cs : tC} (h : xlOk M M1 tx n q1 m cs) (h' : xdBad M1 M2 k a) : xlBad M M2 k a := ⟨h'.1, h'.2.1, h'.2.2.1, h'.2.2.2.2, h.2.2.2.2.2.tr0 (h'.2.2.2.1.xl m)⟩
theorem xlOk.bad {M M1 M2 : fmM} {tx : tX} {n q1 m k a : Nat} {cs : tC} (h : xlOk M M1 tx n q1 m cs) (h' : xlBad M1 M2 k a) : xlBad M M2 k a := ⟨h'.1, h'.2.1, h'.2.2.1, h'.2.2.2.1, h.2.2.2.2.2.tr0 h'.2.2.2.2⟩
theorem xlPre.nil {M : fmM} {tx : tX} {n p m : Nat} (h : xlPre M tx n p m) : xlOk M M tx n p m [] := ⟨h.1, h.2.1, h.2.2.1, h.2.2.2.1, fun i c hi => (by cases hi), xlFr.refl m M⟩
theorem xlPre.next {M M1 : fmM} {tx : tX} {n p q m : Nat} {cs : tC} (h : xlPre M tx n p m) (k : xlOk M M1 tx n q m cs) (hq : p + cs.length ≤ q) : xlPre M1 tx n q (m + cs.length) := ⟨k.1, k.2.1, k.2.2.1, k.2.2.2.1, by have := h.2.2.2.2.1; omega, h.2.2.2.2.2⟩
theorem xlPre.xd {M M1 : fmM} {tx : tX} {n p q m : Nat} (h : xlPre M tx n p m) (k : xdOk M M1 tx n q) (hq : p ≤ q) : xlPre M1 tx n q m := by
  have h9 := h.next (h.nil.xd k) (by simpa using hq)
  simpa using h9
theorem xlBad.nz {M M' : fmM} {k a : Nat} (h : xlBad M M' k a) : ¬ M'.1 1 4 = 0 := by
  intro e
  have h1 := h.1
  rw [e] at h1
  have e0 : (0 : Int32).toInt = 0 := by decide
  have := h.2.2.1
  omega
theorem xlBad.go {M M1 M2 : fmM} {k a : Nat} (h : xlBad M M1 k a) (h' : xlFr 0 M1 M2) (e4 : M2.1 1 4 = M1.1 1 4) (e5 : M2.1 1 5 = M1.1 1 5) (hI : scInv Tx invX M2) : xlBad M M2 k a := ⟨by rw [e4]; exact h.1, by rw [e5]; exact h.2.1, h.2.2.1, hI, h.2.2.2.2.tr0 h'⟩
theorem emFr {W : List (Nat × Nat × Nat)} {M M' : fmM} (hW : W = [(23, 4, 1), (25, 0, 150)]) (h : scFr W M M') : xlFr 0 M M' := by
  subst hW
  refine ⟨fun k j a b c => (h k j ?_).1, fun k j a b c => (h k j ?_).2, fun j a b c => (h 1 j rfl).1⟩
  · have e2 : ((25 : Nat) == k) = false := by
      rw [beq_eq_false_iff_ne]
      omega
    by_cases e : k = 23
    · subst e
      have e4 : (Nat.ble 4 j && Nat.blt j (4 + 1)) = false := by
        cases h8 : Nat.ble 4 j with
        | false => rfl
        | true =>
          cases h9 : Nat.blt j (4 + 1) with
          | false => rfl
          | true => exact absurd ⟨rfl, (show j = 4 by have g1 := Nat.le_of_ble_eq_true h8; have g2 : j + 1 ≤ 4 + 1 := Nat.le_of_ble_eq_true h9; omega)⟩ b
      simp only [scIn, List.any_cons, List.any_nil, e2, Bool.false_and, Bool.or_false, Bool.and_assoc, e4, Bool.and_false]
    · have e1 : ((23 : Nat) == k) = false := by
        rw [beq_eq_false_iff_ne]
        omega
      simp [scIn, e1, e2]
  · have e1 : ((23 : Nat) == k) = false := by
      rw [beq_eq_false_iff_ne]
      omega
    have e2 : ((25 : Nat) == k) = false := by
      rw [beq_eq_false_iff_ne]
      omega
    simp [scIn, e1, e2]
def emM (M : fmM) (m : Nat) (x : Int32) : fmM := fmI (fmI M 25 m x) 23 4 (M.1 23 4 + 1)
theorem em_ok {M : fmM} {tx : tX} {n p m : Nat} {x : Int32} {c : Nat × Nat} (h : xS2 M tx n p) (hf : M.1 1 4 = 0) (hI : scInv Tx invX M) (hm : (M.1 23 4).toInt = (m : Int)) (h150 : m < 150) (hx : x.toInt = cdV c) : xlOk M (emM M m x) tx n p m [c] := by
  have e1 : (M.1 23 4 + 1).toInt = ((m + 1 : Nat) : Int) := i32_p1 hm (by omega)
  refine ⟨h.of rfl rfl rfl, hf, ?_, e1, fun i d hi => ?_, fun k j a b c => ?_, fun _ _ _ _ _ => rfl, fun j a b c => ?_⟩
  · refine xInv.put (xInv.put hI (scq_t x)) ⟨?_, ?_⟩
    · show (0 : Int) ≤ _
      omega
    · show _ ≤ (150 : Int)
      omega
  · cases i with
    | succ i => cases hi
    | zero =>
      cases hi
      unfold emM
      rw [fmI_k _ _ (by decide), Nat.add_zero, fmI_s]
      exact hx
  · unfold emM
    rw [fmI_at, if_neg b, fmI_at, if_neg (by omega)]
  · rfl
theorem wl_0 {w : List Int} (h : wdI wsLaw w 0 = none) : ¬ w = lwLeast ∧ ¬ w = lwMost ∧ lwK w = none := by
  simp only [wdI, wsLaw] at h
  repeat' split at h
  all_goals first | (cases h; done) | skip
  rename_i h0 h1 h2 h3 h4 h5 h6
  exact ⟨h5, h6, by unfold lwK; rw [if_neg h0, if_neg h1, if_neg h2, if_neg h3, if_neg h4]⟩
theorem wl_1 {w : List Int} {j : Nat} (h : wdI wsLaw w 0 = some j) (hj : j < 5) : ¬ w = lwLeast ∧ ¬ w = lwMost ∧ lwK w = some j := by
  simp only [wdI, wsLaw] at h
  repeat' split at h
  all_goals first | (injection h with h; subst h; exfalso; omega) | (injection h with h; subst h; rename_i h9; subst h9; exact ⟨by decide, by decide, by decide⟩) | cases h
theorem wl_5 {w : List Int} {j : Nat} (h : wdI wsLaw w 0 = some j) (hj : ¬ j < 5) : (j = 5 ∧ w = lwLeast) ∨ (j = 6 ∧ w = lwMost ∧ ¬ w = lwLeast) := by
  simp only [wdI, wsLaw] at h
  repeat' split at h
  all_goals first | (injection h with h; subst h; exfalso; omega) | (injection h with h; subst h; rename_i h9; exact Or.inl ⟨rfl, h9⟩) | (injection h with h; subst h; rename_i h9; exact Or.inr ⟨rfl, h9, by rw [h9]; decide⟩) | cases h
def spTw (tx : tX) (rc : Nat → tR tC) (q : Nat) : tR tC := spBind (spSign tx 91 q) fun _ q => spBind (rc q) fun cs q => spBind (spSign tx 44 q) fun _ q => spBind (rc q) fun ds q => spBind (spSign tx 93 q) fun _ q => .inr (cs ++ ds, q)
theorem spTw_eq (tx : tX) (rc : Nat → tR tC) (c q : Nat) : spTwo tx rc c q = spBind (spTw tx rc q) fun cs q => .inr (cs ++ [(c, 0)], q) := by
  unfold spTwo spTw spBind
  cases spSign tx 91 q with
  | inl e => rfl
  | inr r =>
    simp only
    cases rc r.2 with
    | inl e => rfl
    | inr r1 =>
      simp only
      cases spSign tx 44 r1.2 with
      | inl e => rfl
      | inr r2 =>
        simp only
        cases rc r2.2 with
        | inl e => rfl
        | inr r3 =>
          simp only
          cases spSign tx 93 r3.2 with
          | inl e => rfl
          | inr r4 => rfl
def xlE (Q : fmR → fmM → Prop) (M : fmM) (tx : tX) (n m : Nat) (r : tR tC) : Prop := (∀ (M' : fmM) (cs : tC) (q : Nat), r = .inr (cs, q) → xlOk M M' tx n q m cs → Q (.inl (some (.int 1))) M') ∧ ∀ (M' : fmM) (k a : Nat), r = .inl (k, a) → xlBad M M' k a → Q (.inl (some (.int 0))) M'
def xlG (tx : tX) (n f md : Nat) : Prop := ∀ (o p m : Nat) (M : fmM) (Q : fmR → fmM → Prop) (op : Int32), xlPre M tx n p m → op.toInt = (o : Int) → o ≤ 6 → ¬ spL tx f md o p = .inl (9, 0) → xlE Q M tx n m (spL tx f md o p) → match md with
  | 0 => pvGood Tx (8 + 4 * (6 - o)) qX1_readSum [.ref 23, .ref 1, .int op] M Q
  | 1 => pvGood Tx (7 + 4 * (6 - o)) qX1_readProduct [.ref 23, .ref 1, .int op] M Q
  | 2 => pvGood Tx (6 + 4 * (6 - o)) qX1_readUnit [.ref 23, .ref 1, .int op] M Q
  | 3 => ∀ (i : Nat) (ii : Int32) (v5 : Option Value), ii.toInt = (i : Int) → i ≤ p → pvEv Tx (8 + 4 * (6 - o)) qX1_readSum 10 [some (.ref 23), some (.ref 1), some (.int op), some (.int 1), some (.int ii), v5] [] M Q
  | _ => ∀ (i : Nat) (ii : Int32) (v5 : Option Value), ii.toInt = (i : Int) → i ≤ p → pvEv Tx (7 + 4 * (6 - o)) qX1_readProduct 10 [some (.ref 23), some (.ref 1), some (.int op), some (.int 1), some (.int ii), v5] [] M Q
theorem place1 {M : fmM} {tx : tX} {n a : Nat} (hS : xS2 M tx n a) (hf : M.1 1 4 = 0) (hI : scInv Tx invX M) (ha : ¬ tx a = -1) : xdOk M (fmI M 1 3 (M.1 1 3 + 1)) tx n (a + 1) := by
  have hlt : a < n := by
    have := hS.2.2.1
    by_cases e : a = n
    · exact absurd (hS.2.2.2.1.2.1 a (by omega)) ha
    · omega
  exact xdOk.at hS hf hI (i32_p1 hS.2.1 (by have := hS.2.2.2.1.1; omega)) hlt
theorem s_emit {M : fmM} {Q : fmR → fmM → Prop} {x1 : Int32} (bx1 : (-2147483648) ≤ x1.toInt ∧ x1.toInt ≤ 2147483647) (hI : scInv Tx invX M) (q0 : ∀ M' : fmM, scInv Tx invX M' → scFr [(23, 4, 1), (25, 0, 150)] M M' → Q (.inl none) M') : pvGood Tx 0 qX1_emit [.ref 23, .int x1] M Q := (hh_X1_emit_0 M [x1.toInt] [.ref 23, .int x1] (scEk.c1 bx1 scEk.n0) ⟨⟨23, by simp, rfl⟩, ⟨x1, rfl, scEv.at rfl⟩, trivial⟩ (fun f hf => by cases hf) hI).imp (fun r M' h => by
  obtain ⟨⟨o, ho, hr, hf9, hm⟩, h1, h2⟩ := h
  rcases List.mem_cons.mp ho with rfl | ho
  · have hr : r = .inl none := hr; subst hr; exact q0 M' h1 h2
  · cases ho)
set_option maxRecDepth 20000 in
theorem c_emit {M : fmM} {Q : fmR → fmM → Prop} {x : Int32} {m : Nat} (hm : (M.1 23 4).toInt = (m : Int)) (h150 : m < 150) (hq : Q (.inl none) (emM M m x)) : pvGood Tx 0 qX1_emit [.ref 23, .int x] M Q := by
  refine pvGood_of (Nat.le_of_ble_eq_true rfl) ?_
  show pvEv Tx 0 qX1_emit 0 [some (.ref 23), some (.int x)] [] M Q
  refine pv_aloadn (pc := 0) (n := 0) 0 rfl rfl (fm_dec dtX1_emit 0 rfl) ?_
  refine pv_getI (k := 23) (j := 4) (ci := 1) (pc := 1) pfl_X1_28 (by decide) rfl (by decide) (fm_dec dtX1_emit 1 rfl) ?_
  refine pv_sipush (pc := 4) (v := 150) (by decide) (fm_dec dtX1_emit 2 rfl) ?_
  refine pv_icmp_ge (pc := 7) 30 (by decide) (fm_dec dtX1_emit 3 rfl) (fun hc7 => by exfalso; rw [sc_le] at hc7; have h9 : (150 : Int32).toInt = 150 := (by decide); omega) (fun _ => ?_)
  refine pv_aloadn (pc := 10) (n := 0) 0 rfl rfl (fm_dec dtX1_emit 4 rfl) ?_
  refine pv_getR (k := 23) (j := 1) (ci := 1) (pc := 11) 25 rfl (by decide) pfl_X1_15 (by decide) rfl (by decide) (fm_dec dtX1_emit 5 rfl) ?_
  refine pv_aloadn (pc := 14) (n := 0) 0 rfl rfl (fm_dec dtX1_emit 6 rfl) ?_
  refine pv_getI (k := 23) (j := 4) (ci := 1) (pc := 15) pfl_X1_28 (by decide) rfl (by decide) (fm_dec dtX1_emit 7 rfl) ?_
  refine pv_iloadn (pc := 18) (n := 1) 1 rfl rfl (fm_dec dtX1_emit 8 rfl) ?_
  refine pv_iast (k := 25) (n := 150) (pc := 19) (by decide) rfl rfl (ix_in hm h150) (fm_dec dtX1_emit 9 rfl) ?_
  rw [i32_cl hm]
  refine pv_aloadn (pc := 20) (n := 0) 0 rfl rfl (fm_dec dtX1_emit 10 rfl) ?_
  refine pv_dup (pc := 21) rfl (fm_dec dtX1_emit 11 rfl) ?_
  refine pv_getI (k := 23) (j := 4) (ci := 1) (pc := 22) pfl_X1_28 (by decide) rfl (by decide) (fm_dec dtX1_emit 12 rfl) ?_
  refine pv_iconst (pc := 25) (v := 1) (by decide) (fm_dec dtX1_emit 13 rfl) ?_
  refine pv_iadd (pc := 26) (fm_dec dtX1_emit 14 rfl) ?_
  refine pv_putI (k := 23) (j := 4) (ci := 1) (pc := 27) pfl_X1_28 (by decide) rfl (by decide) (fm_dec dtX1_emit 15 rfl) ?_
  exact pv_return (pc := 30) rfl (fm_dec dtX1_emit 16 rfl) hq
set_option maxRecDepth 20000 in
theorem xo_readSum {Q : fmR → fmM → Prop} {M : fmM} {o : Nat} {op ii : Int32} {v5 : Option Value} (hq : Q (.inl (some (.int 0))) M) : pvEv Tx (8 + 4 * (6 - o)) qX1_readSum 10 [some (.ref 23), some (.ref 1), some (.int op), some (.int 0), some (.int ii), v5] [] M Q := by
  refine pv_iload (pc := 10) (i := 4) rfl (fm_dec dtX1_readSum 7 rfl) ?_
  refine pv_sipush (pc := 12) (v := 150) (by decide) (fm_dec dtX1_readSum 8 rfl) ?_
  refine pv_icmp_ge (pc := 15) 85 (by decide) (fm_dec dtX1_readSum 9 rfl) (fun hc15 => ?_) (fun hc15 => ?_)
  · refine pv_iloadn (pc := 85) (n := 3) 3 rfl rfl (fm_dec dtX1_readSum 44 rfl) ?_
    exact pv_zreturn (pc := 86) rfl (by first | exact Or.inr rfl | exact Or.inl rfl) (fm_dec dtX1_readSum 45 rfl) hq
  · refine pv_iloadn (pc := 18) (n := 3) 3 rfl rfl (fm_dec dtX1_readSum 10 rfl) ?_
    refine pv_if_eq (pc := 19) 85 (by decide) (fm_dec dtX1_readSum 11 rfl) (fun _ => ?_) (fun hc19 => by exfalso; revert hc19; decide)
    refine pv_iloadn (pc := 85) (n := 3) 3 rfl rfl (fm_dec dtX1_readSum 44 rfl) ?_
    exact pv_zreturn (pc := 86) rfl (by first | exact Or.inr rfl | exact Or.inl rfl) (fm_dec dtX1_readSum 45 rfl) hq
set_option maxRecDepth 20000 in
theorem xl_readSum0 {tx : tX} {n f : Nat} (h1 : xlG tx n f 1) (h3 : xlG tx n f 3) : xlG tx n (f + 1) 0 := by
  intro o p m M Q op hP ho ho6 hne hE
  refine pvGood_of (Nat.le_of_ble_eq_true rfl) ?_
  show pvEv Tx (8 + 4 * (6 - o)) qX1_readSum 0 [some (.ref 23), some (.ref 1), some (.int op), none, none, none] [] M Q
  refine pv_aloadn (pc := 0) (n := 0) 0 rfl rfl (fm_dec dtX1_readSum 0 rfl) ?_
  refine pv_aloadn (pc := 1) (n := 1) 1 rfl rfl (fm_dec dtX1_readSum 1 rfl) ?_
  refine pv_iloadn (pc := 2) (n := 2) 2 rfl rfl (fm_dec dtX1_readSum 2 rfl) ?_
  refine pv_invV2 (k := 23) (d' := (7 + 4 * (6 - o))) (pc := 3) pcv_X1_54 (by decide) rfl (Nat.le_of_ble_eq_true rfl) (by omega) (fm_dec dtX1_readSum 3 rfl) ?_
  refine h1 o p m M _ op hP ho ho6 (spBind_ne hne) ⟨fun M1 cs1 q1 e1 k1 => ?_, fun M1 kb ab eb hB => ?_⟩  
  · refine pv_then1 ?_
    refine pv_istoren (pc := 6) (n := 3) 3 rfl (by decide) rfl (fm_dec dtX1_readSum 4 rfl) ?_
    dsimp only [List.set_cons_zero, List.set_cons_succ]
    refine pv_iconst (pc := 7) (v := 0) (by decide) (fm_dec dtX1_readSum 5 rfl) ?_
    refine pv_istore (pc := 8) (i := 4) (by decide) rfl (fm_dec dtX1_readSum 6 rfl) ?_
    dsimp only [List.set_cons_zero, List.set_cons_succ]
    have l1 := spL_len hP.1.2.2.2.1 _ _ _ _ _ _ hP.1.2.2.1 e1
    exact h3 o q1 (m + cs1.length) M1 Q op (hP.next k1 l1.1) ho ho6 (spBind_ne (spBind_ne2 hne e1)) ⟨fun M2 ds q2 e2 k2 => hE.1 M2 _ q2 (spApp_ok e1 e2) (k1.trans k2), fun M2 k a e2 k2 => hE.2 M2 k a (spApp_b2 e1 e2) (k1.bad k2)⟩ 0 0 none (by decide) (Nat.zero_le _)
  · refine pv_then1 ?_
    refine pv_istoren (pc := 6) (n := 3) 3 rfl (by decide) rfl (fm_dec dtX1_readSum 4 rfl) ?_
    dsimp only [List.set_cons_zero, List.set_cons_succ]
    refine pv_iconst (pc := 7) (v := 0) (by decide) (fm_dec dtX1_readSum 5 rfl) ?_
    refine pv_istore (pc := 8) (i := 4) (by decide) rfl (fm_dec dtX1_readSum 6 rfl) ?_
    dsimp only [List.set_cons_zero, List.set_cons_succ]
    exact xo_readSum (hE.2 M1 kb ab (spApp_b1 eb) hB)
set_option maxRecDepth 20000 in
theorem xl_readSum3 {tx : tX} {n f : Nat} (h1 : xlG tx n f 1) (h3 : xlG tx n f 3) : xlG tx n (f + 1) 3 := by
  intro o p m M Q op hP ho ho6 hne hE i ii v5 hi hip
  show pvEv Tx (8 + 4 * (6 - o)) qX1_readSum 10 [some (.ref 23), some (.ref 1), some (.int op), some (.int 1), some (.int ii), v5] [] M Q
  refine pv_iload (pc := 10) (i := 4) rfl (fm_dec dtX1_readSum 7 rfl) ?_
  refine pv_sipush (pc := 12) (v := 150) (by decide) (fm_dec dtX1_readSum 8 rfl) ?_
  refine pv_icmp_ge (pc := 15) 85 (by decide) (fm_dec dtX1_readSum 9 rfl) (fun hc15 => ?_) (fun hc15 => ?_)
  · refine pv_iloadn (pc := 85) (n := 3) 3 rfl rfl (fm_dec dtX1_readSum 44 rfl) ?_
    exact pv_zreturn (pc := 86) rfl (by first | exact Or.inr rfl | exact Or.inl rfl) (fm_dec dtX1_readSum 45 rfl) (by have hp9 : p = n := (by rw [sc_le] at hc15; have h9 : (150 : Int32).toInt = 150 := (by decide); have := hP.1.2.2.1; have := hP.2.2.2.2.2; omega); have hm1 : tx p = -1 := hP.1.2.2.2.1.2.1 p (by omega); have hs9 : sk tx p = p := (by unfold sk; rw [sp_f (by rw [hm1]; exact tB_1)]); exact hE.1 M [] p ((if_neg (by rw [hs9, hm1]; decide)).trans ((if_neg (by rw [hs9, hm1]; decide)).trans (by rw [hs9]))) hP.nil)
  · refine pv_iloadn (pc := 18) (n := 3) 3 rfl rfl (fm_dec dtX1_readSum 10 rfl) ?_
    refine pv_if_eq (pc := 19) 85 (by decide) (fm_dec dtX1_readSum 11 rfl) (fun hc19 => by exfalso; revert hc19; decide) (fun _ => ?_)
    refine pv_aloadn (pc := 22) (n := 1) 1 rfl rfl (fm_dec dtX1_readSum 12 rfl) ?_
    refine pv_invV0 (k := 1) (d' := 0) (pc := 23) pcv_X1_35 (by decide) rfl (Nat.le_of_ble_eq_true rfl) (by omega) (fm_dec dtX1_readSum 13 rfl) ?_
    refine x_peek hP.1 hP.2.1 hP.2.2.1 (fun M23 v23 hv23 k23 => ?_)
    refine pv_then1 ?_
    refine pv_istore (pc := 26) (i := 5) (by decide) rfl (fm_dec dtX1_readSum 14 rfl) ?_
    dsimp only [List.set_cons_zero, List.set_cons_succ]
    refine pv_iload (pc := 28) (i := 5) rfl (fm_dec dtX1_readSum 15 rfl) ?_
    refine pv_bipush (pc := 30) (v := 43) (by decide) (fm_dec dtX1_readSum 16 rfl) ?_
    refine pv_icmp_eq (pc := 32) 44 (by decide) (fm_dec dtX1_readSum 17 rfl) (fun hc32 => ?_) (fun hc32 => ?_)
    · have t43 : tx (sk tx p) = 43 := (by rw [← hv23, hc32]; decide)
      have k44 := place1 k23.1 k23.2.1 k23.2.2.2 (by rw [t43]; decide)
      have hsk : p ≤ sk tx p := sp_ge p
      have hP57 := (hP.xd k23 hsk).xd k44 (Nat.le_succ _)
      have ne57 : ¬ spOp 2 (spL tx f 1 o (sk tx p + 1)) (fun q => spL tx f 3 o q) = .inl (9, 0) := fun h9 => hne ((if_pos t43).trans h9)
      refine pv_aloadn (pc := 44) (n := 1) 1 rfl rfl (fm_dec dtX1_readSum 23 rfl) ?_
      refine pv_dup (pc := 45) rfl (fm_dec dtX1_readSum 24 rfl) ?_
      refine pv_getI (k := 1) (j := 3) (ci := 7) (pc := 46) pfl_X1_41 (by decide) rfl (by decide) (fm_dec dtX1_readSum 25 rfl) ?_
      refine pv_iconst (pc := 49) (v := 1) (by decide) (fm_dec dtX1_readSum 26 rfl) ?_
      refine pv_iadd (pc := 50) (fm_dec dtX1_readSum 27 rfl) ?_
      refine pv_putI (k := 1) (j := 3) (ci := 7) (pc := 51) pfl_X1_41 (by decide) rfl (by decide) (fm_dec dtX1_readSum 28 rfl) ?_
      refine pv_aloadn (pc := 54) (n := 0) 0 rfl rfl (fm_dec dtX1_readSum 29 rfl) ?_
      refine pv_aloadn (pc := 55) (n := 1) 1 rfl rfl (fm_dec dtX1_readSum 30 rfl) ?_
      refine pv_iloadn (pc := 56) (n := 2) 2 rfl rfl (fm_dec dtX1_readSum 31 rfl) ?_
      refine pv_invV2 (k := 23) (d' := (7 + 4 * (6 - o))) (pc := 57) pcv_X1_54 (by decide) rfl (Nat.le_of_ble_eq_true rfl) (by omega) (fm_dec dtX1_readSum 32 rfl) ?_
      refine h1 o (sk tx p + 1) m _ _ op hP57 ho ho6 (spBind_ne ne57) ⟨fun M57 c57 q57 e57 k57 => ?_, fun M57 kb ab eb hB => ?_⟩  
      · refine pv_then1 ?_
        have l57 := spL_len hP.1.2.2.2.1 _ _ _ _ _ _ hP57.1.2.2.1 e57
        have hP61 := hP57.next k57 l57.1
        have m57 : m + c57.length < 150 := (by have := l57.2.1; have := hP.2.2.2.2.2; have := hP.2.2.2.2.1; have := l57.1; omega)
        have k76 := em_ok (x := (-8)) (c := (2, 0)) k57.1 k57.2.1 k57.2.2.1 hP61.2.2.2.1 m57 (by decide)
        refine pv_istoren (pc := 60) (n := 3) 3 rfl (by decide) rfl (fm_dec dtX1_readSum 33 rfl) ?_
        dsimp only [List.set_cons_zero, List.set_cons_succ]
        refine pv_aloadn (pc := 61) (n := 0) 0 rfl rfl (fm_dec dtX1_readSum 34 rfl) ?_
        refine pv_iload (pc := 62) (i := 5) rfl (fm_dec dtX1_readSum 35 rfl) ?_
        refine pv_bipush (pc := 64) (v := 43) (by decide) (fm_dec dtX1_readSum 36 rfl) ?_
        refine pv_icmp_ne (pc := 66) 74 (by decide) (fm_dec dtX1_readSum 37 rfl) (fun hc66 => by exfalso; exact hc66 hc32) (fun _ => ?_)
        refine pv_bipush (pc := 69) (v := (-8)) (by decide) (fm_dec dtX1_readSum 38 rfl) ?_
        refine pv_goto (pc := 71) 76 (by decide) (fm_dec dtX1_readSum 39 rfl) ?_
        refine pv_invV1 (k := 23) (d' := 0) (pc := 76) pcv_X1_57 (by decide) rfl (Nat.le_of_ble_eq_true rfl) (by omega) (fm_dec dtX1_readSum 41 rfl) ?_
        refine c_emit hP61.2.2.2.1 m57 ?_ 
        refine pv_then0 ?_
        refine pv_iincc (pc := 79) 4 1 (by decide) rfl (by decide) rfl (fm_dec dtX1_readSum 42 rfl) ?_
        dsimp only [List.set_cons_zero, List.set_cons_succ]
        refine pv_goto (pc := 82) 10 (by decide) (fm_dec dtX1_readSum 43 rfl) ?_
        have hP9 : xlPre (emM M57 (m + c57.length) (-8)) tx n q57 (m + (c57.length + 1)) := ⟨k76.1, k76.2.1, k76.2.2.1, (by have h9 := k76.2.2.2.1; simpa [Nat.add_assoc] using h9), (by have := hP.2.2.2.2.1; have := l57.1; omega), hP.2.2.2.2.2⟩
        have kA : xlOk M M57 tx n q57 m c57 := (by have h9 := ((hP.nil.xd k23).xd k44).trans (by simpa using k57); simpa using h9)
        have kB : xlOk M (emM M57 (m + c57.length) (-8)) tx n q57 m (c57 ++ [(2, 0)]) := kA.trans k76
        have ne9 := spBind_ne (spBind_ne2 ne57 e57)
        exact h3 o q57 (m + (c57.length + 1)) _ Q op hP9 ho ho6 ne9 ⟨fun M2 ds q2 e2 k2 => hE.1 M2 _ q2 ((if_pos t43).trans (spOp_ok e57 e2)) (by have h9 := kB.trans (ds := ds) (by simpa [Nat.add_assoc] using k2); simpa using h9), fun M2 k a e2 k2 => hE.2 M2 k a ((if_pos t43).trans (spOp_b2 e57 e2)) (kB.bad k2)⟩ (i + 1) _ _ (i32_p1 hi (by have h150 := hP9.2.2.2.2.2; omega)) (by have := l57.1; omega)
      · refine pv_then1 ?_
        refine pv_istoren (pc := 60) (n := 3) 3 rfl (by decide) rfl (fm_dec dtX1_readSum 33 rfl) ?_
        dsimp only [List.set_cons_zero, List.set_cons_succ]
        refine pv_aloadn (pc := 61) (n := 0) 0 rfl rfl (fm_dec dtX1_readSum 34 rfl) ?_
        refine pv_iload (pc := 62) (i := 5) rfl (fm_dec dtX1_readSum 35 rfl) ?_
        refine pv_bipush (pc := 64) (v := 43) (by decide) (fm_dec dtX1_readSum 36 rfl) ?_
        refine pv_icmp_ne (pc := 66) 74 (by decide) (fm_dec dtX1_readSum 37 rfl) (fun hc66 => by exfalso; exact hc66 hc32) (fun _ => ?_)
        refine pv_bipush (pc := 69) (v := (-8)) (by decide) (fm_dec dtX1_readSum 38 rfl) ?_
        refine pv_goto (pc := 71) 76 (by decide) (fm_dec dtX1_readSum 39 rfl) ?_
        refine pv_invV1 (k := 23) (d' := 0) (pc := 76) pcv_X1_57 (by decide) rfl (Nat.le_of_ble_eq_true rfl) (by omega) (fm_dec dtX1_readSum 41 rfl) ?_
        refine s_emit (scq_t _) hB.2.2.2.1 (fun M76 hI76 f76 => ?_)
        refine pv_then0 ?_
        refine pv_iincc (pc := 79) 4 1 (by decide) rfl (by decide) rfl (fm_dec dtX1_readSum 42 rfl) ?_
        dsimp only [List.set_cons_zero, List.set_cons_succ]
        refine pv_goto (pc := 82) 10 (by decide) (fm_dec dtX1_readSum 43 rfl) ?_
        exact xo_readSum (hE.2 _ kb ab ((if_pos t43).trans (spOp_b1 eb)) (((hP.nil.xd k23).xd k44).bad (hB.go (emFr rfl f76) (f76 1 4 rfl).1 (f76 1 5 rfl).1 hI76)))
    · refine pv_iload (pc := 35) (i := 5) rfl (fm_dec dtX1_readSum 18 rfl) ?_
      refine pv_bipush (pc := 37) (v := 45) (by decide) (fm_dec dtX1_readSum 19 rfl) ?_
      refine pv_icmp_eq (pc := 39) 44 (by decide) (fm_dec dtX1_readSum 20 rfl) (fun hc39 => ?_) (fun hc39 => ?_)
      · have t43n : ¬ tx (sk tx p) = 43 := (fun h9 => hc32 (i32_ext (hv23.trans (h9.trans (by decide)))))
        have t45 : tx (sk tx p) = 45 := (by rw [← hv23, hc39]; decide)
        have k44 := place1 k23.1 k23.2.1 k23.2.2.2 (by rw [t45]; decide)
        have hsk : p ≤ sk tx p := sp_ge p
        have hP57 := (hP.xd k23 hsk).xd k44 (Nat.le_succ _)
        have ne57 : ¬ spOp 3 (spL tx f 1 o (sk tx p + 1)) (fun q => spL tx f 3 o q) = .inl (9, 0) := fun h9 => hne (((if_neg t43n).trans (if_pos t45)).trans h9)
        refine pv_aloadn (pc := 44) (n := 1) 1 rfl rfl (fm_dec dtX1_readSum 23 rfl) ?_
        refine pv_dup (pc := 45) rfl (fm_dec dtX1_readSum 24 rfl) ?_
        refine pv_getI (k := 1) (j := 3) (ci := 7) (pc := 46) pfl_X1_41 (by decide) rfl (by decide) (fm_dec dtX1_readSum 25 rfl) ?_
        refine pv_iconst (pc := 49) (v := 1) (by decide) (fm_dec dtX1_readSum 26 rfl) ?_
        refine pv_iadd (pc := 50) (fm_dec dtX1_readSum 27 rfl) ?_
        refine pv_putI (k := 1) (j := 3) (ci := 7) (pc := 51) pfl_X1_41 (by decide) rfl (by decide) (fm_dec dtX1_readSum 28 rfl) ?_
        refine pv_aloadn (pc := 54) (n := 0) 0 rfl rfl (fm_dec dtX1_readSum 29 rfl) ?_
        refine pv_aloadn (pc := 55) (n := 1) 1 rfl rfl (fm_dec dtX1_readSum 30 rfl) ?_
        refine pv_iloadn (pc := 56) (n := 2) 2 rfl rfl (fm_dec dtX1_readSum 31 rfl) ?_
        refine pv_invV2 (k := 23) (d' := (7 + 4 * (6 - o))) (pc := 57) pcv_X1_54 (by decide) rfl (Nat.le_of_ble_eq_true rfl) (by omega) (fm_dec dtX1_readSum 32 rfl) ?_
        refine h1 o (sk tx p + 1) m _ _ op hP57 ho ho6 (spBind_ne ne57) ⟨fun M57 c57 q57 e57 k57 => ?_, fun M57 kb ab eb hB => ?_⟩  
        · refine pv_then1 ?_
          have l57 := spL_len hP.1.2.2.2.1 _ _ _ _ _ _ hP57.1.2.2.1 e57
          have hP61 := hP57.next k57 l57.1
          have m57 : m + c57.length < 150 := (by have := l57.2.1; have := hP.2.2.2.2.2; have := hP.2.2.2.2.1; have := l57.1; omega)
          have k76 := em_ok (x := (-9)) (c := (3, 0)) k57.1 k57.2.1 k57.2.2.1 hP61.2.2.2.1 m57 (by decide)
          refine pv_istoren (pc := 60) (n := 3) 3 rfl (by decide) rfl (fm_dec dtX1_readSum 33 rfl) ?_
          dsimp only [List.set_cons_zero, List.set_cons_succ]
          refine pv_aloadn (pc := 61) (n := 0) 0 rfl rfl (fm_dec dtX1_readSum 34 rfl) ?_
          refine pv_iload (pc := 62) (i := 5) rfl (fm_dec dtX1_readSum 35 rfl) ?_
          refine pv_bipush (pc := 64) (v := 43) (by decide) (fm_dec dtX1_readSum 36 rfl) ?_
          refine pv_icmp_ne (pc := 66) 74 (by decide) (fm_dec dtX1_readSum 37 rfl) (fun _ => ?_) (fun hc66 => by exfalso; exact hc32 hc66)
          refine pv_bipush (pc := 74) (v := (-9)) (by decide) (fm_dec dtX1_readSum 40 rfl) ?_
          refine pv_invV1 (k := 23) (d' := 0) (pc := 76) pcv_X1_57 (by decide) rfl (Nat.le_of_ble_eq_true rfl) (by omega) (fm_dec dtX1_readSum 41 rfl) ?_
          refine c_emit hP61.2.2.2.1 m57 ?_ 
          refine pv_then0 ?_
          refine pv_iincc (pc := 79) 4 1 (by decide) rfl (by decide) rfl (fm_dec dtX1_readSum 42 rfl) ?_
          dsimp only [List.set_cons_zero, List.set_cons_succ]
          refine pv_goto (pc := 82) 10 (by decide) (fm_dec dtX1_readSum 43 rfl) ?_
          have hP9 : xlPre (emM M57 (m + c57.length) (-9)) tx n q57 (m + (c57.length + 1)) := ⟨k76.1, k76.2.1, k76.2.2.1, (by have h9 := k76.2.2.2.1; simpa [Nat.add_assoc] using h9), (by have := hP.2.2.2.2.1; have := l57.1; omega), hP.2.2.2.2.2⟩
          have kA : xlOk M M57 tx n q57 m c57 := (by have h9 := ((hP.nil.xd k23).xd k44).trans (by simpa using k57); simpa using h9)
          have kB : xlOk M (emM M57 (m + c57.length) (-9)) tx n q57 m (c57 ++ [(3, 0)]) := kA.trans k76
          have ne9 := spBind_ne (spBind_ne2 ne57 e57)
          exact h3 o q57 (m + (c57.length + 1)) _ Q op hP9 ho ho6 ne9 ⟨fun M2 ds q2 e2 k2 => hE.1 M2 _ q2 (((if_neg t43n).trans (if_pos t45)).trans (spOp_ok e57 e2)) (by have h9 := kB.trans (ds := ds) (by simpa [Nat.add_assoc] using k2); simpa using h9), fun M2 k a e2 k2 => hE.2 M2 k a (((if_neg t43n).trans (if_pos t45)).trans (spOp_b2 e57 e2)) (kB.bad k2)⟩ (i + 1) _ _ (i32_p1 hi (by have h150 := hP9.2.2.2.2.2; omega)) (by have := l57.1; omega)
        · refine pv_then1 ?_
          refine pv_istoren (pc := 60) (n := 3) 3 rfl (by decide) rfl (fm_dec dtX1_readSum 33 rfl) ?_
          dsimp only [List.set_cons_zero, List.set_cons_succ]
          refine pv_aloadn (pc := 61) (n := 0) 0 rfl rfl (fm_dec dtX1_readSum 34 rfl) ?_
          refine pv_iload (pc := 62) (i := 5) rfl (fm_dec dtX1_readSum 35 rfl) ?_
          refine pv_bipush (pc := 64) (v := 43) (by decide) (fm_dec dtX1_readSum 36 rfl) ?_
          refine pv_icmp_ne (pc := 66) 74 (by decide) (fm_dec dtX1_readSum 37 rfl) (fun _ => ?_) (fun hc66 => by exfalso; exact hc32 hc66)
          refine pv_bipush (pc := 74) (v := (-9)) (by decide) (fm_dec dtX1_readSum 40 rfl) ?_
          refine pv_invV1 (k := 23) (d' := 0) (pc := 76) pcv_X1_57 (by decide) rfl (Nat.le_of_ble_eq_true rfl) (by omega) (fm_dec dtX1_readSum 41 rfl) ?_
          refine s_emit (scq_t _) hB.2.2.2.1 (fun M76 hI76 f76 => ?_)
          refine pv_then0 ?_
          refine pv_iincc (pc := 79) 4 1 (by decide) rfl (by decide) rfl (fm_dec dtX1_readSum 42 rfl) ?_
          dsimp only [List.set_cons_zero, List.set_cons_succ]
          refine pv_goto (pc := 82) 10 (by decide) (fm_dec dtX1_readSum 43 rfl) ?_
          exact xo_readSum (hE.2 _ kb ab (((if_neg t43n).trans (if_pos t45)).trans (spOp_b1 eb)) (((hP.nil.xd k23).xd k44).bad (hB.go (emFr rfl f76) (f76 1 4 rfl).1 (f76 1 5 rfl).1 hI76)))
      · refine pv_iconst (pc := 42) (v := 1) (by decide) (fm_dec dtX1_readSum 21 rfl) ?_
        exact pv_zreturn (pc := 43) rfl (by first | exact Or.inr rfl | exact Or.inl rfl) (fm_dec dtX1_readSum 22 rfl) (hE.1 M23 [] (sk tx p) ((if_neg (fun h9 => hc32 (i32_ext (hv23.trans (h9.trans (by decide)))))).trans (if_neg (fun h9 => hc39 (i32_ext (hv23.trans (h9.trans (by decide))))))) (hP.nil.xd k23))
set_option maxRecDepth 20000 in
theorem xo_readProduct {Q : fmR → fmM → Prop} {M : fmM} {o : Nat} {op ii : Int32} {v5 : Option Value} (hq : Q (.inl (some (.int 0))) M) : pvEv Tx (7 + 4 * (6 - o)) qX1_readProduct 10 [some (.ref 23), some (.ref 1), some (.int op), some (.int 0), some (.int ii), v5] [] M Q := by
  refine pv_iload (pc := 10) (i := 4) rfl (fm_dec dtX1_readProduct 7 rfl) ?_
  refine pv_sipush (pc := 12) (v := 150) (by decide) (fm_dec dtX1_readProduct 8 rfl) ?_
  refine pv_icmp_ge (pc := 15) 85 (by decide) (fm_dec dtX1_readProduct 9 rfl) (fun hc15 => ?_) (fun hc15 => ?_)
  · refine pv_iloadn (pc := 85) (n := 3) 3 rfl rfl (fm_dec dtX1_readProduct 44 rfl) ?_
    exact pv_zreturn (pc := 86) rfl (by first | exact Or.inr rfl | exact Or.inl rfl) (fm_dec dtX1_readProduct 45 rfl) hq
  · refine pv_iloadn (pc := 18) (n := 3) 3 rfl rfl (fm_dec dtX1_readProduct 10 rfl) ?_
    refine pv_if_eq (pc := 19) 85 (by decide) (fm_dec dtX1_readProduct 11 rfl) (fun _ => ?_) (fun hc19 => by exfalso; revert hc19; decide)
    refine pv_iloadn (pc := 85) (n := 3) 3 rfl rfl (fm_dec dtX1_readProduct 44 rfl) ?_
    exact pv_zreturn (pc := 86) rfl (by first | exact Or.inr rfl | exact Or.inl rfl) (fm_dec dtX1_readProduct 45 rfl) hq
set_option maxRecDepth 20000 in
theorem xl_readProduct0 {tx : tX} {n f : Nat} (h1 : xlG tx n f 2) (h3 : xlG tx n f 4) : xlG tx n (f + 1) 1 := by
  intro o p m M Q op hP ho ho6 hne hE
  refine pvGood_of (Nat.le_of_ble_eq_true rfl) ?_
  show pvEv Tx (7 + 4 * (6 - o)) qX1_readProduct 0 [some (.ref 23), some (.ref 1), some (.int op), none, none, none] [] M Q
  refine pv_aloadn (pc := 0) (n := 0) 0 rfl rfl (fm_dec dtX1_readProduct 0 rfl) ?_
  refine pv_aloadn (pc := 1) (n := 1) 1 rfl rfl (fm_dec dtX1_readProduct 1 rfl) ?_
  refine pv_iloadn (pc := 2) (n := 2) 2 rfl rfl (fm_dec dtX1_readProduct 2 rfl) ?_
  refine pv_invV2 (k := 23) (d' := (6 + 4 * (6 - o))) (pc := 3) pcv_X1_61 (by decide) rfl (Nat.le_of_ble_eq_true rfl) (by omega) (fm_dec dtX1_readProduct 3 rfl) ?_
  refine h1 o p m M _ op hP ho ho6 (spBind_ne hne) ⟨fun M1 cs1 q1 e1 k1 => ?_, fun M1 kb ab eb hB => ?_⟩  
  · refine pv_then1 ?_
    refine pv_istoren (pc := 6) (n := 3) 3 rfl (by decide) rfl (fm_dec dtX1_readProduct 4 rfl) ?_
    dsimp only [List.set_cons_zero, List.set_cons_succ]
    refine pv_iconst (pc := 7) (v := 0) (by decide) (fm_dec dtX1_readProduct 5 rfl) ?_
    refine pv_istore (pc := 8) (i := 4) (by decide) rfl (fm_dec dtX1_readProduct 6 rfl) ?_
    dsimp only [List.set_cons_zero, List.set_cons_succ]
    have l1 := spL_len hP.1.2.2.2.1 _ _ _ _ _ _ hP.1.2.2.1 e1
    exact h3 o q1 (m + cs1.length) M1 Q op (hP.next k1 l1.1) ho ho6 (spBind_ne (spBind_ne2 hne e1)) ⟨fun M2 ds q2 e2 k2 => hE.1 M2 _ q2 (spApp_ok e1 e2) (k1.trans k2), fun M2 k a e2 k2 => hE.2 M2 k a (spApp_b2 e1 e2) (k1.bad k2)⟩ 0 0 none (by decide) (Nat.zero_le _)
  · refine pv_then1 ?_
    refine pv_istoren (pc := 6) (n := 3) 3 rfl (by decide) rfl (fm_dec dtX1_readProduct 4 rfl) ?_
    dsimp only [List.set_cons_zero, List.set_cons_succ]
    refine pv_iconst (pc := 7) (v := 0) (by decide) (fm_dec dtX1_readProduct 5 rfl) ?_
    refine pv_istore (pc := 8) (i := 4) (by decide) rfl (fm_dec dtX1_readProduct 6 rfl) ?_
    dsimp only [List.set_cons_zero, List.set_cons_succ]
    exact xo_readProduct (hE.2 M1 kb ab (spApp_b1 eb) hB)
set_option maxRecDepth 20000 in
theorem xl_readProduct3 {tx : tX} {n f : Nat} (h1 : xlG tx n f 2) (h3 : xlG tx n f 4) : xlG tx n (f + 1) 4 := by
  intro o p m M Q op hP ho ho6 hne hE i ii v5 hi hip
  show pvEv Tx (7 + 4 * (6 - o)) qX1_readProduct 10 [some (.ref 23), some (.ref 1), some (.int op), some (.int 1), some (.int ii), v5] [] M Q
  refine pv_iload (pc := 10) (i := 4) rfl (fm_dec dtX1_readProduct 7 rfl) ?_
  refine pv_sipush (pc := 12) (v := 150) (by decide) (fm_dec dtX1_readProduct 8 rfl) ?_
  refine pv_icmp_ge (pc := 15) 85 (by decide) (fm_dec dtX1_readProduct 9 rfl) (fun hc15 => ?_) (fun hc15 => ?_)
  · refine pv_iloadn (pc := 85) (n := 3) 3 rfl rfl (fm_dec dtX1_readProduct 44 rfl) ?_
    exact pv_zreturn (pc := 86) rfl (by first | exact Or.inr rfl | exact Or.inl rfl) (fm_dec dtX1_readProduct 45 rfl) (by have hp9 : p = n := (by rw [sc_le] at hc15; have h9 : (150 : Int32).toInt = 150 := (by decide); have := hP.1.2.2.1; have := hP.2.2.2.2.2; omega); have hm1 : tx p = -1 := hP.1.2.2.2.1.2.1 p (by omega); have hs9 : sk tx p = p := (by unfold sk; rw [sp_f (by rw [hm1]; exact tB_1)]); exact hE.1 M [] p ((if_neg (by rw [hs9, hm1]; decide)).trans ((if_neg (by rw [hs9, hm1]; decide)).trans (by rw [hs9]))) hP.nil)
  · refine pv_iloadn (pc := 18) (n := 3) 3 rfl rfl (fm_dec dtX1_readProduct 10 rfl) ?_
    refine pv_if_eq (pc := 19) 85 (by decide) (fm_dec dtX1_readProduct 11 rfl) (fun hc19 => by exfalso; revert hc19; decide) (fun _ => ?_)
    refine pv_aloadn (pc := 22) (n := 1) 1 rfl rfl (fm_dec dtX1_readProduct 12 rfl) ?_
    refine pv_invV0 (k := 1) (d' := 0) (pc := 23) pcv_X1_35 (by decide) rfl (Nat.le_of_ble_eq_true rfl) (by omega) (fm_dec dtX1_readProduct 13 rfl) ?_
    refine x_peek hP.1 hP.2.1 hP.2.2.1 (fun M23 v23 hv23 k23 => ?_)
    refine pv_then1 ?_
    refine pv_istore (pc := 26) (i := 5) (by decide) rfl (fm_dec dtX1_readProduct 14 rfl) ?_
    dsimp only [List.set_cons_zero, List.set_cons_succ]
    refine pv_iload (pc := 28) (i := 5) rfl (fm_dec dtX1_readProduct 15 rfl) ?_
    refine pv_bipush (pc := 30) (v := 42) (by decide) (fm_dec dtX1_readProduct 16 rfl) ?_
    refine pv_icmp_eq (pc := 32) 44 (by decide) (fm_dec dtX1_readProduct 17 rfl) (fun hc32 => ?_) (fun hc32 => ?_)
    · have t43 : tx (sk tx p) = 42 := (by rw [← hv23, hc32]; decide)
      have k44 := place1 k23.1 k23.2.1 k23.2.2.2 (by rw [t43]; decide)
      have hsk : p ≤ sk tx p := sp_ge p
      have hP57 := (hP.xd k23 hsk).xd k44 (Nat.le_succ _)
      have ne57 : ¬ spOp 4 (spL tx f 2 o (sk tx p + 1)) (fun q => spL tx f 4 o q) = .inl (9, 0) := fun h9 => hne ((if_pos t43).trans h9)
      refine pv_aloadn (pc := 44) (n := 1) 1 rfl rfl (fm_dec dtX1_readProduct 23 rfl) ?_
      refine pv_dup (pc := 45) rfl (fm_dec dtX1_readProduct 24 rfl) ?_
      refine pv_getI (k := 1) (j := 3) (ci := 7) (pc := 46) pfl_X1_41 (by decide) rfl (by decide) (fm_dec dtX1_readProduct 25 rfl) ?_
      refine pv_iconst (pc := 49) (v := 1) (by decide) (fm_dec dtX1_readProduct 26 rfl) ?_
      refine pv_iadd (pc := 50) (fm_dec dtX1_readProduct 27 rfl) ?_
      refine pv_putI (k := 1) (j := 3) (ci := 7) (pc := 51) pfl_X1_41 (by decide) rfl (by decide) (fm_dec dtX1_readProduct 28 rfl) ?_
      refine pv_aloadn (pc := 54) (n := 0) 0 rfl rfl (fm_dec dtX1_readProduct 29 rfl) ?_
      refine pv_aloadn (pc := 55) (n := 1) 1 rfl rfl (fm_dec dtX1_readProduct 30 rfl) ?_
      refine pv_iloadn (pc := 56) (n := 2) 2 rfl rfl (fm_dec dtX1_readProduct 31 rfl) ?_
      refine pv_invV2 (k := 23) (d' := (6 + 4 * (6 - o))) (pc := 57) pcv_X1_61 (by decide) rfl (Nat.le_of_ble_eq_true rfl) (by omega) (fm_dec dtX1_readProduct 32 rfl) ?_
      refine h1 o (sk tx p + 1) m _ _ op hP57 ho ho6 (spBind_ne ne57) ⟨fun M57 c57 q57 e57 k57 => ?_, fun M57 kb ab eb hB => ?_⟩  
      · refine pv_then1 ?_
        have l57 := spL_len hP.1.2.2.2.1 _ _ _ _ _ _ hP57.1.2.2.1 e57
        have hP61 := hP57.next k57 l57.1
        have m57 : m + c57.length < 150 := (by have := l57.2.1; have := hP.2.2.2.2.2; have := hP.2.2.2.2.1; have := l57.1; omega)
        have k76 := em_ok (x := (-10)) (c := (4, 0)) k57.1 k57.2.1 k57.2.2.1 hP61.2.2.2.1 m57 (by decide)
        refine pv_istoren (pc := 60) (n := 3) 3 rfl (by decide) rfl (fm_dec dtX1_readProduct 33 rfl) ?_
        dsimp only [List.set_cons_zero, List.set_cons_succ]
        refine pv_aloadn (pc := 61) (n := 0) 0 rfl rfl (fm_dec dtX1_readProduct 34 rfl) ?_
        refine pv_iload (pc := 62) (i := 5) rfl (fm_dec dtX1_readProduct 35 rfl) ?_
        refine pv_bipush (pc := 64) (v := 42) (by decide) (fm_dec dtX1_readProduct 36 rfl) ?_
        refine pv_icmp_ne (pc := 66) 74 (by decide) (fm_dec dtX1_readProduct 37 rfl) (fun hc66 => by exfalso; exact hc66 hc32) (fun _ => ?_)
        refine pv_bipush (pc := 69) (v := (-10)) (by decide) (fm_dec dtX1_readProduct 38 rfl) ?_
        refine pv_goto (pc := 71) 76 (by decide) (fm_dec dtX1_readProduct 39 rfl) ?_
        refine pv_invV1 (k := 23) (d' := 0) (pc := 76) pcv_X1_57 (by decide) rfl (Nat.le_of_ble_eq_true rfl) (by omega) (fm_dec dtX1_readProduct 41 rfl) ?_
        refine c_emit hP61.2.2.2.1 m57 ?_ 
        refine pv_then0 ?_
        refine pv_iincc (pc := 79) 4 1 (by decide) rfl (by decide) rfl (fm_dec dtX1_readProduct 42 rfl) ?_
        dsimp only [List.set_cons_zero, List.set_cons_succ]
        refine pv_goto (pc := 82) 10 (by decide) (fm_dec dtX1_readProduct 43 rfl) ?_
        have hP9 : xlPre (emM M57 (m + c57.length) (-10)) tx n q57 (m + (c57.length + 1)) := ⟨k76.1, k76.2.1, k76.2.2.1, (by have h9 := k76.2.2.2.1; simpa [Nat.add_assoc] using h9), (by have := hP.2.2.2.2.1; have := l57.1; omega), hP.2.2.2.2.2⟩
        have kA : xlOk M M57 tx n q57 m c57 := (by have h9 := ((hP.nil.xd k23).xd k44).trans (by simpa using k57); simpa using h9)
        have kB : xlOk M (emM M57 (m + c57.length) (-10)) tx n q57 m (c57 ++ [(4, 0)]) := kA.trans k76
        have ne9 := spBind_ne (spBind_ne2 ne57 e57)
        exact h3 o q57 (m + (c57.length + 1)) _ Q op hP9 ho ho6 ne9 ⟨fun M2 ds q2 e2 k2 => hE.1 M2 _ q2 ((if_pos t43).trans (spOp_ok e57 e2)) (by have h9 := kB.trans (ds := ds) (by simpa [Nat.add_assoc] using k2); simpa using h9), fun M2 k a e2 k2 => hE.2 M2 k a ((if_pos t43).trans (spOp_b2 e57 e2)) (kB.bad k2)⟩ (i + 1) _ _ (i32_p1 hi (by have h150 := hP9.2.2.2.2.2; omega)) (by have := l57.1; omega)
      · refine pv_then1 ?_
        refine pv_istoren (pc := 60) (n := 3) 3 rfl (by decide) rfl (fm_dec dtX1_readProduct 33 rfl) ?_
        dsimp only [List.set_cons_zero, List.set_cons_succ]
        refine pv_aloadn (pc := 61) (n := 0) 0 rfl rfl (fm_dec dtX1_readProduct 34 rfl) ?_
        refine pv_iload (pc := 62) (i := 5) rfl (fm_dec dtX1_readProduct 35 rfl) ?_
        refine pv_bipush (pc := 64) (v := 42) (by decide) (fm_dec dtX1_readProduct 36 rfl) ?_
        refine pv_icmp_ne (pc := 66) 74 (by decide) (fm_dec dtX1_readProduct 37 rfl) (fun hc66 => by exfalso; exact hc66 hc32) (fun _ => ?_)
        refine pv_bipush (pc := 69) (v := (-10)) (by decide) (fm_dec dtX1_readProduct 38 rfl) ?_
        refine pv_goto (pc := 71) 76 (by decide) (fm_dec dtX1_readProduct 39 rfl) ?_
        refine pv_invV1 (k := 23) (d' := 0) (pc := 76) pcv_X1_57 (by decide) rfl (Nat.le_of_ble_eq_true rfl) (by omega) (fm_dec dtX1_readProduct 41 rfl) ?_
        refine s_emit (scq_t _) hB.2.2.2.1 (fun M76 hI76 f76 => ?_)
        refine pv_then0 ?_
        refine pv_iincc (pc := 79) 4 1 (by decide) rfl (by decide) rfl (fm_dec dtX1_readProduct 42 rfl) ?_
        dsimp only [List.set_cons_zero, List.set_cons_succ]
        refine pv_goto (pc := 82) 10 (by decide) (fm_dec dtX1_readProduct 43 rfl) ?_
        exact xo_readProduct (hE.2 _ kb ab ((if_pos t43).trans (spOp_b1 eb)) (((hP.nil.xd k23).xd k44).bad (hB.go (emFr rfl f76) (f76 1 4 rfl).1 (f76 1 5 rfl).1 hI76)))
    · refine pv_iload (pc := 35) (i := 5) rfl (fm_dec dtX1_readProduct 18 rfl) ?_
      refine pv_bipush (pc := 37) (v := 47) (by decide) (fm_dec dtX1_readProduct 19 rfl) ?_
      refine pv_icmp_eq (pc := 39) 44 (by decide) (fm_dec dtX1_readProduct 20 rfl) (fun hc39 => ?_) (fun hc39 => ?_)
      · have t43n : ¬ tx (sk tx p) = 42 := (fun h9 => hc32 (i32_ext (hv23.trans (h9.trans (by decide)))))
        have t45 : tx (sk tx p) = 47 := (by rw [← hv23, hc39]; decide)
        have k44 := place1 k23.1 k23.2.1 k23.2.2.2 (by rw [t45]; decide)
        have hsk : p ≤ sk tx p := sp_ge p
        have hP57 := (hP.xd k23 hsk).xd k44 (Nat.le_succ _)
        have ne57 : ¬ spOp 5 (spL tx f 2 o (sk tx p + 1)) (fun q => spL tx f 4 o q) = .inl (9, 0) := fun h9 => hne (((if_neg t43n).trans (if_pos t45)).trans h9)
        refine pv_aloadn (pc := 44) (n := 1) 1 rfl rfl (fm_dec dtX1_readProduct 23 rfl) ?_
        refine pv_dup (pc := 45) rfl (fm_dec dtX1_readProduct 24 rfl) ?_
        refine pv_getI (k := 1) (j := 3) (ci := 7) (pc := 46) pfl_X1_41 (by decide) rfl (by decide) (fm_dec dtX1_readProduct 25 rfl) ?_
        refine pv_iconst (pc := 49) (v := 1) (by decide) (fm_dec dtX1_readProduct 26 rfl) ?_
        refine pv_iadd (pc := 50) (fm_dec dtX1_readProduct 27 rfl) ?_
        refine pv_putI (k := 1) (j := 3) (ci := 7) (pc := 51) pfl_X1_41 (by decide) rfl (by decide) (fm_dec dtX1_readProduct 28 rfl) ?_
        refine pv_aloadn (pc := 54) (n := 0) 0 rfl rfl (fm_dec dtX1_readProduct 29 rfl) ?_
        refine pv_aloadn (pc := 55) (n := 1) 1 rfl rfl (fm_dec dtX1_readProduct 30 rfl) ?_
        refine pv_iloadn (pc := 56) (n := 2) 2 rfl rfl (fm_dec dtX1_readProduct 31 rfl) ?_
        refine pv_invV2 (k := 23) (d' := (6 + 4 * (6 - o))) (pc := 57) pcv_X1_61 (by decide) rfl (Nat.le_of_ble_eq_true rfl) (by omega) (fm_dec dtX1_readProduct 32 rfl) ?_
        refine h1 o (sk tx p + 1) m _ _ op hP57 ho ho6 (spBind_ne ne57) ⟨fun M57 c57 q57 e57 k57 => ?_, fun M57 kb ab eb hB => ?_⟩  
        · refine pv_then1 ?_
          have l57 := spL_len hP.1.2.2.2.1 _ _ _ _ _ _ hP57.1.2.2.1 e57
          have hP61 := hP57.next k57 l57.1
          have m57 : m + c57.length < 150 := (by have := l57.2.1; have := hP.2.2.2.2.2; have := hP.2.2.2.2.1; have := l57.1; omega)
          have k76 := em_ok (x := (-11)) (c := (5, 0)) k57.1 k57.2.1 k57.2.2.1 hP61.2.2.2.1 m57 (by decide)
          refine pv_istoren (pc := 60) (n := 3) 3 rfl (by decide) rfl (fm_dec dtX1_readProduct 33 rfl) ?_
          dsimp only [List.set_cons_zero, List.set_cons_succ]
          refine pv_aloadn (pc := 61) (n := 0) 0 rfl rfl (fm_dec dtX1_readProduct 34 rfl) ?_
          refine pv_iload (pc := 62) (i := 5) rfl (fm_dec dtX1_readProduct 35 rfl) ?_
          refine pv_bipush (pc := 64) (v := 42) (by decide) (fm_dec dtX1_readProduct 36 rfl) ?_
          refine pv_icmp_ne (pc := 66) 74 (by decide) (fm_dec dtX1_readProduct 37 rfl) (fun _ => ?_) (fun hc66 => by exfalso; exact hc32 hc66)
          refine pv_bipush (pc := 74) (v := (-11)) (by decide) (fm_dec dtX1_readProduct 40 rfl) ?_
          refine pv_invV1 (k := 23) (d' := 0) (pc := 76) pcv_X1_57 (by decide) rfl (Nat.le_of_ble_eq_true rfl) (by omega) (fm_dec dtX1_readProduct 41 rfl) ?_
          refine c_emit hP61.2.2.2.1 m57 ?_ 
          refine pv_then0 ?_
          refine pv_iincc (pc := 79) 4 1 (by decide) rfl (by decide) rfl (fm_dec dtX1_readProduct 42 rfl) ?_
          dsimp only [List.set_cons_zero, List.set_cons_succ]
          refine pv_goto (pc := 82) 10 (by decide) (fm_dec dtX1_readProduct 43 rfl) ?_
          have hP9 : xlPre (emM M57 (m + c57.length) (-11)) tx n q57 (m + (c57.length + 1)) := ⟨k76.1, k76.2.1, k76.2.2.1, (by have h9 := k76.2.2.2.1; simpa [Nat.add_assoc] using h9), (by have := hP.2.2.2.2.1; have := l57.1; omega), hP.2.2.2.2.2⟩
          have kA : xlOk M M57 tx n q57 m c57 := (by have h9 := ((hP.nil.xd k23).xd k44).trans (by simpa using k57); simpa using h9)
          have kB : xlOk M (emM M57 (m + c57.length) (-11)) tx n q57 m (c57 ++ [(5, 0)]) := kA.trans k76
          have ne9 := spBind_ne (spBind_ne2 ne57 e57)
          exact h3 o q57 (m + (c57.length + 1)) _ Q op hP9 ho ho6 ne9 ⟨fun M2 ds q2 e2 k2 => hE.1 M2 _ q2 (((if_neg t43n).trans (if_pos t45)).trans (spOp_ok e57 e2)) (by have h9 := kB.trans (ds := ds) (by simpa [Nat.add_assoc] using k2); simpa using h9), fun M2 k a e2 k2 => hE.2 M2 k a (((if_neg t43n).trans (if_pos t45)).trans (spOp_b2 e57 e2)) (kB.bad k2)⟩ (i + 1) _ _ (i32_p1 hi (by have h150 := hP9.2.2.2.2.2; omega)) (by have := l57.1; omega)
        · refine pv_then1 ?_
          refine pv_istoren (pc := 60) (n := 3) 3 rfl (by decide) rfl (fm_dec dtX1_readProduct 33 rfl) ?_
          dsimp only [List.set_cons_zero, List.set_cons_succ]
          refine pv_aloadn (pc := 61) (n := 0) 0 rfl rfl (fm_dec dtX1_readProduct 34 rfl) ?_
          refine pv_iload (pc := 62) (i := 5) rfl (fm_dec dtX1_readProduct 35 rfl) ?_
          refine pv_bipush (pc := 64) (v := 42) (by decide) (fm_dec dtX1_readProduct 36 rfl) ?_
          refine pv_icmp_ne (pc := 66) 74 (by decide) (fm_dec dtX1_readProduct 37 rfl) (fun _ => ?_) (fun hc66 => by exfalso; exact hc32 hc66)
          refine pv_bipush (pc := 74) (v := (-11)) (by decide) (fm_dec dtX1_readProduct 40 rfl) ?_
          refine pv_invV1 (k := 23) (d' := 0) (pc := 76) pcv_X1_57 (by decide) rfl (Nat.le_of_ble_eq_true rfl) (by omega) (fm_dec dtX1_readProduct 41 rfl) ?_
          refine s_emit (scq_t _) hB.2.2.2.1 (fun M76 hI76 f76 => ?_)
          refine pv_then0 ?_
          refine pv_iincc (pc := 79) 4 1 (by decide) rfl (by decide) rfl (fm_dec dtX1_readProduct 42 rfl) ?_
          dsimp only [List.set_cons_zero, List.set_cons_succ]
          refine pv_goto (pc := 82) 10 (by decide) (fm_dec dtX1_readProduct 43 rfl) ?_
          exact xo_readProduct (hE.2 _ kb ab (((if_neg t43n).trans (if_pos t45)).trans (spOp_b1 eb)) (((hP.nil.xd k23).xd k44).bad (hB.go (emFr rfl f76) (f76 1 4 rfl).1 (f76 1 5 rfl).1 hI76)))
      · refine pv_iconst (pc := 42) (v := 1) (by decide) (fm_dec dtX1_readProduct 21 rfl) ?_
        exact pv_zreturn (pc := 43) rfl (by first | exact Or.inr rfl | exact Or.inl rfl) (fm_dec dtX1_readProduct 22 rfl) (hE.1 M23 [] (sk tx p) ((if_neg (fun h9 => hc32 (i32_ext (hv23.trans (h9.trans (by decide)))))).trans (if_neg (fun h9 => hc39 (i32_ext (hv23.trans (h9.trans (by decide))))))) (hP.nil.xd k23))
set_option maxRecDepth 20000 in
theorem xl_two {tx : tX} {n f o p m : Nat} {M : fmM} {Q : fmR → fmM → Prop} {op : Int32} (h0 : xlG tx n f 0) (hP : xlPre M tx n p m) (ho : op.toInt = (o : Int)) (ho6 : o ≤ 6) (hne : ¬ spTw tx (fun q => spL tx f 0 o q) p = .inl (9, 0)) (hE : xlE Q M tx n m (spTw tx (fun q => spL tx f 0 o q) p)) : pvGood Tx (9 + 4 * (6 - o)) qX1_readTwo [.ref 23, .ref 1, .int op] M Q := by
  refine pvGood_of (Nat.le_of_ble_eq_true rfl) ?_
  show pvEv Tx (9 + 4 * (6 - o)) qX1_readTwo 0 [some (.ref 23), some (.ref 1), some (.int op)] [] M Q
  refine pv_aloadn (pc := 0) (n := 1) 1 rfl rfl (fm_dec dtX1_readTwo 0 rfl) ?_
  refine pv_bipush (pc := 1) (v := 91) (by decide) (fm_dec dtX1_readTwo 1 rfl) ?_
  refine pv_invV1 (k := 1) (d' := 1) (pc := 3) pcv_X1_64 (by decide) rfl (Nat.le_of_ble_eq_true rfl) (by omega) (fm_dec dtX1_readTwo 2 rfl) ?_
  refine x_signC 91 (by decide) (by decide) hP.1 hP.2.1 hP.2.2.1 (fun M3 q3 e3 k3 => ?_) (fun Mb kb ab eb hB => ?_)  
  · refine pv_then1 ?_
    refine pv_if_eq (pc := 6) 49 (by decide) (fm_dec dtX1_readTwo 3 rfl) (fun hc6 => by exfalso; revert hc6; decide) (fun _ => ?_)
    have s3 := spSign_ok hP.1.2.2.2.1 hP.1.2.2.1 (by decide) e3
    have hP3 := hP.xd k3 (by omega)
    refine pv_aloadn (pc := 9) (n := 0) 0 rfl rfl (fm_dec dtX1_readTwo 4 rfl) ?_
    refine pv_aloadn (pc := 10) (n := 1) 1 rfl rfl (fm_dec dtX1_readTwo 5 rfl) ?_
    refine pv_iloadn (pc := 11) (n := 2) 2 rfl rfl (fm_dec dtX1_readTwo 6 rfl) ?_
    refine pv_invV2 (k := 23) (d' := (8 + 4 * (6 - o))) (pc := 12) pcv_X1_31 (by decide) rfl (Nat.le_of_ble_eq_true rfl) (by omega) (fm_dec dtX1_readTwo 7 rfl) ?_
    refine h0 o q3 m M3 _ op hP3 ho ho6 (fun h9 => hne (by unfold spTw spBind; rw [e3]; simp only; rw [h9])) ⟨fun M12 c12 q12 e12 k12 => ?_, fun Mb kb ab eb hB => ?_⟩  
    · refine pv_then1 ?_
      refine pv_if_eq (pc := 15) 49 (by decide) (fm_dec dtX1_readTwo 8 rfl) (fun hc15 => by exfalso; revert hc15; decide) (fun _ => ?_)
      have l12 := spL_len hP.1.2.2.2.1 _ _ _ _ _ _ hP3.1.2.2.1 e12
      have hP12 := hP3.next k12 l12.1
      have kA : xlOk M M12 tx n q12 m c12 := (by have h9 := (hP.nil.xd k3).trans (by simpa using k12); simpa using h9)
      refine pv_aloadn (pc := 18) (n := 1) 1 rfl rfl (fm_dec dtX1_readTwo 9 rfl) ?_
      refine pv_bipush (pc := 19) (v := 44) (by decide) (fm_dec dtX1_readTwo 10 rfl) ?_
      refine pv_invV1 (k := 1) (d' := 1) (pc := 21) pcv_X1_64 (by decide) rfl (Nat.le_of_ble_eq_true rfl) (by omega) (fm_dec dtX1_readTwo 11 rfl) ?_
      refine x_signC 44 (by decide) (by decide) hP12.1 hP12.2.1 hP12.2.2.1 (fun M21 q21 e21 k21 => ?_) (fun Mb kb ab eb hB => ?_)  
      · refine pv_then1 ?_
        refine pv_if_eq (pc := 24) 49 (by decide) (fm_dec dtX1_readTwo 12 rfl) (fun hc24 => by exfalso; revert hc24; decide) (fun _ => ?_)
        have s21 := spSign_ok hP.1.2.2.2.1 hP12.1.2.2.1 (by decide) e21
        have hP21 := hP12.xd k21 (by omega)
        refine pv_aloadn (pc := 27) (n := 0) 0 rfl rfl (fm_dec dtX1_readTwo 13 rfl) ?_
        refine pv_aloadn (pc := 28) (n := 1) 1 rfl rfl (fm_dec dtX1_readTwo 14 rfl) ?_
        refine pv_iloadn (pc := 29) (n := 2) 2 rfl rfl (fm_dec dtX1_readTwo 15 rfl) ?_
        refine pv_invV2 (k := 23) (d' := (8 + 4 * (6 - o))) (pc := 30) pcv_X1_31 (by decide) rfl (Nat.le_of_ble_eq_true rfl) (by omega) (fm_dec dtX1_readTwo 16 rfl) ?_
        refine h0 o q21 (m + c12.length) M21 _ op hP21 ho ho6 (fun h9 => hne (by unfold spTw spBind; rw [e3]; simp only; rw [e12]; simp only; rw [e21]; simp only; rw [h9])) ⟨fun M30 c30 q30 e30 k30 => ?_, fun Mb kb ab eb hB => ?_⟩  
        · refine pv_then1 ?_
          refine pv_if_eq (pc := 33) 49 (by decide) (fm_dec dtX1_readTwo 17 rfl) (fun hc33 => by exfalso; revert hc33; decide) (fun _ => ?_)
          have l30 := spL_len hP.1.2.2.2.1 _ _ _ _ _ _ hP21.1.2.2.1 e30
          have hP30 := hP21.next k30 l30.1
          have kB : xlOk M M30 tx n q30 m (c12 ++ c30) := (kA.xd k21).trans k30
          refine pv_aloadn (pc := 36) (n := 1) 1 rfl rfl (fm_dec dtX1_readTwo 18 rfl) ?_
          refine pv_bipush (pc := 37) (v := 93) (by decide) (fm_dec dtX1_readTwo 19 rfl) ?_
          refine pv_invV1 (k := 1) (d' := 1) (pc := 39) pcv_X1_64 (by decide) rfl (Nat.le_of_ble_eq_true rfl) (by omega) (fm_dec dtX1_readTwo 20 rfl) ?_
          refine x_signC 93 (by decide) (by decide) hP30.1 hP30.2.1 hP30.2.2.1 (fun M39 q39 e39 k39 => ?_) (fun Mb kb ab eb hB => ?_)  
          · refine pv_then1 ?_
            refine pv_if_eq (pc := 42) 49 (by decide) (fm_dec dtX1_readTwo 21 rfl) (fun hc42 => by exfalso; revert hc42; decide) (fun _ => ?_)
            refine pv_iconst (pc := 45) (v := 1) (by decide) (fm_dec dtX1_readTwo 22 rfl) ?_
            refine pv_goto (pc := 46) 50 (by decide) (fm_dec dtX1_readTwo 23 rfl) ?_
            exact pv_zreturn (pc := 50) rfl (by first | exact Or.inr rfl | exact Or.inl rfl) (fm_dec dtX1_readTwo 25 rfl) (hE.1 M39 (c12 ++ c30) q39 (by unfold spTw spBind; rw [e3]; simp only; rw [e12]; simp only; rw [e21]; simp only; rw [e30]; simp only; rw [e39]) (kB.xd k39))
          · refine pv_then1 ?_
            refine pv_if_eq (pc := 42) 49 (by decide) (fm_dec dtX1_readTwo 21 rfl) (fun _ => ?_) (fun hc42 => by exfalso; revert hc42; decide)
            refine pv_iconst (pc := 49) (v := 0) (by decide) (fm_dec dtX1_readTwo 24 rfl) ?_
            exact pv_zreturn (pc := 50) rfl (by first | exact Or.inr rfl | exact Or.inl rfl) (fm_dec dtX1_readTwo 25 rfl) (hE.2 Mb kb ab (by unfold spTw spBind; rw [e3]; simp only; rw [e12]; simp only; rw [e21]; simp only; rw [e30]; simp only; rw [eb]) (kB.xdb hB))
        · refine pv_then1 ?_
          refine pv_if_eq (pc := 33) 49 (by decide) (fm_dec dtX1_readTwo 17 rfl) (fun _ => ?_) (fun hc33 => by exfalso; revert hc33; decide)
          refine pv_iconst (pc := 49) (v := 0) (by decide) (fm_dec dtX1_readTwo 24 rfl) ?_
          exact pv_zreturn (pc := 50) rfl (by first | exact Or.inr rfl | exact Or.inl rfl) (fm_dec dtX1_readTwo 25 rfl) (hE.2 Mb kb ab (by unfold spTw spBind; rw [e3]; simp only; rw [e12]; simp only; rw [e21]; simp only; rw [eb]) ((kA.xd k21).bad hB))
      · refine pv_then1 ?_
        refine pv_if_eq (pc := 24) 49 (by decide) (fm_dec dtX1_readTwo 12 rfl) (fun _ => ?_) (fun hc24 => by exfalso; revert hc24; decide)
        refine pv_iconst (pc := 49) (v := 0) (by decide) (fm_dec dtX1_readTwo 24 rfl) ?_
        exact pv_zreturn (pc := 50) rfl (by first | exact Or.inr rfl | exact Or.inl rfl) (fm_dec dtX1_readTwo 25 rfl) (hE.2 Mb kb ab (by unfold spTw spBind; rw [e3]; simp only; rw [e12]; simp only; rw [eb]) (kA.xdb hB))
    · refine pv_then1 ?_
      refine pv_if_eq (pc := 15) 49 (by decide) (fm_dec dtX1_readTwo 8 rfl) (fun _ => ?_) (fun hc15 => by exfalso; revert hc15; decide)
      refine pv_iconst (pc := 49) (v := 0) (by decide) (fm_dec dtX1_readTwo 24 rfl) ?_
      exact pv_zreturn (pc := 50) rfl (by first | exact Or.inr rfl | exact Or.inl rfl) (fm_dec dtX1_readTwo 25 rfl) (hE.2 Mb kb ab (by unfold spTw spBind; rw [e3]; simp only; rw [eb]) ((hP.nil.xd k3).bad hB))
  · refine pv_then1 ?_
    refine pv_if_eq (pc := 6) 49 (by decide) (fm_dec dtX1_readTwo 3 rfl) (fun _ => ?_) (fun hc6 => by exfalso; revert hc6; decide)
    refine pv_iconst (pc := 49) (v := 0) (by decide) (fm_dec dtX1_readTwo 24 rfl) ?_
    exact pv_zreturn (pc := 50) rfl (by first | exact Or.inr rfl | exact Or.inl rfl) (fm_dec dtX1_readTwo 25 rfl) (hE.2 Mb kb ab (by unfold spTw spBind; rw [eb]) (hP.nil.xdb hB))
theorem un_w {tx : tX} {a : Nat} (h : tW (tx a) = false) : ¬ wd tx a = lwLeast ∧ ¬ wd tx a = lwMost ∧ lwK (wd tx a) = none := by
  rw [wd_f h]
  exact ⟨by decide, by decide, by decide⟩
theorem un_p {tx : tX} {rc : Nat → tR tC} {o a : Nat} (h : tx a = 40) : spOne tx rc o a = if o = 6 then .inl (3, a) else spPar tx rc (a + 1) := by
  have h9 := un_w (tx := tx) (a := a) (by rw [h]; decide)
  unfold spOne
  rw [if_neg h9.1, if_neg h9.2.1, if_pos h]
theorem un_n {tx : tX} {rc : Nat → tR tC} {o a : Nat} (h1 : ¬ wd tx a = lwLeast) (h2 : ¬ wd tx a = lwMost) (h3 : lwK (wd tx a) = none) (h : ¬ tx a = 40) : spOne tx rc o a = spBind (spNum tx 0 999 a) fun v q => .inr ([(0, v)], q) := by
  unfold spOne
  rw [if_neg h1, if_neg h2, if_neg h, h3]
theorem un_k {tx : tX} {rc : Nat → tR tC} {o a k : Nat} (h1 : ¬ wd tx a = lwLeast) (h2 : ¬ wd tx a = lwMost) (h3 : lwK (wd tx a) = some k) (h : ¬ tx a = 40) : spOne tx rc o a = .inr ([(1, k)], sp tW tx a) := by
  unfold spOne
  rw [if_neg h1, if_neg h2, if_neg h, h3]
theorem un_5 {tx : tX} {rc : Nat → tR tC} {o a j : Nat} (h : (j = 5 ∧ wd tx a = lwLeast) ∨ (j = 6 ∧ wd tx a = lwMost ∧ ¬ wd tx a = lwLeast)) : spOne tx rc o a = if o = 6 then .inl (3, a) else spTwo tx rc (j + 1) (sp tW tx a) := by
  unfold spOne
  rcases h with ⟨rfl, h1⟩ | ⟨rfl, h1, h2⟩
  · rw [if_pos h1]
  · rw [if_neg h2, if_pos h1]
theorem sub_m1 {w : Int32} {j : Nat} (hw : w.toInt = (j : Int)) (hj : j < 10) : (-1 - w).toInt = -1 - (j : Int) := by
  have e : (-1 : Int32).toInt = -1 := by decide
  rw [sc_sub (by omega) (by omega), e, hw]
theorem wl_len {w : List Int} {j : Nat} (h : wdI wsLaw w 0 = some j) : 0 < w.length := by
  cases w with
  | nil => exact absurd ((show wdI wsLaw [] 0 = none by decide).symm.trans h) (by intro h9; cases h9)
  | cons c w => exact Nat.succ_pos _
theorem spTw_len {tx : tX} {n f o p q : Nat} {cs : tC} (ht : tOk tx n) (hp : p ≤ n) (h : spTw tx (fun q => spL tx f 0 o q) p = .inr (cs, q)) : p + cs.length < q ∧ q ≤ n := by
  obtain ⟨u1, q1, e1, h⟩ := spBind_ok h
  obtain ⟨c1, q2, e2, h⟩ := spBind_ok h
  obtain ⟨u3, q3, e3, h⟩ := spBind_ok h
  obtain ⟨c2, q4, e4, h⟩ := spBind_ok h
  obtain ⟨u5, q5, e5, h⟩ := spBind_ok h
  cases h
  have a1 := spSign_ok ht hp (by decide) e1
  have a2 := spL_len ht _ _ _ _ _ _ a1.2 e2
  have a3 := spSign_ok ht a2.2.1 (by decide) e3
  have a4 := spL_len ht _ _ _ _ _ _ a3.2 e4
  have a5 := spSign_ok ht a4.2.1 (by decide) e5
  rw [List.length_append]
  omega
set_option maxRecDepth 20000 in
theorem xl_unit {tx : tX} {n f : Nat} (h0 : xlG tx n f 0) : xlG tx n (f + 1) 2 := by
  intro o p m M Q op hP ho ho6 hne hE
  refine pvGood_of (Nat.le_of_ble_eq_true rfl) ?_
  show pvEv Tx (6 + 4 * (6 - o)) qX1_readUnit 0 [some (.ref 23), some (.ref 1), some (.int op), none, none, none] [] M Q
  refine pv_aloadn (pc := 0) (n := 1) 1 rfl rfl (fm_dec dtX1_readUnit 0 rfl) ?_
  refine pv_invV0 (k := 1) (d' := 0) (pc := 1) pcv_X1_35 (by decide) rfl (Nat.le_of_ble_eq_true rfl) (by omega) (fm_dec dtX1_readUnit 1 rfl) ?_
  refine x_peek hP.1 hP.2.1 hP.2.2.1 (fun M1 v1 hv1 k1 => ?_)
  refine pv_then1 ?_
  refine pv_istoren (pc := 4) (n := 3) 3 rfl (by decide) rfl (fm_dec dtX1_readUnit 2 rfl) ?_
  dsimp only [List.set_cons_zero, List.set_cons_succ]
  have e0 : spL tx (f + 1) 2 o p = spOne tx (fun q => spL tx f 0 (o + 1) q) o (sk tx p) := rfl
  have hsk : p ≤ sk tx p := sp_ge p
  have hss := sk_sk hP.1.2.2.2.1 hP.1.2.2.1
  have hn150 := hP.2.2.2.2.2
  have hmp := hP.2.2.2.2.1
  have hP1 := hP.xd k1 hsk
  refine pv_aloadn (pc := 5) (n := 1) 1 rfl rfl (fm_dec dtX1_readUnit 3 rfl) ?_
  refine pv_getI (k := 1) (j := 3) (ci := 7) (pc := 6) pfl_X1_41 (by decide) rfl (by decide) (fm_dec dtX1_readUnit 4 rfl) ?_
  refine pv_istore (pc := 9) (i := 4) (by decide) rfl (fm_dec dtX1_readUnit 5 rfl) ?_
  dsimp only [List.set_cons_zero, List.set_cons_succ]
  refine pv_iloadn (pc := 11) (n := 3) 3 rfl rfl (fm_dec dtX1_readUnit 6 rfl) ?_
  refine pv_bipush (pc := 12) (v := 40) (by decide) (fm_dec dtX1_readUnit 7 rfl) ?_
  refine pv_icmp_ne (pc := 14) 67 (by decide) (fm_dec dtX1_readUnit 8 rfl) (fun hc14 => ?_) (fun hc14 => ?_)
  · have t40 : ¬ tx (sk tx p) = 40 := (fun h9 => hc14 (i32_ext (hv1.trans (h9.trans (by decide)))))
    refine pv_iloadn (pc := 67) (n := 3) 3 rfl rfl (fm_dec dtX1_readUnit 38 rfl) ?_
    refine pv_bipush (pc := 68) (v := 48) (by decide) (fm_dec dtX1_readUnit 39 rfl) ?_
    refine pv_icmp_lt (pc := 70) 104 (by decide) (fm_dec dtX1_readUnit 40 rfl) (fun hc70 => ?_) (fun hc70 => ?_)
    · have tDn : tD (tx (sk tx p)) = false := (by rw [← hv1]; exact tD_f (Or.inl hc70))
      refine pv_aloadn (pc := 104) (n := 1) 1 rfl rfl (fm_dec dtX1_readUnit 57 rfl) ?_
      refine pv_ldcT (i := 3) (pc := 105) pkn_X1_76 ptx_X1_76 (fm_dec dtX1_readUnit 58 rfl) ?_
      refine pv_invV1 (k := 1) (d' := 5) (pc := 107) pcv_X1_78 (by decide) rfl (Nat.le_of_ble_eq_true rfl) (by omega) (fm_dec dtX1_readUnit 59 rfl) ?_
      refine x_word (i5 := 3) (ws := wsLaw) (by decide) chs_3 wsLaw_ok (by decide) k1.1 k1.2.1 k1.2.2.2 (fun M107 j w107 e107 hw107 k107 => ?_) (fun e107 Mb hB => ?_)  
      · refine pv_then1 ?_
        refine pv_istore (pc := 110) (i := 5) (by decide) rfl (fm_dec dtX1_readUnit 60 rfl) ?_
        dsimp only [List.set_cons_zero, List.set_cons_succ]
        rw [hss] at e107 k107
        have hj9 := wdI_lt wsLaw 0 j e107
        have hj7 : j < 7 := hj9.2
        have ew : ¬ w107 = -1 := (fun h9 => by have h8 := congrArg Int32.toInt h9; have h7 : (-1 : Int32).toInt = -1 := (by decide); omega)
        have hw2 := sp_ge (P := tW) (tx := tx) (sk tx p)
        have hwn := sp_le (p := sk tx p) tW_1 hP.1.2.2.2.1 k1.1.2.2.1
        have hwg : sk tx p < sp tW tx (sk tx p) := (by have h9 : 0 < (wd tx (sk tx p)).length := wl_len e107; rw [wd_len] at h9; omega)
        have kA := (hP.nil.xd k1).xd k107
        have hP107 : xlPre M107 tx n (sp tW tx (sk tx p)) m := hP1.xd k107 hw2
        refine pv_iload (pc := 112) (i := 5) rfl (fm_dec dtX1_readUnit 61 rfl) ?_
        refine pv_iconst (pc := 114) (v := (-1)) (by decide) (fm_dec dtX1_readUnit 62 rfl) ?_
        refine pv_icmp_ne (pc := 115) 120 (by decide) (fm_dec dtX1_readUnit 63 rfl) (fun _ => ?_) (fun hc115 => by exfalso; exact ew hc115)
        refine pv_iload (pc := 120) (i := 5) rfl (fm_dec dtX1_readUnit 66 rfl) ?_
        refine pv_iconst (pc := 122) (v := 5) (by decide) (fm_dec dtX1_readUnit 67 rfl) ?_
        refine pv_icmp_lt (pc := 123) 153 (by decide) (fm_dec dtX1_readUnit 68 rfl) (fun hc123 => ?_) (fun hc123 => ?_)
        · have h5 : j < 5 := (by rw [sc_lt] at hc123; have h9 : (5 : Int32).toInt = 5 := (by decide); omega)
          have u5 := wl_1 e107 h5
          have eU := un_k (rc := fun q => spL tx f 0 (o + 1) q) (o := o) u5.1 u5.2.1 u5.2.2 t40
          have hm158 : (M107.1 23 4).toInt = (m : Int) := hP107.2.2.2.1
          have m158 : m < 150 := (by omega)
          have k158 := em_ok (x := -1 - w107) (c := (1, j)) k107.1 k107.2.1 k107.2.2.2 hm158 m158 (by rw [sub_m1 hw107 (by omega)]; rfl)
          refine pv_aloadn (pc := 153) (n := 0) 0 rfl rfl (fm_dec dtX1_readUnit 86 rfl) ?_
          refine pv_iconst (pc := 154) (v := (-1)) (by decide) (fm_dec dtX1_readUnit 87 rfl) ?_
          refine pv_iload (pc := 155) (i := 5) rfl (fm_dec dtX1_readUnit 88 rfl) ?_
          refine pv_isub (pc := 157) (fm_dec dtX1_readUnit 89 rfl) ?_
          refine pv_invV1 (k := 23) (d' := 0) (pc := 158) pcv_X1_57 (by decide) rfl (Nat.le_of_ble_eq_true rfl) (by omega) (fm_dec dtX1_readUnit 90 rfl) ?_
          refine c_emit hm158 m158 ?_ 
          refine pv_then0 ?_
          refine pv_iconst (pc := 161) (v := 1) (by decide) (fm_dec dtX1_readUnit 91 rfl) ?_
          exact pv_zreturn (pc := 162) rfl (by first | exact Or.inr rfl | exact Or.inl rfl) (fm_dec dtX1_readUnit 92 rfl) (hE.1 _ [(1, j)] (sp tW tx (sk tx p)) (e0.trans eU) (by have h9 := kA.trans (by simpa using k158); simpa using h9))
        · have h5 : ¬ j < 5 := (by rw [sc_lt] at hc123; have h9 : (5 : Int32).toInt = 5 := (by decide); omega)
          have e5 := wl_5 e107 h5
          have eU := un_5 (rc := fun q => spL tx f 0 (o + 1) q) (o := o) e5
          refine pv_iloadn (pc := 126) (n := 2) 2 rfl rfl (fm_dec dtX1_readUnit 69 rfl) ?_
          refine pv_bipush (pc := 127) (v := 6) (by decide) (fm_dec dtX1_readUnit 70 rfl) ?_
          refine pv_icmp_lt (pc := 129) 140 (by decide) (fm_dec dtX1_readUnit 71 rfl) (fun hc129 => ?_) (fun hc129 => ?_)
          · have o6 : o < 6 := (by have h9 : (6 : Int32).toInt = 6 := (by decide); rw [sc_lt] at hc129; omega)
            rw [if_neg (show ¬ o = 6 by omega), spTw_eq] at eU
            have ne145 : ¬ spTw tx (fun q => spL tx f 0 (o + 1) q) (sp tW tx (sk tx p)) = .inl (9, 0) := spBind_ne (fun h9 => hne (e0.trans (eU.trans h9)))
            refine pv_aloadn (pc := 140) (n := 0) 0 rfl rfl (fm_dec dtX1_readUnit 77 rfl) ?_
            refine pv_aloadn (pc := 141) (n := 1) 1 rfl rfl (fm_dec dtX1_readUnit 78 rfl) ?_
            refine pv_iloadn (pc := 142) (n := 2) 2 rfl rfl (fm_dec dtX1_readUnit 79 rfl) ?_
            refine pv_iconst (pc := 143) (v := 1) (by decide) (fm_dec dtX1_readUnit 80 rfl) ?_
            refine pv_iadd (pc := 144) (fm_dec dtX1_readUnit 81 rfl) ?_
            refine pv_invV2 (k := 23) (d' := (9 + 4 * (6 - (o + 1)))) (pc := 145) pcv_X1_82 (by decide) rfl (Nat.le_of_ble_eq_true rfl) (by omega) (fm_dec dtX1_readUnit 82 rfl) ?_
            refine xl_two h0 hP107 (i32_p1 ho (by omega)) (by omega) ne145 ⟨fun M145 c145 q145 e145 k145 => ?_, fun Mb kb ab eb hB => ?_⟩  
            · refine pv_then1 ?_
              refine pv_if_ne (pc := 148) 153 (by decide) (fm_dec dtX1_readUnit 83 rfl) (fun _ => ?_) (fun hc148 => by exfalso; revert hc148; decide)
              have l145 : sp tW tx (sk tx p) + c145.length < q145 ∧ q145 ≤ n := spTw_len hP.1.2.2.2.1 hwn e145
              have hm158 : (M145.1 23 4).toInt = ((m + c145.length : Nat) : Int) := k145.2.2.2.1
              have m158 : m + c145.length < 150 := (by omega)
              have k158 := em_ok (x := -1 - w107) (c := (j + 1, 0)) k145.1 k145.2.1 k145.2.2.1 hm158 m158 (by rw [sub_m1 hw107 (by omega)]; rcases e5 with ⟨rfl, _⟩ | ⟨rfl, _⟩ <;> decide)
              refine pv_aloadn (pc := 153) (n := 0) 0 rfl rfl (fm_dec dtX1_readUnit 86 rfl) ?_
              refine pv_iconst (pc := 154) (v := (-1)) (by decide) (fm_dec dtX1_readUnit 87 rfl) ?_
              refine pv_iload (pc := 155) (i := 5) rfl (fm_dec dtX1_readUnit 88 rfl) ?_
              refine pv_isub (pc := 157) (fm_dec dtX1_readUnit 89 rfl) ?_
              refine pv_invV1 (k := 23) (d' := 0) (pc := 158) pcv_X1_57 (by decide) rfl (Nat.le_of_ble_eq_true rfl) (by omega) (fm_dec dtX1_readUnit 90 rfl) ?_
              refine c_emit hm158 m158 ?_ 
              refine pv_then0 ?_
              refine pv_iconst (pc := 161) (v := 1) (by decide) (fm_dec dtX1_readUnit 91 rfl) ?_
              exact pv_zreturn (pc := 162) rfl (by first | exact Or.inr rfl | exact Or.inl rfl) (fm_dec dtX1_readUnit 92 rfl) (hE.1 _ (c145 ++ [(j + 1, 0)]) q145 (e0.trans (eU.trans (by rw [e145]; rfl))) ((by have h9 := kA.trans (by simpa using k145); simpa using h9 : xlOk M M145 tx n q145 m c145).trans k158))
            · refine pv_then1 ?_
              refine pv_if_ne (pc := 148) 153 (by decide) (fm_dec dtX1_readUnit 83 rfl) (fun hc148 => by exfalso; revert hc148; decide) (fun _ => ?_)
              refine pv_iconst (pc := 151) (v := 0) (by decide) (fm_dec dtX1_readUnit 84 rfl) ?_
              exact pv_zreturn (pc := 152) rfl (by first | exact Or.inr rfl | exact Or.inl rfl) (fm_dec dtX1_readUnit 85 rfl) (hE.2 Mb kb ab (e0.trans (eU.trans (by rw [eb]; rfl))) (kA.bad hB))
          · refine pv_aloadn (pc := 132) (n := 1) 1 rfl rfl (fm_dec dtX1_readUnit 72 rfl) ?_
            refine pv_iconst (pc := 133) (v := 3) (by decide) (fm_dec dtX1_readUnit 73 rfl) ?_
            refine pv_iload (pc := 134) (i := 4) rfl (fm_dec dtX1_readUnit 74 rfl) ?_
            refine pv_invV2 (k := 1) (d' := 0) (pc := 136) pcv_X1_44 (by decide) rfl (Nat.le_of_ble_eq_true rfl) (by omega) (fm_dec dtX1_readUnit 75 rfl) ?_
            refine c_xfail0 k107.2.1 ?_ 
            refine pv_then1 ?_
            exact pv_zreturn (pc := 139) rfl (by first | exact Or.inr rfl | exact Or.inl rfl) (fm_dec dtX1_readUnit 76 rfl) (hE.2 _ 3 (sk tx p) (e0.trans (eU.trans (if_pos (show o = 6 by have h9 : (6 : Int32).toInt = 6 := (by decide); rw [sc_lt] at hc129; omega)))) (kA.xdb ⟨(show (3 : Int32).toInt = ((3 : Nat) : Int) by decide), k1.1.2.1, by decide, ((xdFr.refl _).set (Or.inr (Or.inl rfl))).set (Or.inr (Or.inr rfl)), xI_45 k107.2.2.2 (show (3 : Int32).toInt = ((3 : Nat) : Int) by decide) (by decide) k1.1.2.1 k1.1.2.2.1 k1.1.2.2.2.1.1⟩))
      · refine pv_then1 ?_
        refine pv_istore (pc := 110) (i := 5) (by decide) rfl (fm_dec dtX1_readUnit 60 rfl) ?_
        dsimp only [List.set_cons_zero, List.set_cons_succ]
        refine pv_iload (pc := 112) (i := 5) rfl (fm_dec dtX1_readUnit 61 rfl) ?_
        refine pv_iconst (pc := 114) (v := (-1)) (by decide) (fm_dec dtX1_readUnit 62 rfl) ?_
        refine pv_icmp_ne (pc := 115) 120 (by decide) (fm_dec dtX1_readUnit 63 rfl) (fun hc115 => by exfalso; revert hc115; decide) (fun _ => ?_)
        refine pv_iconst (pc := 118) (v := 0) (by decide) (fm_dec dtX1_readUnit 64 rfl) ?_
        exact pv_zreturn (pc := 119) rfl (by first | exact Or.inr rfl | exact Or.inl rfl) (fm_dec dtX1_readUnit 65 rfl) (hE.2 Mb 1 (sk tx p) (e0.trans ((un_n (wl_0 (hss ▸ e107)).1 (wl_0 (hss ▸ e107)).2.1 (wl_0 (hss ▸ e107)).2.2 t40).trans (by unfold spBind spNum; rw [hss, if_neg (by simpa using tDn)]))) ((hP.nil.xd k1).xdb (by rw [hss] at hB; exact hB)))
    · refine pv_iloadn (pc := 73) (n := 3) 3 rfl rfl (fm_dec dtX1_readUnit 41 rfl) ?_
      refine pv_bipush (pc := 74) (v := 57) (by decide) (fm_dec dtX1_readUnit 42 rfl) ?_
      refine pv_icmp_gt (pc := 76) 104 (by decide) (fm_dec dtX1_readUnit 43 rfl) (fun hc76 => ?_) (fun hc76 => ?_)
      · have tDn : tD (tx (sk tx p)) = false := (by rw [← hv1]; exact tD_f (Or.inr hc76))
        refine pv_aloadn (pc := 104) (n := 1) 1 rfl rfl (fm_dec dtX1_readUnit 57 rfl) ?_
        refine pv_ldcT (i := 3) (pc := 105) pkn_X1_76 ptx_X1_76 (fm_dec dtX1_readUnit 58 rfl) ?_
        refine pv_invV1 (k := 1) (d' := 5) (pc := 107) pcv_X1_78 (by decide) rfl (Nat.le_of_ble_eq_true rfl) (by omega) (fm_dec dtX1_readUnit 59 rfl) ?_
        refine x_word (i5 := 3) (ws := wsLaw) (by decide) chs_3 wsLaw_ok (by decide) k1.1 k1.2.1 k1.2.2.2 (fun M107 j w107 e107 hw107 k107 => ?_) (fun e107 Mb hB => ?_)  
        · refine pv_then1 ?_
          refine pv_istore (pc := 110) (i := 5) (by decide) rfl (fm_dec dtX1_readUnit 60 rfl) ?_
          dsimp only [List.set_cons_zero, List.set_cons_succ]
          rw [hss] at e107 k107
          have hj9 := wdI_lt wsLaw 0 j e107
          have hj7 : j < 7 := hj9.2
          have ew : ¬ w107 = -1 := (fun h9 => by have h8 := congrArg Int32.toInt h9; have h7 : (-1 : Int32).toInt = -1 := (by decide); omega)
          have hw2 := sp_ge (P := tW) (tx := tx) (sk tx p)
          have hwn := sp_le (p := sk tx p) tW_1 hP.1.2.2.2.1 k1.1.2.2.1
          have hwg : sk tx p < sp tW tx (sk tx p) := (by have h9 : 0 < (wd tx (sk tx p)).length := wl_len e107; rw [wd_len] at h9; omega)
          have kA := (hP.nil.xd k1).xd k107
          have hP107 : xlPre M107 tx n (sp tW tx (sk tx p)) m := hP1.xd k107 hw2
          refine pv_iload (pc := 112) (i := 5) rfl (fm_dec dtX1_readUnit 61 rfl) ?_
          refine pv_iconst (pc := 114) (v := (-1)) (by decide) (fm_dec dtX1_readUnit 62 rfl) ?_
          refine pv_icmp_ne (pc := 115) 120 (by decide) (fm_dec dtX1_readUnit 63 rfl) (fun _ => ?_) (fun hc115 => by exfalso; exact ew hc115)
          refine pv_iload (pc := 120) (i := 5) rfl (fm_dec dtX1_readUnit 66 rfl) ?_
          refine pv_iconst (pc := 122) (v := 5) (by decide) (fm_dec dtX1_readUnit 67 rfl) ?_
          refine pv_icmp_lt (pc := 123) 153 (by decide) (fm_dec dtX1_readUnit 68 rfl) (fun hc123 => ?_) (fun hc123 => ?_)
          · have h5 : j < 5 := (by rw [sc_lt] at hc123; have h9 : (5 : Int32).toInt = 5 := (by decide); omega)
            have u5 := wl_1 e107 h5
            have eU := un_k (rc := fun q => spL tx f 0 (o + 1) q) (o := o) u5.1 u5.2.1 u5.2.2 t40
            have hm158 : (M107.1 23 4).toInt = (m : Int) := hP107.2.2.2.1
            have m158 : m < 150 := (by omega)
            have k158 := em_ok (x := -1 - w107) (c := (1, j)) k107.1 k107.2.1 k107.2.2.2 hm158 m158 (by rw [sub_m1 hw107 (by omega)]; rfl)
            refine pv_aloadn (pc := 153) (n := 0) 0 rfl rfl (fm_dec dtX1_readUnit 86 rfl) ?_
            refine pv_iconst (pc := 154) (v := (-1)) (by decide) (fm_dec dtX1_readUnit 87 rfl) ?_
            refine pv_iload (pc := 155) (i := 5) rfl (fm_dec dtX1_readUnit 88 rfl) ?_
            refine pv_isub (pc := 157) (fm_dec dtX1_readUnit 89 rfl) ?_
            refine pv_invV1 (k := 23) (d' := 0) (pc := 158) pcv_X1_57 (by decide) rfl (Nat.le_of_ble_eq_true rfl) (by omega) (fm_dec dtX1_readUnit 90 rfl) ?_
            refine c_emit hm158 m158 ?_ 
            refine pv_then0 ?_
            refine pv_iconst (pc := 161) (v := 1) (by decide) (fm_dec dtX1_readUnit 91 rfl) ?_
            exact pv_zreturn (pc := 162) rfl (by first | exact Or.inr rfl | exact Or.inl rfl) (fm_dec dtX1_readUnit 92 rfl) (hE.1 _ [(1, j)] (sp tW tx (sk tx p)) (e0.trans eU) (by have h9 := kA.trans (by simpa using k158); simpa using h9))
          · have h5 : ¬ j < 5 := (by rw [sc_lt] at hc123; have h9 : (5 : Int32).toInt = 5 := (by decide); omega)
            have e5 := wl_5 e107 h5
            have eU := un_5 (rc := fun q => spL tx f 0 (o + 1) q) (o := o) e5
            refine pv_iloadn (pc := 126) (n := 2) 2 rfl rfl (fm_dec dtX1_readUnit 69 rfl) ?_
            refine pv_bipush (pc := 127) (v := 6) (by decide) (fm_dec dtX1_readUnit 70 rfl) ?_
            refine pv_icmp_lt (pc := 129) 140 (by decide) (fm_dec dtX1_readUnit 71 rfl) (fun hc129 => ?_) (fun hc129 => ?_)
            · have o6 : o < 6 := (by have h9 : (6 : Int32).toInt = 6 := (by decide); rw [sc_lt] at hc129; omega)
              rw [if_neg (show ¬ o = 6 by omega), spTw_eq] at eU
              have ne145 : ¬ spTw tx (fun q => spL tx f 0 (o + 1) q) (sp tW tx (sk tx p)) = .inl (9, 0) := spBind_ne (fun h9 => hne (e0.trans (eU.trans h9)))
              refine pv_aloadn (pc := 140) (n := 0) 0 rfl rfl (fm_dec dtX1_readUnit 77 rfl) ?_
              refine pv_aloadn (pc := 141) (n := 1) 1 rfl rfl (fm_dec dtX1_readUnit 78 rfl) ?_
              refine pv_iloadn (pc := 142) (n := 2) 2 rfl rfl (fm_dec dtX1_readUnit 79 rfl) ?_
              refine pv_iconst (pc := 143) (v := 1) (by decide) (fm_dec dtX1_readUnit 80 rfl) ?_
              refine pv_iadd (pc := 144) (fm_dec dtX1_readUnit 81 rfl) ?_
              refine pv_invV2 (k := 23) (d' := (9 + 4 * (6 - (o + 1)))) (pc := 145) pcv_X1_82 (by decide) rfl (Nat.le_of_ble_eq_true rfl) (by omega) (fm_dec dtX1_readUnit 82 rfl) ?_
              refine xl_two h0 hP107 (i32_p1 ho (by omega)) (by omega) ne145 ⟨fun M145 c145 q145 e145 k145 => ?_, fun Mb kb ab eb hB => ?_⟩  
              · refine pv_then1 ?_
                refine pv_if_ne (pc := 148) 153 (by decide) (fm_dec dtX1_readUnit 83 rfl) (fun _ => ?_) (fun hc148 => by exfalso; revert hc148; decide)
                have l145 : sp tW tx (sk tx p) + c145.length < q145 ∧ q145 ≤ n := spTw_len hP.1.2.2.2.1 hwn e145
                have hm158 : (M145.1 23 4).toInt = ((m + c145.length : Nat) : Int) := k145.2.2.2.1
                have m158 : m + c145.length < 150 := (by omega)
                have k158 := em_ok (x := -1 - w107) (c := (j + 1, 0)) k145.1 k145.2.1 k145.2.2.1 hm158 m158 (by rw [sub_m1 hw107 (by omega)]; rcases e5 with ⟨rfl, _⟩ | ⟨rfl, _⟩ <;> decide)
                refine pv_aloadn (pc := 153) (n := 0) 0 rfl rfl (fm_dec dtX1_readUnit 86 rfl) ?_
                refine pv_iconst (pc := 154) (v := (-1)) (by decide) (fm_dec dtX1_readUnit 87 rfl) ?_
                refine pv_iload (pc := 155) (i := 5) rfl (fm_dec dtX1_readUnit 88 rfl) ?_
                refine pv_isub (pc := 157) (fm_dec dtX1_readUnit 89 rfl) ?_
                refine pv_invV1 (k := 23) (d' := 0) (pc := 158) pcv_X1_57 (by decide) rfl (Nat.le_of_ble_eq_true rfl) (by omega) (fm_dec dtX1_readUnit 90 rfl) ?_
                refine c_emit hm158 m158 ?_ 
                refine pv_then0 ?_
                refine pv_iconst (pc := 161) (v := 1) (by decide) (fm_dec dtX1_readUnit 91 rfl) ?_
                exact pv_zreturn (pc := 162) rfl (by first | exact Or.inr rfl | exact Or.inl rfl) (fm_dec dtX1_readUnit 92 rfl) (hE.1 _ (c145 ++ [(j + 1, 0)]) q145 (e0.trans (eU.trans (by rw [e145]; rfl))) ((by have h9 := kA.trans (by simpa using k145); simpa using h9 : xlOk M M145 tx n q145 m c145).trans k158))
              · refine pv_then1 ?_
                refine pv_if_ne (pc := 148) 153 (by decide) (fm_dec dtX1_readUnit 83 rfl) (fun hc148 => by exfalso; revert hc148; decide) (fun _ => ?_)
                refine pv_iconst (pc := 151) (v := 0) (by decide) (fm_dec dtX1_readUnit 84 rfl) ?_
                exact pv_zreturn (pc := 152) rfl (by first | exact Or.inr rfl | exact Or.inl rfl) (fm_dec dtX1_readUnit 85 rfl) (hE.2 Mb kb ab (e0.trans (eU.trans (by rw [eb]; rfl))) (kA.bad hB))
            · refine pv_aloadn (pc := 132) (n := 1) 1 rfl rfl (fm_dec dtX1_readUnit 72 rfl) ?_
              refine pv_iconst (pc := 133) (v := 3) (by decide) (fm_dec dtX1_readUnit 73 rfl) ?_
              refine pv_iload (pc := 134) (i := 4) rfl (fm_dec dtX1_readUnit 74 rfl) ?_
              refine pv_invV2 (k := 1) (d' := 0) (pc := 136) pcv_X1_44 (by decide) rfl (Nat.le_of_ble_eq_true rfl) (by omega) (fm_dec dtX1_readUnit 75 rfl) ?_
              refine c_xfail0 k107.2.1 ?_ 
              refine pv_then1 ?_
              exact pv_zreturn (pc := 139) rfl (by first | exact Or.inr rfl | exact Or.inl rfl) (fm_dec dtX1_readUnit 76 rfl) (hE.2 _ 3 (sk tx p) (e0.trans (eU.trans (if_pos (show o = 6 by have h9 : (6 : Int32).toInt = 6 := (by decide); rw [sc_lt] at hc129; omega)))) (kA.xdb ⟨(show (3 : Int32).toInt = ((3 : Nat) : Int) by decide), k1.1.2.1, by decide, ((xdFr.refl _).set (Or.inr (Or.inl rfl))).set (Or.inr (Or.inr rfl)), xI_45 k107.2.2.2 (show (3 : Int32).toInt = ((3 : Nat) : Int) by decide) (by decide) k1.1.2.1 k1.1.2.2.1 k1.1.2.2.2.1.1⟩))
        · refine pv_then1 ?_
          refine pv_istore (pc := 110) (i := 5) (by decide) rfl (fm_dec dtX1_readUnit 60 rfl) ?_
          dsimp only [List.set_cons_zero, List.set_cons_succ]
          refine pv_iload (pc := 112) (i := 5) rfl (fm_dec dtX1_readUnit 61 rfl) ?_
          refine pv_iconst (pc := 114) (v := (-1)) (by decide) (fm_dec dtX1_readUnit 62 rfl) ?_
          refine pv_icmp_ne (pc := 115) 120 (by decide) (fm_dec dtX1_readUnit 63 rfl) (fun hc115 => by exfalso; revert hc115; decide) (fun _ => ?_)
          refine pv_iconst (pc := 118) (v := 0) (by decide) (fm_dec dtX1_readUnit 64 rfl) ?_
          exact pv_zreturn (pc := 119) rfl (by first | exact Or.inr rfl | exact Or.inl rfl) (fm_dec dtX1_readUnit 65 rfl) (hE.2 Mb 1 (sk tx p) (e0.trans ((un_n (wl_0 (hss ▸ e107)).1 (wl_0 (hss ▸ e107)).2.1 (wl_0 (hss ▸ e107)).2.2 t40).trans (by unfold spBind spNum; rw [hss, if_neg (by simpa using tDn)]))) ((hP.nil.xd k1).xdb (by rw [hss] at hB; exact hB)))
      · have tD9 : 48 ≤ tx (sk tx p) ∧ tx (sk tx p) ≤ 57 := (by rw [sc_lt] at hc70 hc76; have a1 : (48 : Int32).toInt = 48 := (by decide); have a2 : (57 : Int32).toInt = 57 := (by decide); omega)
        have hW9 : tW (tx (sk tx p)) = false := (by unfold tW; rw [decide_eq_false (show ¬ 97 ≤ tx (sk tx p) by omega)]; rfl)
        have uw := un_w hW9
        have eU := un_n (rc := fun q => spL tx f 0 (o + 1) q) (o := o) uw.1 uw.2.1 uw.2.2 t40
        refine pv_aloadn (pc := 79) (n := 0) 0 rfl rfl (fm_dec dtX1_readUnit 44 rfl) ?_
        refine pv_aloadn (pc := 80) (n := 1) 1 rfl rfl (fm_dec dtX1_readUnit 45 rfl) ?_
        refine pv_iconst (pc := 81) (v := 0) (by decide) (fm_dec dtX1_readUnit 46 rfl) ?_
        refine pv_sipush (pc := 82) (v := 999) (by decide) (fm_dec dtX1_readUnit 47 rfl) ?_
        refine pv_invV2 (k := 1) (d' := 2) (pc := 85) pcv_X1_68 (by decide) rfl (Nat.le_of_ble_eq_true rfl) (by omega) (fm_dec dtX1_readUnit 48 rfl) ?_
        refine x_numC 0 999 (by decide) (by decide) (by decide) k1.1 k1.2.1 k1.2.2.2 (fun M85 v85 q85 w85 e85 hw85 k85 => ?_) (fun Mb kb ab eb hB => ?_)  
        · refine pv_then1 ?_
          have n85 := spNum_ok hP.1.2.2.2.1 k1.1.2.2.1 e85
          have kA := hP.nil.xd k1 |>.xd k85
          have hm88 : (M85.1 23 4).toInt = (m : Int) := (by simpa using kA.2.2.2.1)
          have m88 : m < 150 := (by omega)
          have k88 := em_ok (x := w85) (c := (0, v85)) k85.1 k85.2.1 k85.2.2.2 hm88 m88 hw85
          refine pv_invV1 (k := 23) (d' := 0) (pc := 88) pcv_X1_57 (by decide) rfl (Nat.le_of_ble_eq_true rfl) (by omega) (fm_dec dtX1_readUnit 49 rfl) ?_
          refine c_emit hm88 m88 ?_ 
          refine pv_then0 ?_
          refine pv_aloadn (pc := 91) (n := 1) 1 rfl rfl (fm_dec dtX1_readUnit 50 rfl) ?_
          refine pv_invV0 (k := 1) (d' := 0) (pc := 92) pcv_X1_72 (by decide) rfl (Nat.le_of_ble_eq_true rfl) (by omega) (fm_dec dtX1_readUnit 51 rfl) ?_
          refine c_xfailed (fun _ => ?_) (fun h9 => absurd k88.2.1 h9) 
          refine pv_then1 ?_
          refine pv_if_ne (pc := 95) 102 (by decide) (fm_dec dtX1_readUnit 52 rfl) (fun hc95 => by exfalso; revert hc95; decide) (fun _ => ?_)
          refine pv_iconst (pc := 98) (v := 1) (by decide) (fm_dec dtX1_readUnit 53 rfl) ?_
          refine pv_goto (pc := 99) 103 (by decide) (fm_dec dtX1_readUnit 54 rfl) ?_
          exact pv_zreturn (pc := 103) rfl (by first | exact Or.inr rfl | exact Or.inl rfl) (fm_dec dtX1_readUnit 56 rfl) (hE.1 _ [(0, v85)] q85 (e0.trans (eU.trans (by have e9 : spNum tx 0 999 (sk tx p) = .inr (v85, q85) := e85; unfold spBind; rw [e9]))) (by have h9 := kA.trans (by simpa using k88); simpa using h9))
        · refine pv_then1 ?_
          refine pv_invV1 (k := 23) (d' := 0) (pc := 88) pcv_X1_57 (by decide) rfl (Nat.le_of_ble_eq_true rfl) (by omega) (fm_dec dtX1_readUnit 49 rfl) ?_
          refine s_emit (scq_t _) hB.2.2.2.2 (fun M76 hI76 f76 => ?_)
          refine pv_then0 ?_
          have hBb : xlBad M M76 kb ab := ((hP.nil.xd k1).xdb hB).go (emFr rfl f76) (f76 1 4 rfl).1 (f76 1 5 rfl).1 hI76
          refine pv_aloadn (pc := 91) (n := 1) 1 rfl rfl (fm_dec dtX1_readUnit 50 rfl) ?_
          refine pv_invV0 (k := 1) (d' := 0) (pc := 92) pcv_X1_72 (by decide) rfl (Nat.le_of_ble_eq_true rfl) (by omega) (fm_dec dtX1_readUnit 51 rfl) ?_
          refine c_xfailed (fun h9 => absurd h9 (hBb.nz)) (fun _ => ?_) 
          refine pv_then1 ?_
          refine pv_if_ne (pc := 95) 102 (by decide) (fm_dec dtX1_readUnit 52 rfl) (fun _ => ?_) (fun hc95 => by exfalso; revert hc95; decide)
          refine pv_iconst (pc := 102) (v := 0) (by decide) (fm_dec dtX1_readUnit 55 rfl) ?_
          exact pv_zreturn (pc := 103) rfl (by first | exact Or.inr rfl | exact Or.inl rfl) (fm_dec dtX1_readUnit 56 rfl) (hE.2 M76 kb ab (e0.trans (eU.trans (by unfold spBind; rw [show spNum tx 0 999 (sk tx p) = _ from eb]))) hBb)
  · have t40 : tx (sk tx p) = 40 := (by rw [← hv1, hc14]; decide)
    have eU := un_p (rc := fun q => spL tx f 0 (o + 1) q) (o := o) t40
    refine pv_iloadn (pc := 17) (n := 2) 2 rfl rfl (fm_dec dtX1_readUnit 9 rfl) ?_
    refine pv_bipush (pc := 18) (v := 6) (by decide) (fm_dec dtX1_readUnit 10 rfl) ?_
    refine pv_icmp_lt (pc := 20) 31 (by decide) (fm_dec dtX1_readUnit 11 rfl) (fun hc20 => ?_) (fun hc20 => ?_)
    · have o6 : o < 6 := (by have h9 : (6 : Int32).toInt = 6 := (by decide); rw [sc_lt] at hc20; omega)
      have k31 := place1 k1.1 k1.2.1 k1.2.2.2 (by rw [t40]; decide)
      have hP46 := hP1.xd k31 (Nat.le_succ _)
      rw [if_neg (show ¬ o = 6 by omega)] at eU
      have ne46 : ¬ spPar tx (fun q => spL tx f 0 (o + 1) q) (sk tx p + 1) = .inl (9, 0) := fun h9 => hne (e0.trans (eU.trans h9))
      refine pv_aloadn (pc := 31) (n := 1) 1 rfl rfl (fm_dec dtX1_readUnit 17 rfl) ?_
      refine pv_dup (pc := 32) rfl (fm_dec dtX1_readUnit 18 rfl) ?_
      refine pv_getI (k := 1) (j := 3) (ci := 7) (pc := 33) pfl_X1_41 (by decide) rfl (by decide) (fm_dec dtX1_readUnit 19 rfl) ?_
      refine pv_iconst (pc := 36) (v := 1) (by decide) (fm_dec dtX1_readUnit 20 rfl) ?_
      refine pv_iadd (pc := 37) (fm_dec dtX1_readUnit 21 rfl) ?_
      refine pv_putI (k := 1) (j := 3) (ci := 7) (pc := 38) pfl_X1_41 (by decide) rfl (by decide) (fm_dec dtX1_readUnit 22 rfl) ?_
      refine pv_aloadn (pc := 41) (n := 0) 0 rfl rfl (fm_dec dtX1_readUnit 23 rfl) ?_
      refine pv_aloadn (pc := 42) (n := 1) 1 rfl rfl (fm_dec dtX1_readUnit 24 rfl) ?_
      refine pv_iloadn (pc := 43) (n := 2) 2 rfl rfl (fm_dec dtX1_readUnit 25 rfl) ?_
      refine pv_iconst (pc := 44) (v := 1) (by decide) (fm_dec dtX1_readUnit 26 rfl) ?_
      refine pv_iadd (pc := 45) (fm_dec dtX1_readUnit 27 rfl) ?_
      refine pv_invV2 (k := 23) (d' := (8 + 4 * (6 - (o + 1)))) (pc := 46) pcv_X1_31 (by decide) rfl (Nat.le_of_ble_eq_true rfl) (by omega) (fm_dec dtX1_readUnit 28 rfl) ?_
      refine h0 (o + 1) (sk tx p + 1) m _ _ (op + 1) hP46 (i32_p1 ho (by omega)) (by omega) (spBind_ne ne46) ⟨fun M46 c46 q46 e46 k46 => ?_, fun Mb kb ab eb hB => ?_⟩  
      · refine pv_then1 ?_
        refine pv_if_eq (pc := 49) 65 (by decide) (fm_dec dtX1_readUnit 29 rfl) (fun hc49 => by exfalso; revert hc49; decide) (fun _ => ?_)
        refine pv_aloadn (pc := 52) (n := 1) 1 rfl rfl (fm_dec dtX1_readUnit 30 rfl) ?_
        refine pv_bipush (pc := 53) (v := 41) (by decide) (fm_dec dtX1_readUnit 31 rfl) ?_
        refine pv_invV1 (k := 1) (d' := 1) (pc := 55) pcv_X1_64 (by decide) rfl (Nat.le_of_ble_eq_true rfl) (by omega) (fm_dec dtX1_readUnit 32 rfl) ?_
        refine x_signC 41 (by decide) (by decide) k46.1 k46.2.1 k46.2.2.1 (fun M55 q55 e55 k55 => ?_) (fun Mb kb ab eb hB => ?_)  
        · refine pv_then1 ?_
          refine pv_if_eq (pc := 58) 65 (by decide) (fm_dec dtX1_readUnit 33 rfl) (fun hc58 => by exfalso; revert hc58; decide) (fun _ => ?_)
          refine pv_iconst (pc := 61) (v := 1) (by decide) (fm_dec dtX1_readUnit 34 rfl) ?_
          refine pv_goto (pc := 62) 66 (by decide) (fm_dec dtX1_readUnit 35 rfl) ?_
          exact pv_zreturn (pc := 66) rfl (by first | exact Or.inr rfl | exact Or.inl rfl) (fm_dec dtX1_readUnit 37 rfl) (hE.1 M55 c46 q55 (e0.trans (eU.trans (by unfold spPar spBind; dsimp only; rw [e46]; simp only; rw [e55]))) (by have h9 := (((hP.nil.xd k1).xd k31).trans (by simpa using k46)).xd k55; simpa using h9))
        · refine pv_then1 ?_
          refine pv_if_eq (pc := 58) 65 (by decide) (fm_dec dtX1_readUnit 33 rfl) (fun _ => ?_) (fun hc58 => by exfalso; revert hc58; decide)
          refine pv_iconst (pc := 65) (v := 0) (by decide) (fm_dec dtX1_readUnit 36 rfl) ?_
          exact pv_zreturn (pc := 66) rfl (by first | exact Or.inr rfl | exact Or.inl rfl) (fm_dec dtX1_readUnit 37 rfl) (hE.2 Mb kb ab (e0.trans (eU.trans (by unfold spPar spBind; dsimp only; rw [e46]; simp only; rw [eb]))) (by have h9 := (((hP.nil.xd k1).xd k31).trans (by simpa using k46)).xdb hB; exact h9))
      · refine pv_then1 ?_
        refine pv_if_eq (pc := 49) 65 (by decide) (fm_dec dtX1_readUnit 29 rfl) (fun _ => ?_) (fun hc49 => by exfalso; revert hc49; decide)
        refine pv_iconst (pc := 65) (v := 0) (by decide) (fm_dec dtX1_readUnit 36 rfl) ?_
        exact pv_zreturn (pc := 66) rfl (by first | exact Or.inr rfl | exact Or.inl rfl) (fm_dec dtX1_readUnit 37 rfl) (hE.2 Mb kb ab (e0.trans (eU.trans (by unfold spPar spBind; dsimp only; rw [eb]))) (((hP.nil.xd k1).xd k31).bad hB))
    · refine pv_aloadn (pc := 23) (n := 1) 1 rfl rfl (fm_dec dtX1_readUnit 12 rfl) ?_
      refine pv_iconst (pc := 24) (v := 3) (by decide) (fm_dec dtX1_readUnit 13 rfl) ?_
      refine pv_iload (pc := 25) (i := 4) rfl (fm_dec dtX1_readUnit 14 rfl) ?_
      refine pv_invV2 (k := 1) (d' := 0) (pc := 27) pcv_X1_44 (by decide) rfl (Nat.le_of_ble_eq_true rfl) (by omega) (fm_dec dtX1_readUnit 15 rfl) ?_
      refine c_xfail0 k1.2.1 ?_ 
      refine pv_then1 ?_
      exact pv_zreturn (pc := 30) rfl (by first | exact Or.inr rfl | exact Or.inl rfl) (fm_dec dtX1_readUnit 16 rfl) (hE.2 _ 3 (sk tx p) (e0.trans (eU.trans (if_pos (show o = 6 by have h9 : (6 : Int32).toInt = 6 := (by decide); rw [sc_lt] at hc20; omega)))) ((hP.nil.xd k1).xdb ⟨(show (3 : Int32).toInt = ((3 : Nat) : Int) by decide), (k1.1.2.1), by decide, ((xdFr.refl _).set (Or.inr (Or.inl rfl))).set (Or.inr (Or.inr rfl)), xI_45 k1.2.2.2 (show (3 : Int32).toInt = ((3 : Nat) : Int) by decide) (by decide) k1.1.2.1 k1.1.2.2.1 k1.1.2.2.2.1.1⟩))
theorem xl_all {tx : tX} {n : Nat} : ∀ f, xlG tx n f 0 ∧ xlG tx n f 1 ∧ xlG tx n f 2 ∧ xlG tx n f 3 ∧ xlG tx n f 4 := by
  intro f
  induction f with
  | zero => exact ⟨fun o p m M Q op hP ho ho6 hne => absurd rfl hne, fun o p m M Q op hP ho ho6 hne => absurd rfl hne, fun o p m M Q op hP ho ho6 hne => absurd rfl hne, fun o p m M Q op hP ho ho6 hne => absurd rfl hne, fun o p m M Q op hP ho ho6 hne => absurd rfl hne⟩
  | succ f ih => exact ⟨xl_readSum0 ih.2.1 ih.2.2.2.1, xl_readProduct0 ih.2.2.1 ih.2.2.2.2, xl_unit ih.1, xl_readSum3 ih.2.1 ih.2.2.2.1, xl_readProduct3 ih.2.2.1 ih.2.2.2.2⟩
end
-- P 18i
section
-- THE BYTES
theorem xb_bt (x s : Int32) : bt (xb x s) ((x >>> (s &&& 31)) &&& 255).toInt := by
  generalize hy : x >>> (s &&& 31) = y
  unfold bt xb
  rw [hy, and255]
  have e : (vp_nar .byte y.toInt8.toInt32).toInt = y.toInt.bmod 256 := by
    have h1 : (vp_nar .byte y.toInt8.toInt32) = y.toInt8.toInt32.toInt8.toInt32 := rfl
    rw [h1, Int8.toInt8_toInt32, Int8.toInt_toInt32, Int32.toInt_toInt8]
  rw [e, Int.bmod_def]
  have h0 := Int.emod_nonneg y.toInt (show (256 : Int) ≠ 0 by decide)
  split <;> split <;> omega
theorem pt_at {M : fmM} {f j : Nat} {b : Int32} : (ptM M f b).1 2 j = if j = f then b else M.1 2 j := by
  unfold ptM
  rw [fmI_k _ _ (by decide), fmI_at]
  by_cases e : j = f
  · rw [if_pos ⟨rfl, e⟩, if_pos e]
  · rw [if_neg (fun h => e h.2), if_neg e]
theorem pu_at {M : fmM} {f j : Nat} {x : Int32} : (puM M f x).1 2 j = if j = f + 3 then xb x 0 else if j = f + 2 then xb x 8 else if j = f + 1 then xb x 16 else if j = f then xb x 24 else M.1 2 j := by
  unfold puM
  rw [pt_at, pt_at, pt_at, pt_at]
theorem pu_lo {M : fmM} {f j : Nat} {x : Int32} (h : j < f) : (puM M f x).1 2 j = M.1 2 j := by
  rw [pu_at, if_neg (by omega), if_neg (by omega), if_neg (by omega), if_neg (by omega)]
theorem fb_0 {a b c d e : Int32} : fdB a b c d e (nI 0) = a >>> ((24 : Int32) &&& 31) &&& 255 := by unfold fdB fdS; rw [if_neg (by decide), show (24 - 8 * (nI 0 - nI 0 / 4 * 4) : Int32) = 24 by decide]
theorem fb_1 {a b c d e : Int32} : fdB a b c d e (nI 1) = a >>> ((16 : Int32) &&& 31) &&& 255 := by unfold fdB fdS; rw [if_neg (by decide), show (24 - 8 * (nI 1 - nI 1 / 4 * 4) : Int32) = 16 by decide]
theorem fb_2 {a b c d e : Int32} : fdB a b c d e (nI 2) = a >>> ((8 : Int32) &&& 31) &&& 255 := by unfold fdB fdS; rw [if_neg (by decide), show (24 - 8 * (nI 2 - nI 2 / 4 * 4) : Int32) = 8 by decide]
theorem fb_3 {a b c d e : Int32} : fdB a b c d e (nI 3) = a >>> ((0 : Int32) &&& 31) &&& 255 := by unfold fdB fdS; rw [if_neg (by decide), show (24 - 8 * (nI 3 - nI 3 / 4 * 4) : Int32) = 0 by decide]
theorem fb_4 {a b c d e : Int32} : fdB a b c d e (nI 4) = b >>> ((24 : Int32) &&& 31) &&& 255 := by unfold fdB fdS; rw [if_pos (by decide), if_neg (by decide), show (24 - 8 * (nI 4 - nI 4 / 4 * 4) : Int32) = 24 by decide]
theorem fb_5 {a b c d e : Int32} : fdB a b c d e (nI 5) = b >>> ((16 : Int32) &&& 31) &&& 255 := by unfold fdB fdS; rw [if_pos (by decide), if_neg (by decide), show (24 - 8 * (nI 5 - nI 5 / 4 * 4) : Int32) = 16 by decide]
theorem fb_6 {a b c d e : Int32} : fdB a b c d e (nI 6) = b >>> ((8 : Int32) &&& 31) &&& 255 := by unfold fdB fdS; rw [if_pos (by decide), if_neg (by decide), show (24 - 8 * (nI 6 - nI 6 / 4 * 4) : Int32) = 8 by decide]
theorem fb_7 {a b c d e : Int32} : fdB a b c d e (nI 7) = b >>> ((0 : Int32) &&& 31) &&& 255 := by unfold fdB fdS; rw [if_pos (by decide), if_neg (by decide), show (24 - 8 * (nI 7 - nI 7 / 4 * 4) : Int32) = 0 by decide]
theorem fb_8 {a b c d e : Int32} : fdB a b c d e (nI 8) = c >>> ((24 : Int32) &&& 31) &&& 255 := by unfold fdB fdS; rw [if_pos (by decide), if_pos (by decide), if_neg (by decide), show (24 - 8 * (nI 8 - nI 8 / 4 * 4) : Int32) = 24 by decide]
theorem fb_9 {a b c d e : Int32} : fdB a b c d e (nI 9) = c >>> ((16 : Int32) &&& 31) &&& 255 := by unfold fdB fdS; rw [if_pos (by decide), if_pos (by decide), if_neg (by decide), show (24 - 8 * (nI 9 - nI 9 / 4 * 4) : Int32) = 16 by decide]
theorem fb_10 {a b c d e : Int32} : fdB a b c d e (nI 10) = c >>> ((8 : Int32) &&& 31) &&& 255 := by unfold fdB fdS; rw [if_pos (by decide), if_pos (by decide), if_neg (by decide), show (24 - 8 * (nI 10 - nI 10 / 4 * 4) : Int32) = 8 by decide]
theorem fb_11 {a b c d e : Int32} : fdB a b c d e (nI 11) = c >>> ((0 : Int32) &&& 31) &&& 255 := by unfold fdB fdS; rw [if_pos (by decide), if_pos (by decide), if_neg (by decide), show (24 - 8 * (nI 11 - nI 11 / 4 * 4) : Int32) = 0 by decide]
theorem fb_12 {a b c d e : Int32} : fdB a b c d e (nI 12) = d >>> ((24 : Int32) &&& 31) &&& 255 := by unfold fdB fdS; rw [if_pos (by decide), if_pos (by decide), if_pos (by decide), if_neg (by decide), show (24 - 8 * (nI 12 - nI 12 / 4 * 4) : Int32) = 24 by decide]
theorem fb_13 {a b c d e : Int32} : fdB a b c d e (nI 13) = d >>> ((16 : Int32) &&& 31) &&& 255 := by unfold fdB fdS; rw [if_pos (by decide), if_pos (by decide), if_pos (by decide), if_neg (by decide), show (24 - 8 * (nI 13 - nI 13 / 4 * 4) : Int32) = 16 by decide]
theorem fb_14 {a b c d e : Int32} : fdB a b c d e (nI 14) = d >>> ((8 : Int32) &&& 31) &&& 255 := by unfold fdB fdS; rw [if_pos (by decide), if_pos (by decide), if_pos (by decide), if_neg (by decide), show (24 - 8 * (nI 14 - nI 14 / 4 * 4) : Int32) = 8 by decide]
theorem fb_15 {a b c d e : Int32} : fdB a b c d e (nI 15) = d >>> ((0 : Int32) &&& 31) &&& 255 := by unfold fdB fdS; rw [if_pos (by decide), if_pos (by decide), if_pos (by decide), if_neg (by decide), show (24 - 8 * (nI 15 - nI 15 / 4 * 4) : Int32) = 0 by decide]
theorem fb_16 {a b c d e : Int32} : fdB a b c d e (nI 16) = e >>> ((24 : Int32) &&& 31) &&& 255 := by unfold fdB fdS; rw [if_pos (by decide), if_pos (by decide), if_pos (by decide), if_pos (by decide), show (24 - 8 * (nI 16 - nI 16 / 4 * 4) : Int32) = 24 by decide]
theorem fb_17 {a b c d e : Int32} : fdB a b c d e (nI 17) = e >>> ((16 : Int32) &&& 31) &&& 255 := by unfold fdB fdS; rw [if_pos (by decide), if_pos (by decide), if_pos (by decide), if_pos (by decide), show (24 - 8 * (nI 17 - nI 17 / 4 * 4) : Int32) = 16 by decide]
theorem fb_18 {a b c d e : Int32} : fdB a b c d e (nI 18) = e >>> ((8 : Int32) &&& 31) &&& 255 := by unfold fdB fdS; rw [if_pos (by decide), if_pos (by decide), if_pos (by decide), if_pos (by decide), show (24 - 8 * (nI 18 - nI 18 / 4 * 4) : Int32) = 8 by decide]
theorem fb_19 {a b c d e : Int32} : fdB a b c d e (nI 19) = e >>> ((0 : Int32) &&& 31) &&& 255 := by unfold fdB fdS; rw [if_pos (by decide), if_pos (by decide), if_pos (by decide), if_pos (by decide), show (24 - 8 * (nI 19 - nI 19 / 4 * 4) : Int32) = 0 by decide]
/-- the same bytes stand on both tapes -/
def byR (M M2 : fmM) (f : Nat) : Prop := ∀ i, i < f → bt (M.1 2 i) (M2.1 1 i).toInt
theorem by_feed {M M2 M2' : fmM} {f : Nat} {a b c d e : Int32} (h : byR M M2 f) (hr : feR (fmI M2 0 0 0) M2' f 0 (fun i => fdB a b c d e (nI i))) : byR (puM (puM (puM (puM (puM M f a) (f + 4) b) (f + 4 + 4) c) (f + 4 + 4 + 4) d) (f + 4 + 4 + 4 + 4) e) M2' (f + 20) := by
  intro i hi
  by_cases hf : i < f
  · rw [pu_lo (by omega), pu_lo (by omega), pu_lo (by omega), pu_lo (by omega), pu_lo hf, hr.2.2.1 1 i (by omega) (by omega), fmI_k _ _ (by decide)]
    exact h i hf
  · obtain ⟨t, rfl⟩ : ∃ t, i = f + t := ⟨i - f, by omega⟩
    rw [hr.2.1 t (Nat.zero_le _) (by omega)]
    rcases (show t = 0 ∨ t = 1 ∨ t = 2 ∨ t = 3 ∨ t = 4 ∨ t = 5 ∨ t = 6 ∨ t = 7 ∨ t = 8 ∨ t = 9 ∨ t = 10 ∨ t = 11 ∨ t = 12 ∨ t = 13 ∨ t = 14 ∨ t = 15 ∨ t = 16 ∨ t = 17 ∨ t = 18 ∨ t = 19 by omega) with rfl | rfl | rfl | rfl | rfl | rfl | rfl | rfl | rfl | rfl | rfl | rfl | rfl | rfl | rfl | rfl | rfl | rfl | rfl | rfl
    · show bt _ (fdB a b c d e (nI 0)).toInt
      rw [pu_lo (by omega), pu_lo (by omega), pu_lo (by omega), pu_lo (by omega), pu_at, if_neg (by omega), if_neg (by omega), if_neg (by omega), if_pos (by omega), fb_0]
      exact xb_bt a 24
    · show bt _ (fdB a b c d e (nI 1)).toInt
      rw [pu_lo (by omega), pu_lo (by omega), pu_lo (by omega), pu_lo (by omega), pu_at, if_neg (by omega), if_neg (by omega), if_pos (by omega), fb_1]
      exact xb_bt a 16
    · show bt _ (fdB a b c d e (nI 2)).toInt
      rw [pu_lo (by omega), pu_lo (by omega), pu_lo (by omega), pu_lo (by omega), pu_at, if_neg (by omega), if_pos (by omega), fb_2]
      exact xb_bt a 8
    · show bt _ (fdB a b c d e (nI 3)).toInt
      rw [pu_lo (by omega), pu_lo (by omega), pu_lo (by omega), pu_lo (by omega), pu_at, if_pos (by omega), fb_3]
      exact xb_bt a 0
    · show bt _ (fdB a b c d e (nI 4)).toInt
      rw [pu_lo (by omega), pu_lo (by omega), pu_lo (by omega), pu_at, if_neg (by omega), if_neg (by omega), if_neg (by omega), if_pos (by omega), fb_4]
      exact xb_bt b 24
    · show bt _ (fdB a b c d e (nI 5)).toInt
      rw [pu_lo (by omega), pu_lo (by omega), pu_lo (by omega), pu_at, if_neg (by omega), if_neg (by omega), if_pos (by omega), fb_5]
      exact xb_bt b 16
    · show bt _ (fdB a b c d e (nI 6)).toInt
      rw [pu_lo (by omega), pu_lo (by omega), pu_lo (by omega), pu_at, if_neg (by omega), if_pos (by omega), fb_6]
      exact xb_bt b 8
    · show bt _ (fdB a b c d e (nI 7)).toInt
      rw [pu_lo (by omega), pu_lo (by omega), pu_lo (by omega), pu_at, if_pos (by omega), fb_7]
      exact xb_bt b 0
    · show bt _ (fdB a b c d e (nI 8)).toInt
      rw [pu_lo (by omega), pu_lo (by omega), pu_at, if_neg (by omega), if_neg (by omega), if_neg (by omega), if_pos (by omega), fb_8]
      exact xb_bt c 24
    · show bt _ (fdB a b c d e (nI 9)).toInt
      rw [pu_lo (by omega), pu_lo (by omega), pu_at, if_neg (by omega), if_neg (by omega), if_pos (by omega), fb_9]
      exact xb_bt c 16
    · show bt _ (fdB a b c d e (nI 10)).toInt
      rw [pu_lo (by omega), pu_lo (by omega), pu_at, if_neg (by omega), if_pos (by omega), fb_10]
      exact xb_bt c 8
    · show bt _ (fdB a b c d e (nI 11)).toInt
      rw [pu_lo (by omega), pu_lo (by omega), pu_at, if_pos (by omega), fb_11]
      exact xb_bt c 0
    · show bt _ (fdB a b c d e (nI 12)).toInt
      rw [pu_lo (by omega), pu_at, if_neg (by omega), if_neg (by omega), if_neg (by omega), if_pos (by omega), fb_12]
      exact xb_bt d 24
    · show bt _ (fdB a b c d e (nI 13)).toInt
      rw [pu_lo (by omega), pu_at, if_neg (by omega), if_neg (by omega), if_pos (by omega), fb_13]
      exact xb_bt d 16
    · show bt _ (fdB a b c d e (nI 14)).toInt
      rw [pu_lo (by omega), pu_at, if_neg (by omega), if_pos (by omega), fb_14]
      exact xb_bt d 8
    · show bt _ (fdB a b c d e (nI 15)).toInt
      rw [pu_lo (by omega), pu_at, if_pos (by omega), fb_15]
      exact xb_bt d 0
    · show bt _ (fdB a b c d e (nI 16)).toInt
      rw [pu_at, if_neg (by omega), if_neg (by omega), if_neg (by omega), if_pos (by omega), fb_16]
      exact xb_bt e 24
    · show bt _ (fdB a b c d e (nI 17)).toInt
      rw [pu_at, if_neg (by omega), if_neg (by omega), if_pos (by omega), fb_17]
      exact xb_bt e 16
    · show bt _ (fdB a b c d e (nI 18)).toInt
      rw [pu_at, if_neg (by omega), if_pos (by omega), fb_18]
      exact xb_bt e 8
    · show bt _ (fdB a b c d e (nI 19)).toInt
      rw [pu_at, if_pos (by omega), fb_19]
      exact xb_bt e 0
end
-- P 18j
section
-- THE CLASS'S LAW, exactly
theorem spL_sk {tx : tX} {n p : Nat} (ht : tOk tx n) (hp : p ≤ n) : ∀ (f md o : Nat), md < 3 → spL tx f md o (sk tx p) = spL tx f md o p := by
  intro f
  induction f with
  | zero => intro md o _; rfl
  | succ f ih =>
    intro md o hm
    match md, hm with
    | 0, _ =>
      show spApp (spL tx f 1 o (sk tx p)) _ = spApp (spL tx f 1 o p) _
      rw [ih 1 o (by decide)]
    | 1, _ =>
      show spApp (spL tx f 2 o (sk tx p)) _ = spApp (spL tx f 2 o p) _
      rw [ih 2 o (by decide)]
    | 2, _ =>
      show spOne tx _ o (sk tx (sk tx p)) = spOne tx _ o (sk tx p)
      rw [sk_sk ht hp]
    | md + 3, h => omega
theorem fmA_kk {M : fmM} {k k' : Nat} {f : Nat → Int32} (h : k' ≠ k) : (fmA M k f).1 k' = M.1 k' := by simp [fmA, h]
theorem fmA_ss {M : fmM} {k : Nat} {f : Nat → Int32} : (fmA M k f).1 k = f := by simp [fmA]
theorem inv_A24 {M : fmM} {f : Nat → Int32} (hI : scInv Tx invX M) : scInv Tx invX (fmA M 24 f) := by
  refine ⟨fun k j hj => ?_, fun hm => absurd hm (by decide)⟩
  by_cases e : k = 24
  · subst e
    exact scq_t _
  · rw [fmA_kk e]
    exact hI.1 k j hj
/-- a law stands -/
def lxOk (M M' : fmM) (cs : tC) : Prop := (M'.1 23 3).toInt = (cs.length : Int) ∧ cs.length ≤ 150 ∧ (∀ i c, cs[i]? = some c → (M'.1 24 i).toInt = cdV c) ∧ scInv Tx invX M' ∧ (∀ k j, k ≠ 1 → k ≠ 23 → k ≠ 24 → k ≠ 25 → M'.1 k j = M.1 k j ∧ M'.2 k j = M.2 k j) ∧ (∀ j, j ≠ 3 → j ≠ 4 → j ≠ 5 → M'.1 1 j = M.1 1 j)
def lxM (M : fmM) : fmM := fmI (fmA M 24 (va_cpy (M.1 25) (M.1 24) 0 0 150)) 23 3 (M.1 23 4)
theorem lx_ok {M M1 : fmM} {tx : tX} {n q : Nat} {cs : tC} (k : xlOk (fmI M 23 4 0) M1 tx n q 0 cs) (hq : cs.length ≤ q) (hn : n ≤ 150) : lxOk M (lxM M1) cs := by
  have hl : cs.length ≤ 150 := by have := k.1.2.2.1; omega
  have e4 : (M1.1 23 4).toInt = (cs.length : Int) := by simpa using k.2.2.2.1
  refine ⟨?_, hl, fun i c hi => ?_, ?_, fun k' j a b c d => ⟨?_, ?_⟩, fun j a b c => ?_⟩
  · unfold lxM
    rw [fmI_s]
    exact e4
  · have h9 : i < cs.length := (List.getElem?_eq_some_iff.mp hi).1
    unfold lxM
    rw [fmI_k _ _ (by decide), fmA_ss, scq_cpy, if_pos (by omega)]
    have h8 := k.2.2.2.2.1 i c hi
    rw [Nat.zero_add] at h8
    exact h8
  · refine xInv.put (inv_A24 k.2.2.1) ⟨?_, ?_⟩
    · show (0 : Int) ≤ _
      omega
    · show _ ≤ (150 : Int)
      omega
  · unfold lxM
    rw [fmI_k _ _ b, fmA_kk c, k.2.2.2.2.2.1 k' j a (fun h => b h.1) (fun h => d h.1), fmI_k _ _ b]
  · show M1.2 k' j = _
    exact k.2.2.2.2.2.2.1 k' j a b d
  · unfold lxM
    rw [fmI_k _ _ (by decide), fmA_kk (by decide), k.2.2.2.2.2.2.2 j a b c, fmI_k _ _ (by decide)]
theorem lx_bad {M M1 : fmM} {k a : Nat} (h : xlBad (fmI M 23 4 0) M1 k a) : xlBad M M1 k a := ⟨h.1, h.2.1, h.2.2.1, h.2.2.2.1, ⟨fun k' j a b c => (h.2.2.2.2.1 k' j a b c).trans (by rw [fmI_at, if_neg b]), fun k' j a b c => h.2.2.2.2.2.1 k' j a b c, fun j a b c => (h.2.2.2.2.2.2 j a b c).trans (by rw [fmI_k _ _ (by decide)])⟩⟩
set_option maxRecDepth 20000 in
theorem c_xlread {M : fmM} {Q : fmR → fmM → Prop} {tx : tX} {n : Nat} (hS : xS2 M tx n 0) (hf : M.1 1 4 = 0) (hI : scInv Tx invX M) (h150 : n ≤ 150) (hok : ∀ (M' : fmM) (cs : tC), spLaw tx n = .inr cs → lxOk M M' cs → Q (.inl (some (.int 1))) M') (hbad : ∀ (M' : fmM) (k a : Nat), spLaw tx n = .inl (k, a) → xlBad M M' k a → Q (.inl (some (.int 0))) M') : pvGood Tx 40 qX1_read [.ref 23, .ref 1] M Q := by
  refine pvGood_of (Nat.le_of_ble_eq_true rfl) ?_
  show pvEv Tx 40 qX1_read 0 [some (.ref 23), some (.ref 1)] [] M Q
  have hP0 : xlPre (fmI M 23 4 0) tx n 0 0 := ⟨hS.of rfl rfl rfl, hf, xInv.put hI (by decide), rfl, Nat.le_refl _, h150⟩
  have hne0 : ¬ spL tx 700 0 0 0 = .inl (9, 0) := spL_fuel hS.2.2.2.1 700 0 0 0 (Nat.zero_le _) (by have h9 : spFu 0 ≤ 10 := (by decide); omega)
  have eS : spL tx 700 0 0 (sk tx 0) = spL tx 700 0 0 0 := spL_sk hS.2.2.2.1 (Nat.zero_le _) 700 0 0 (by decide)
  refine pv_aloadn (pc := 0) (n := 0) 0 rfl rfl (fm_dec dtX1_read 0 rfl) ?_
  refine pv_iconst (pc := 1) (v := 0) (by decide) (fm_dec dtX1_read 1 rfl) ?_
  refine pv_putI (k := 23) (j := 4) (ci := 1) (pc := 2) pfl_X1_28 (by decide) rfl (by decide) (fm_dec dtX1_read 2 rfl) ?_
  refine pv_aloadn (pc := 5) (n := 0) 0 rfl rfl (fm_dec dtX1_read 3 rfl) ?_
  refine pv_aloadn (pc := 6) (n := 1) 1 rfl rfl (fm_dec dtX1_read 4 rfl) ?_
  refine pv_iconst (pc := 7) (v := 0) (by decide) (fm_dec dtX1_read 5 rfl) ?_
  refine pv_invV2 (k := 23) (d' := (8 + 4 * (6 - 0))) (pc := 8) pcv_X1_31 (by decide) rfl (Nat.le_of_ble_eq_true rfl) (by decide) (fm_dec dtX1_read 6 rfl) ?_
  refine (xl_all 700).1 0 0 0 (fmI M 23 4 0) _ 0 hP0 rfl (by decide) hne0 ⟨fun M8 cs q8 e8 k8 => ?_, fun Mb kb ab eb hB => ?_⟩  
  · refine pv_then1 ?_
    refine pv_if_ne (pc := 11) 16 (by decide) (fm_dec dtX1_read 7 rfl) (fun _ => ?_) (fun hc11 => by exfalso; revert hc11; decide)
    have l8 := spL_len hS.2.2.2.1 _ _ _ _ _ _ (Nat.zero_le _) e8
    refine pv_aloadn (pc := 16) (n := 1) 1 rfl rfl (fm_dec dtX1_read 10 rfl) ?_
    refine pv_invV0 (k := 1) (d' := 0) (pc := 17) pcv_X1_35 (by decide) rfl (Nat.le_of_ble_eq_true rfl) (by decide) (fm_dec dtX1_read 11 rfl) ?_
    refine x_peek k8.1 k8.2.1 k8.2.2.1 (fun M17 v17 hv17 k17 => ?_)
    refine pv_then1 ?_
    refine pv_iconst (pc := 20) (v := (-1)) (by decide) (fm_dec dtX1_read 12 rfl) ?_
    refine pv_icmp_eq (pc := 21) 34 (by decide) (fm_dec dtX1_read 13 rfl) (fun hc21 => ?_) (fun hc21 => ?_)
    · refine pv_aloadn (pc := 34) (n := 0) 0 rfl rfl (fm_dec dtX1_read 20 rfl) ?_
      refine pv_getR (k := 23) (j := 1) (ci := 1) (pc := 35) 25 rfl (by decide) pfl_X1_15 (by decide) rfl (by decide) (fm_dec dtX1_read 21 rfl) ?_
      refine pv_iconst (pc := 38) (v := 0) (by decide) (fm_dec dtX1_read 22 rfl) ?_
      refine pv_aloadn (pc := 39) (n := 0) 0 rfl rfl (fm_dec dtX1_read 23 rfl) ?_
      refine pv_getR (k := 23) (j := 0) (ci := 1) (pc := 40) 24 rfl (by decide) pfl_X1_9 (by decide) rfl (by decide) (fm_dec dtX1_read 24 rfl) ?_
      refine pv_iconst (pc := 43) (v := 0) (by decide) (fm_dec dtX1_read 25 rfl) ?_
      refine pv_sipush (pc := 44) (v := 150) (by decide) (fm_dec dtX1_read 26 rfl) ?_
      refine pv_copy (k0 := 25) (k1 := 24) (n0 := 150) (n1 := 150) (pc := 47) pcm_X1_48 pcc_X1_48 (by decide) rfl rfl (by decide) rfl rfl (by decide) (by decide) (by decide) (by decide) (by decide) (Nat.le_of_ble_eq_true rfl) (fm_dec dtX1_read 27 rfl) ?_
      refine pv_aloadn (pc := 50) (n := 0) 0 rfl rfl (fm_dec dtX1_read 28 rfl) ?_
      refine pv_aloadn (pc := 51) (n := 0) 0 rfl rfl (fm_dec dtX1_read 29 rfl) ?_
      refine pv_getI (k := 23) (j := 4) (ci := 1) (pc := 52) pfl_X1_28 (by decide) rfl (by decide) (fm_dec dtX1_read 30 rfl) ?_
      refine pv_putI (k := 23) (j := 3) (ci := 1) (pc := 55) pfl_X1_24 (by decide) rfl (by decide) (fm_dec dtX1_read 31 rfl) ?_
      refine pv_iconst (pc := 58) (v := 1) (by decide) (fm_dec dtX1_read 32 rfl) ?_
      exact pv_zreturn (pc := 59) rfl (by first | exact Or.inr rfl | exact Or.inl rfl) (fm_dec dtX1_read 33 rfl) (hok _ cs (by unfold spLaw; rw [eS, e8]; simp only; rw [if_neg (by intro h9; have h8 := (hS.2.2.2.1.2.2 _ h9).1; rw [← hv17, hc21] at h8; exact absurd h8 (by decide))]) (lx_ok (k8.xd k17) (by have := l8.1; have := sp_ge (P := tB) (tx := tx) q8; unfold sk; omega) h150))
    · refine pv_aloadn (pc := 24) (n := 1) 1 rfl rfl (fm_dec dtX1_read 14 rfl) ?_
      refine pv_iconst (pc := 25) (v := 1) (by decide) (fm_dec dtX1_read 15 rfl) ?_
      refine pv_aloadn (pc := 26) (n := 1) 1 rfl rfl (fm_dec dtX1_read 16 rfl) ?_
      refine pv_getI (k := 1) (j := 3) (ci := 7) (pc := 27) pfl_X1_41 (by decide) rfl (by decide) (fm_dec dtX1_read 17 rfl) ?_
      refine pv_invV2 (k := 1) (d' := 0) (pc := 30) pcv_X1_44 (by decide) rfl (Nat.le_of_ble_eq_true rfl) (by decide) (fm_dec dtX1_read 18 rfl) ?_
      refine c_xfail0 k17.2.1 ?_
      refine pv_then1 ?_
      exact pv_zreturn (pc := 33) rfl (by first | exact Or.inr rfl | exact Or.inl rfl) (fm_dec dtX1_read 19 rfl) (hbad _ 1 (sk tx q8) (by unfold spLaw; rw [eS, e8]; simp only; rw [if_pos (by have h9 := k17.1.2.2.1; by_cases e9 : sk tx q8 = n; exfalso; exact hc21 (i32_ext (hv17.trans ((hS.2.2.2.1.2.1 _ (by omega)).trans (by decide)))); omega)]) (lx_bad ((k8.xd k17).xdb ⟨(show (1 : Int32).toInt = ((1 : Nat) : Int) by decide), k17.1.2.1, by decide, ((xdFr.refl _).set (Or.inr (Or.inl rfl))).set (Or.inr (Or.inr rfl)), xI_45 k17.2.2.2 (show (1 : Int32).toInt = ((1 : Nat) : Int) by decide) (by decide) k17.1.2.1 k17.1.2.2.1 k17.1.2.2.2.1.1⟩)))
  · refine pv_then1 ?_
    refine pv_if_ne (pc := 11) 16 (by decide) (fm_dec dtX1_read 7 rfl) (fun hc11 => by exfalso; revert hc11; decide) (fun _ => ?_)
    refine pv_iconst (pc := 14) (v := 0) (by decide) (fm_dec dtX1_read 8 rfl) ?_
    exact pv_zreturn (pc := 15) rfl (by first | exact Or.inr rfl | exact Or.inl rfl) (fm_dec dtX1_read 9 rfl) (hbad Mb kb ab (by unfold spLaw; rw [eS, eb]) (lx_bad hB))
set_option maxRecDepth 20000 in
theorem c_xforget {M : fmM} {Q : fmR → fmM → Prop}  (hq : Q (.inl none) (fmI M 34 5 0)) : pvGood Tx 0 qX3_forget [.ref 34] M Q := by
  refine pvGood_of (Nat.le_of_ble_eq_true rfl) ?_
  show pvEv Tx 0 qX3_forget 0 [some (.ref 34)] [] M Q
  refine pv_aloadn (pc := 0) (n := 0) 0 rfl rfl (fm_dec dtX3_forget 0 rfl) ?_
  refine pv_iconst (pc := 1) (v := 0) (by decide) (fm_dec dtX3_forget 1 rfl) ?_
  refine pv_putI (k := 34) (j := 5) (ci := 3) (pc := 2) pfl_X3_29 (by decide) rfl (by decide) (fm_dec dtX3_forget 2 rfl) ?_
  exact pv_return (pc := 5) rfl (fm_dec dtX3_forget 3 rfl) hq
theorem op_S {M : fmM} {tx : tX} {nn : Int32} {n : Nat} (hn : nn.toInt = (n : Int)) (ht : tOk tx n) (hb : ∀ i, i < n → bt (M.1 2 i) (tx i)) : xS2 (opM M nn) tx n 0 := ⟨hn, rfl, Nat.zero_le _, ht, hb⟩
/-- the text of n bytes, for every n -/
def txF (M : fmM) (T : Nat → tX) : Prop := ∀ n : Nat, (n : Int) ≤ (M.1 1 1).toInt → tOk (T n) n ∧ ∀ i, i < n → bt (M.1 2 i) (T n i)
set_option maxRecDepth 20000 in
theorem c_xlaw {M : fmM} {Q : fmR → fmM → Prop} {T : Nat → tX} {nn : Int32} (hI : scInv Tx invX M) (hT : txF M T) (hrf : ¬ txP nn 150 (M.1 1 1).toInt → Q (.inr fmIAE) (fmI M 0 16 (M.1 0 16 + 1))) (hok : ∀ (n : Nat) (M' : fmM) (cs : tC), nn.toInt = (n : Int) → txP nn 150 (M.1 1 1).toInt → spLaw (T n) n = .inr cs → lxOk (opM M nn) M' cs → Q (.inl (some (.int 1))) (fmI M' 34 5 0)) (hbad : ∀ (n k a : Nat) (M' : fmM) (r : Int32), nn.toInt = (n : Int) → txP nn 150 (M.1 1 1).toInt → spLaw (T n) n = .inl (k, a) → r.toInt = (k : Int) - 10 → xlBad (opM M nn) M' k a → Q (.inl (some (.int r))) M') : pvGood Tx 41 qX10_law [.ref 0, .int nn] M Q := by
  refine pvGood_of (Nat.le_of_ble_eq_true rfl) ?_
  show pvEv Tx 41 qX10_law 0 [some (.ref 0), some (.int nn)] [] M Q
  refine pv_aloadn (pc := 0) (n := 0) 0 rfl rfl (fm_dec dtX10_law 0 rfl) ?_
  refine pv_iloadn (pc := 1) (n := 1) 1 rfl rfl (fm_dec dtX10_law 1 rfl) ?_
  refine pv_sipush (pc := 2) (v := 150) (by decide) (fm_dec dtX10_law 2 rfl) ?_
  refine pv_invV2 (k := 0) (d' := 1) (pc := 5) pcv_X10_108 (by decide) rfl (Nat.le_of_ble_eq_true rfl) (by decide) (fm_dec dtX10_law 3 rfl) ?_
  refine c_openT (fun h5 => ?_) (fun h5 => ?_)
  · refine pv_then0 ?_
    have h515 : nn.toInt ≤ 150 := h5.2.1
    obtain ⟨n, hn⟩ : ∃ n : Nat, nn.toInt = (n : Int) := ⟨nn.toInt.toNat, by have := h5.1; omega⟩
    have hn150 : n ≤ 150 := (by omega)
    have hI5 := inv_open (n := nn) hI h5.1 (by omega)
    have hT9 := hT n (by have := h5.2.2; omega)
    have hS := op_S hn hT9.1 hT9.2
    have hf5 : (opM M nn).1 1 4 = 0 := rfl
    refine pv_aloadn (pc := 8) (n := 0) 0 rfl rfl (fm_dec dtX10_law 4 rfl) ?_
    refine pv_getR (k := 0) (j := 3) (ci := 10) (pc := 9) 23 rfl (by decide) pfl_X10_29 (by decide) rfl (by decide) (fm_dec dtX10_law 5 rfl) ?_
    refine pv_aloadn (pc := 12) (n := 0) 0 rfl rfl (fm_dec dtX10_law 6 rfl) ?_
    refine pv_getR (k := 0) (j := 0) (ci := 10) (pc := 13) 1 rfl (by decide) pfl_X10_12 (by decide) rfl (by decide) (fm_dec dtX10_law 7 rfl) ?_
    refine pv_invV1 (k := 23) (d' := 40) (pc := 16) pcv_X10_141 (by decide) rfl (Nat.le_of_ble_eq_true rfl) (by decide) (fm_dec dtX10_law 8 rfl) ?_
    refine c_xlread hS hf5 hI5 hn150 (fun M16 cs e16 k16 => ?_) (fun Mb kb ab eb hB => ?_)  
    · refine pv_then1 ?_
      refine pv_if_ne (pc := 19) 33 (by decide) (fm_dec dtX10_law 9 rfl) (fun _ => ?_) (fun hc19 => by exfalso; revert hc19; decide)
      refine pv_aloadn (pc := 33) (n := 0) 0 rfl rfl (fm_dec dtX10_law 16 rfl) ?_
      refine pv_getR (k := 0) (j := 7) (ci := 10) (pc := 34) 34 rfl (by decide) pfl_X10_61 (by decide) rfl (by decide) (fm_dec dtX10_law 17 rfl) ?_
      refine pv_invV0 (k := 34) (d' := 0) (pc := 37) pcv_X10_135 (by decide) rfl (Nat.le_of_ble_eq_true rfl) (by decide) (fm_dec dtX10_law 18 rfl) ?_
      refine c_xforget ?_
      refine pv_then0 ?_
      refine pv_iconst (pc := 40) (v := 1) (by decide) (fm_dec dtX10_law 19 rfl) ?_
      exact pv_ireturn (pc := 41) rfl (fm_dec dtX10_law 20 rfl) (hok n M16 cs hn h5 e16 k16)
    · refine pv_then1 ?_
      refine pv_if_ne (pc := 19) 33 (by decide) (fm_dec dtX10_law 9 rfl) (fun hc19 => by exfalso; revert hc19; decide) (fun _ => ?_)
      refine pv_aloadn (pc := 22) (n := 0) 0 rfl rfl (fm_dec dtX10_law 10 rfl) ?_
      refine pv_getR (k := 0) (j := 0) (ci := 10) (pc := 23) 1 rfl (by decide) pfl_X10_12 (by decide) rfl (by decide) (fm_dec dtX10_law 11 rfl) ?_
      refine pv_getI (k := 1) (j := 4) (ci := 7) (pc := 26) pfl_X10_116 (by decide) rfl (by decide) (fm_dec dtX10_law 12 rfl) ?_
      refine pv_bipush (pc := 29) (v := 10) (by decide) (fm_dec dtX10_law 13 rfl) ?_
      refine pv_isub (pc := 31) (fm_dec dtX10_law 14 rfl) ?_
      exact pv_ireturn (pc := 32) rfl (fm_dec dtX10_law 15 rfl) (hbad n kb ab Mb _ hn h5 eb (law_r hB.1 (by have h9 : (Mb.1 1 4).toInt ≤ 3 := (hB.2.2.2.1.1 1 4 (by decide)).2; have h8 := hB.1; omega)) hB)
  · refine pv_thenX ?_
    exact hrf h5
end
-- P 18k
section
-- THE CLASS READS A PAGE
def pgOne (ls : tC) (k : Nat) : Bool := ls.any (fun l => Nat.beq l.1 k && Nat.beq l.2 1)
theorem or6b : ∀ u, u < 64 → ∀ k, k < 6 → ∀ b, b < 2 → (nI u ||| (nI b) <<< (nI k &&& 31)) = nI (u ||| b <<< k) ∧ u ||| b <<< k < 64 := by decide +kernel
theorem bit6b : ∀ u, u < 64 → ∀ k, k < 6 → ∀ b, b < 2 → ∀ j, j < 6 → (u ||| b <<< k).testBit j = (u.testBit j || (Nat.beq k j && Nat.beq b 1)) := by decide +kernel
theorem has6z : ∀ w, w < 64 → ∀ k, k < 6 → ((nI w >>> (nI k &&& 31) &&& 1) = (0 : Int32) ↔ w.testBit k = false) := by decide +kernel
/-- lines read so far, on this side -/
def xpI (ls : tC) (seen bits i : Int32) (w u : Nat) : Prop := i.toInt = (ls.length : Int) ∧ seen = nI w ∧ w < 64 ∧ ls.length = pop6 w ∧ (∀ k, k < 6 → w.testBit k = pgHas ls k) ∧ bits = nI u ∧ u < 64 ∧ (∀ k, k < 6 → u.testBit k = pgOne ls k) ∧ (∀ l ∈ ls, l.1 < 6 ∧ l.2 ≤ 1)
theorem xpI.add {ls : tC} {seen bits i kk bb : Int32} {w u k b : Nat} (h : xpI ls seen bits i w u) (hk : kk.toInt = k) (hb : bb.toInt = b) (hk6 : k < 6) (hb1 : b < 2) (hn : w.testBit k = false) : xpI (ls ++ [(k, b)]) (seen ||| 1 <<< (kk &&& 31)) (bits ||| bb <<< (kk &&& 31)) (i + 1) (w ||| 1 <<< k) (u ||| b <<< k) := by
  obtain ⟨h1, h2, h3, h4, h5, h6, h7, h8, h9⟩ := h
  have p1 := pop6_le w h3
  have p2 := pop6_add w h3 k hk6 hn
  refine ⟨?_, ?_, p2.2, ?_, fun j hj => ?_, ?_, (or6b u h7 k hk6 b hb1).2, fun j hj => ?_, fun l hl => ?_⟩
  · rw [i32_p1 h1 (by omega)]
    simp
  · rw [h2, nI_is hk (by omega), or6 w h3 k hk6]
  · rw [p2.1, ← h4]
    simp
  · rw [bit6 w h3 k hk6 j hj, h5 j hj]
    simp [pgHas]
  · rw [h6, nI_is hk (by omega), nI_is hb (by omega), (or6b u h7 k hk6 b hb1).1]
  · rw [bit6b u h7 k hk6 b hb1 j hj, h8 j hj]
    simp [pgOne]
  · rcases List.mem_append.mp hl with h | h
    · exact h9 l h
    · rw [List.mem_singleton.mp h]
      exact ⟨hk6, by omega⟩
/-- what stands behind a good page -/
def xpEnd (M M' : fmM) (ls : tC) : Prop := (M'.1 27 0).toInt = (ls.length : Int) ∧ ls.length ≤ 6 ∧ (∃ w u : Nat, M'.1 27 1 = nI w ∧ M'.1 27 2 = nI u ∧ w < 64 ∧ u < 64 ∧ ls.length = pop6 w ∧ (∀ k, k < 6 → w.testBit k = pgHas ls k) ∧ (∀ k, k < 6 → u.testBit k = pgOne ls k)) ∧ (∀ l ∈ ls, l.1 < 6 ∧ l.2 ≤ 1) ∧ (∀ k j, k ≠ 1 → k ≠ 27 → M'.1 k j = M.1 k j ∧ M'.2 k j = M.2 k j) ∧ (∀ j, j ≠ 3 → j ≠ 4 → j ≠ 5 → M'.1 1 j = M.1 1 j) ∧ M'.1 1 4 = 0 ∧ scInv Tx invX M'

theorem s_numF1 {M : fmM} {Q : fmR → fmM → Prop} {x1 : Int32} (bx1 : 0 ≤ x1.toInt ∧ x1.toInt ≤ 0) {x2 : Int32} (bx2 : 1 ≤ x2.toInt ∧ x2.toInt ≤ 1) (f1_4 : 1 ≤ (M.1 1 4).toInt ∧ (M.1 1 4).toInt ≤ 3) (hI : scInv Tx invX M) (q0 : ∀ (n : Int32) (M' : fmM), (0 ≤ n.toInt ∧ n.toInt ≤ 1) → (1 ≤ (M'.1 1 4).toInt ∧ (M'.1 1 4).toInt ≤ 3) → scInv Tx invX M' → scFr [(1, 3, 1)] M M' → Q (.inl (some (.int n))) M') (q1 : ∀ (n : Int32) (M' : fmM), ((-1) ≤ n.toInt ∧ n.toInt ≤ (-1)) → (1 ≤ (M'.1 1 4).toInt ∧ (M'.1 1 4).toInt ≤ 3) → scInv Tx invX M' → scFr [(1, 3, 1)] M M' → Q (.inl (some (.int n))) M') : pvGood Tx 2 qX7_takeNumber [.ref 1, .int x1, .int x2] M Q := (hh_X7_takeNumber_19 M [x1.toInt, x2.toInt, (M.1 1 4).toInt] [.ref 1, .int x1, .int x2] (scEk.c1 bx1 (scEk.c1 bx2 (scEk.c1 f1_4 scEk.n0))) ⟨⟨1, by simp, rfl⟩, ⟨x1, rfl, scEv.at rfl⟩, ⟨x2, rfl, scEv.at rfl⟩, trivial⟩ (fun f hf => by rw [List.mem_singleton.mp hf]; exact scEv.at rfl) hI).imp (fun r M' h => by
  obtain ⟨⟨o, ho, hr, hf9, hm⟩, h1, h2⟩ := h
  rcases List.mem_cons.mp ho with rfl | ho
  · obtain ⟨n, rfl, c1, c2⟩ := hr; exact q0 n M' ⟨c1, c2⟩ (have h9 := hm _ List.mem_cons_self; h9) h1 h2
  rcases List.mem_cons.mp ho with rfl | ho
  · obtain ⟨n, rfl, c1, c2⟩ := hr; exact q1 n M' ⟨c1, c2⟩ (have h9 := hm _ List.mem_cons_self; h9) h1 h2
  · cases ho)
set_option maxRecDepth 20000 in
theorem x_signF {M : fmM} {Q : fmR → fmM → Prop} {c : Int32} (hc : 0 ≤ c.toInt) (hI : scInv Tx invX M) (hf : ¬ M.1 1 4 = 0) (hq : ∀ (M' : fmM) (w : Int32), scFr [(1, 3, 1)] M M' → scInv Tx invX M' → Q (.inl (some (.int w))) M') : pvGood Tx 1 qX7_takeSign [.ref 1, .int c] M Q := by
  refine pvGood_of (Nat.le_of_ble_eq_true rfl) ?_
  show pvEv Tx 1 qX7_takeSign 0 [some (.ref 1), some (.int c)] [] M Q
  refine pv_aloadn (pc := 0) (n := 0) 0 rfl rfl (fm_dec dtX7_takeSign 0 rfl) ?_
  refine pv_invV0 (k := 1) (d' := 0) (pc := 1) pcv_X7_31 (by decide) rfl (Nat.le_of_ble_eq_true rfl) (by decide) (fm_dec dtX7_takeSign 1 rfl) ?_
  refine s_peek hI (fun n1 M1 b1 m1 hI1 f1 => ?_) (fun n1 M1 b1 m1 hI1 f1 => ?_)
  · refine pv_then1 ?_
    refine pv_iloadn (pc := 4) (n := 1) 1 rfl rfl (fm_dec dtX7_takeSign 2 rfl) ?_
    refine pv_icmp_eq (pc := 5) 18 (by decide) (fm_dec dtX7_takeSign 3 rfl) (fun hc5 => ?_) (fun hc5 => ?_)
    · refine pv_aloadn (pc := 18) (n := 0) 0 rfl rfl (fm_dec dtX7_takeSign 10 rfl) ?_
      refine pv_dup (pc := 19) rfl (fm_dec dtX7_takeSign 11 rfl) ?_
      refine pv_getI (k := 1) (j := 3) (ci := 7) (pc := 20) pfl_X7_25 (by decide) rfl (by decide) (fm_dec dtX7_takeSign 12 rfl) ?_
      refine pv_iconst (pc := 23) (v := 1) (by decide) (fm_dec dtX7_takeSign 13 rfl) ?_
      refine pv_iadd (pc := 24) (fm_dec dtX7_takeSign 14 rfl) ?_
      refine pv_putI (k := 1) (j := 3) (ci := 7) (pc := 25) pfl_X7_25 (by decide) rfl (by decide) (fm_dec dtX7_takeSign 15 rfl) ?_
      refine pv_iconst (pc := 28) (v := 1) (by decide) (fm_dec dtX7_takeSign 16 rfl) ?_
      exact pv_zreturn (pc := 29) rfl (by first | exact Or.inr rfl | exact Or.inl rfl) (fm_dec dtX7_takeSign 17 rfl) (hq _ 1 (f1.toI rfl) (xI_3 hI1 (q := (M1.1 1 3).toInt.toNat + 1) (n := 600) (i32_p1 (by omega) (by omega)) (by omega) (by decide)))
    · refine pv_aloadn (pc := 8) (n := 0) 0 rfl rfl (fm_dec dtX7_takeSign 4 rfl) ?_
      refine pv_iconst (pc := 9) (v := 1) (by decide) (fm_dec dtX7_takeSign 5 rfl) ?_
      refine pv_aloadn (pc := 10) (n := 0) 0 rfl rfl (fm_dec dtX7_takeSign 6 rfl) ?_
      refine pv_getI (k := 1) (j := 3) (ci := 7) (pc := 11) pfl_X7_25 (by decide) rfl (by decide) (fm_dec dtX7_takeSign 7 rfl) ?_
      refine pv_invV2 (k := 1) (d' := 0) (pc := 14) pcv_X7_35 (by decide) rfl (Nat.le_of_ble_eq_true rfl) (by decide) (fm_dec dtX7_takeSign 8 rfl) ?_
      refine c_xfail1 (by rw [(f1 1 4 rfl).1]; exact hf) ?_
      refine pv_then1 ?_
      exact pv_zreturn (pc := 17) rfl (by first | exact Or.inr rfl | exact Or.inl rfl) (fm_dec dtX7_takeSign 9 rfl) (hq _ 0 f1 hI1)
  · refine pv_then1 ?_
    refine pv_iloadn (pc := 4) (n := 1) 1 rfl rfl (fm_dec dtX7_takeSign 2 rfl) ?_
    refine pv_icmp_eq (pc := 5) 18 (by decide) (fm_dec dtX7_takeSign 3 rfl) (fun hc5 => by exfalso; subst hc5; omega) (fun _ => ?_)
    refine pv_aloadn (pc := 8) (n := 0) 0 rfl rfl (fm_dec dtX7_takeSign 4 rfl) ?_
    refine pv_iconst (pc := 9) (v := 1) (by decide) (fm_dec dtX7_takeSign 5 rfl) ?_
    refine pv_aloadn (pc := 10) (n := 0) 0 rfl rfl (fm_dec dtX7_takeSign 6 rfl) ?_
    refine pv_getI (k := 1) (j := 3) (ci := 7) (pc := 11) pfl_X7_25 (by decide) rfl (by decide) (fm_dec dtX7_takeSign 7 rfl) ?_
    refine pv_invV2 (k := 1) (d' := 0) (pc := 14) pcv_X7_35 (by decide) rfl (Nat.le_of_ble_eq_true rfl) (by decide) (fm_dec dtX7_takeSign 8 rfl) ?_
    refine c_xfail1 (by rw [(f1 1 4 rfl).1]; exact hf) ?_
    refine pv_then1 ?_
    exact pv_zreturn (pc := 17) rfl (by first | exact Or.inr rfl | exact Or.inl rfl) (fm_dec dtX7_takeSign 9 rfl) (hq _ 0 f1 hI1)
set_option maxRecDepth 20000 in
theorem xp_f73 {Q : fmR → fmM → Prop} {M0 M : fmM} {k a : Nat} {v2 v3 v4 v5 v6 v7 : Option Value} (b74 : xdBad M0 M k a) (hq : ∀ M2 : fmM, xdBad M0 M2 k a → Q (.inl (some (.int 0))) M2) : pvEv Tx 3 qX2_read 73 [some (.ref 27), some (.ref 1), v2, v3, v4, v5, v6, v7] [] M Q := by
  refine pv_aloadn (pc := 73) (n := 1) 1 rfl rfl (fm_dec dtX2_read 43 rfl) ?_
  refine pv_invV0 (k := 1) (d' := 0) (pc := 74) pcv_X2_42 (by decide) rfl (Nat.le_of_ble_eq_true rfl) (by decide) (fm_dec dtX2_read 44 rfl) ?_
  refine c_xfailed (fun h9 => absurd h9 b74.nz) (fun _ => ?_) 
  refine pv_then1 ?_
  refine pv_if_eq (pc := 77) 82 (by decide) (fm_dec dtX2_read 45 rfl) (fun hc77 => by exfalso; revert hc77; decide) (fun _ => ?_)
  refine pv_iconst (pc := 80) (v := 0) (by decide) (fm_dec dtX2_read 46 rfl) ?_
  exact pv_zreturn (pc := 81) rfl (by first | exact Or.inr rfl | exact Or.inl rfl) (fm_dec dtX2_read 47 rfl) (hq _ b74)
set_option maxRecDepth 20000 in
theorem xp_f66 {Q : fmR → fmM → Prop} {M0 M : fmM} {k a : Nat} {v2 v3 v4 v5 v6 v7 : Option Value} (b69 : xdBad M0 M k a) (hq : ∀ M2 : fmM, xdBad M0 M2 k a → Q (.inl (some (.int 0))) M2) : pvEv Tx 3 qX2_read 66 [some (.ref 27), some (.ref 1), v2, v3, v4, v5, v6, v7] [] M Q := by
  refine pv_aloadn (pc := 66) (n := 1) 1 rfl rfl (fm_dec dtX2_read 39 rfl) ?_
  refine pv_bipush (pc := 67) (v := 59) (by decide) (fm_dec dtX2_read 40 rfl) ?_
  refine pv_invV1 (k := 1) (d' := 1) (pc := 69) pcv_X2_38 (by decide) rfl (Nat.le_of_ble_eq_true rfl) (by decide) (fm_dec dtX2_read 41 rfl) ?_
  refine x_signF (by decide) b69.2.2.2.2 b69.nz (fun M69 w69 f69 hI69 => ?_) 
  refine pv_then1 ?_
  refine pv_pop (pc := 72) rfl (fm_dec dtX2_read 42 rfl) ?_
  exact xp_f73 (b69.go f69 hI69) hq
set_option maxRecDepth 20000 in
theorem xp_f58 {Q : fmR → fmM → Prop} {M0 M : fmM} {k a : Nat} {x6 : Int32} {v2 v3 v4 v5 v7 : Option Value} (b61 : xdBad M0 M k a) (hq : ∀ M2 : fmM, xdBad M0 M2 k a → Q (.inl (some (.int 0))) M2) : pvEv Tx 3 qX2_read 58 [some (.ref 27), some (.ref 1), v2, v3, v4, v5, some (.int x6), v7] [] M Q := by
  refine pv_aloadn (pc := 58) (n := 1) 1 rfl rfl (fm_dec dtX2_read 34 rfl) ?_
  refine pv_iconst (pc := 59) (v := 0) (by decide) (fm_dec dtX2_read 35 rfl) ?_
  refine pv_iconst (pc := 60) (v := 1) (by decide) (fm_dec dtX2_read 36 rfl) ?_
  refine pv_invV2 (k := 1) (d' := 2) (pc := 61) pcv_X2_30 (by decide) rfl (Nat.le_of_ble_eq_true rfl) (by decide) (fm_dec dtX2_read 37 rfl) ?_
  refine s_numF1 (by decide) (by decide) b61.f13 b61.2.2.2.2 (fun n61 M61 c61 m61 hI61 f61 => ?_) (fun n61 M61 c61 m61 hI61 f61 => ?_)  
  · refine pv_then1 ?_
    refine pv_istore (pc := 64) (i := 7) (by decide) rfl (fm_dec dtX2_read 38 rfl) ?_
    dsimp only [List.set_cons_zero, List.set_cons_succ]
    exact xp_f66 (b61.go f61 hI61) hq
  · refine pv_then1 ?_
    refine pv_istore (pc := 64) (i := 7) (by decide) rfl (fm_dec dtX2_read 38 rfl) ?_
    dsimp only [List.set_cons_zero, List.set_cons_succ]
    exact xp_f66 (b61.go f61 hI61) hq
def ush (x z : Int32) : Int32 := (x.toUInt32 >>> (z.toUInt32 &&& Int32.toUInt32 31)).toInt32
def bcF1 (x : Int32) : Int32 := x - (ush x 1 &&& 1431655765)
def bcF2 (x : Int32) : Int32 := (x &&& 858993459) + (ush x 2 &&& 858993459)
def bcF3 (x : Int32) : Int32 := x + ush x 4 &&& 252645135
def bcF4 (x : Int32) : Int32 := x + ush x 8
def bcF5 (x : Int32) : Int32 := x + ush x 16 
def bcF (x : Int32) : Int32 := bcF5 (bcF4 (bcF3 (bcF2 (bcF1 x)))) &&& 63
theorem bc6 : ∀ w, w < 64 → bcF (nI w) = nI (pop6 w) := by decide +kernel
theorem pkc_J6_265 : pvKc RJ6 265 = some (265, .inl 1431655765) := by unfold pvKc; rw [pvK_12]; rfl
theorem pkc_J6_266 : pvKc RJ6 266 = some (266, .inl 858993459) := by unfold pvKc; rw [pvK_12]; rfl
theorem pkc_J6_267 : pvKc RJ6 267 = some (267, .inl 252645135) := by unfold pvKc; rw [pvK_12]; rfl
set_option maxRecDepth 20000 in
theorem c_bits {M : fmM} {Q : fmR → fmM → Prop} {x : Int32} (hq : Q (.inl (some (.int (bcF x)))) M) : pvGood Tx 0 qJ6_bitCount_0f7a4 [.int x] M Q := by
  refine pvGood_of (Nat.le_of_ble_eq_true rfl) ?_
  show pvEv Tx 0 qJ6_bitCount_0f7a4 0 [some (.int x)] [] M Q
  refine pv_iloadn (pc := 0) (n := 0) 0 rfl rfl (fm_dec dtJ6_bitCount_0f7a4 0 rfl) ?_
  refine pv_iloadn (pc := 1) (n := 0) 0 rfl rfl (fm_dec dtJ6_bitCount_0f7a4 1 rfl) ?_
  refine pv_iconst (pc := 2) (v := 1) (by decide) (fm_dec dtJ6_bitCount_0f7a4 2 rfl) ?_
  refine pv_iushr (pc := 3) (fm_dec dtJ6_bitCount_0f7a4 3 rfl) ?_
  refine pv_ldcw (pc := 4) pkc_J6_265 (fm_dec dtJ6_bitCount_0f7a4 4 rfl) ?_
  refine pv_iand (pc := 7) (fm_dec dtJ6_bitCount_0f7a4 5 rfl) ?_
  refine pv_isub (pc := 8) (fm_dec dtJ6_bitCount_0f7a4 6 rfl) ?_
  refine pv_istoren (pc := 9) (n := 0) 0 rfl (by decide) rfl (fm_dec dtJ6_bitCount_0f7a4 7 rfl) ?_
  dsimp only [List.set_cons_zero, List.set_cons_succ]
  refine pv_iloadn (pc := 10) (n := 0) 0 rfl rfl (fm_dec dtJ6_bitCount_0f7a4 8 rfl) ?_
  refine pv_ldcw (pc := 11) pkc_J6_266 (fm_dec dtJ6_bitCount_0f7a4 9 rfl) ?_
  refine pv_iand (pc := 14) (fm_dec dtJ6_bitCount_0f7a4 10 rfl) ?_
  refine pv_iloadn (pc := 15) (n := 0) 0 rfl rfl (fm_dec dtJ6_bitCount_0f7a4 11 rfl) ?_
  refine pv_iconst (pc := 16) (v := 2) (by decide) (fm_dec dtJ6_bitCount_0f7a4 12 rfl) ?_
  refine pv_iushr (pc := 17) (fm_dec dtJ6_bitCount_0f7a4 13 rfl) ?_
  refine pv_ldcw (pc := 18) pkc_J6_266 (fm_dec dtJ6_bitCount_0f7a4 14 rfl) ?_
  refine pv_iand (pc := 21) (fm_dec dtJ6_bitCount_0f7a4 15 rfl) ?_
  refine pv_iadd (pc := 22) (fm_dec dtJ6_bitCount_0f7a4 16 rfl) ?_
  refine pv_istoren (pc := 23) (n := 0) 0 rfl (by decide) rfl (fm_dec dtJ6_bitCount_0f7a4 17 rfl) ?_
  dsimp only [List.set_cons_zero, List.set_cons_succ]
  refine pv_iloadn (pc := 24) (n := 0) 0 rfl rfl (fm_dec dtJ6_bitCount_0f7a4 18 rfl) ?_
  refine pv_iloadn (pc := 25) (n := 0) 0 rfl rfl (fm_dec dtJ6_bitCount_0f7a4 19 rfl) ?_
  refine pv_iconst (pc := 26) (v := 4) (by decide) (fm_dec dtJ6_bitCount_0f7a4 20 rfl) ?_
  refine pv_iushr (pc := 27) (fm_dec dtJ6_bitCount_0f7a4 21 rfl) ?_
  refine pv_iadd (pc := 28) (fm_dec dtJ6_bitCount_0f7a4 22 rfl) ?_
  refine pv_ldcw (pc := 29) pkc_J6_267 (fm_dec dtJ6_bitCount_0f7a4 23 rfl) ?_
  refine pv_iand (pc := 32) (fm_dec dtJ6_bitCount_0f7a4 24 rfl) ?_
  refine pv_istoren (pc := 33) (n := 0) 0 rfl (by decide) rfl (fm_dec dtJ6_bitCount_0f7a4 25 rfl) ?_
  dsimp only [List.set_cons_zero, List.set_cons_succ]
  refine pv_iloadn (pc := 34) (n := 0) 0 rfl rfl (fm_dec dtJ6_bitCount_0f7a4 26 rfl) ?_
  refine pv_iloadn (pc := 35) (n := 0) 0 rfl rfl (fm_dec dtJ6_bitCount_0f7a4 27 rfl) ?_
  refine pv_bipush (pc := 36) (v := 8) (by decide) (fm_dec dtJ6_bitCount_0f7a4 28 rfl) ?_
  refine pv_iushr (pc := 38) (fm_dec dtJ6_bitCount_0f7a4 29 rfl) ?_
  refine pv_iadd (pc := 39) (fm_dec dtJ6_bitCount_0f7a4 30 rfl) ?_
  refine pv_istoren (pc := 40) (n := 0) 0 rfl (by decide) rfl (fm_dec dtJ6_bitCount_0f7a4 31 rfl) ?_
  dsimp only [List.set_cons_zero, List.set_cons_succ]
  refine pv_iloadn (pc := 41) (n := 0) 0 rfl rfl (fm_dec dtJ6_bitCount_0f7a4 32 rfl) ?_
  refine pv_iloadn (pc := 42) (n := 0) 0 rfl rfl (fm_dec dtJ6_bitCount_0f7a4 33 rfl) ?_
  refine pv_bipush (pc := 43) (v := 16) (by decide) (fm_dec dtJ6_bitCount_0f7a4 34 rfl) ?_
  refine pv_iushr (pc := 45) (fm_dec dtJ6_bitCount_0f7a4 35 rfl) ?_
  refine pv_iadd (pc := 46) (fm_dec dtJ6_bitCount_0f7a4 36 rfl) ?_
  refine pv_istoren (pc := 47) (n := 0) 0 rfl (by decide) rfl (fm_dec dtJ6_bitCount_0f7a4 37 rfl) ?_
  dsimp only [List.set_cons_zero, List.set_cons_succ]
  refine pv_iloadn (pc := 48) (n := 0) 0 rfl rfl (fm_dec dtJ6_bitCount_0f7a4 38 rfl) ?_
  refine pv_bipush (pc := 49) (v := 63) (by decide) (fm_dec dtJ6_bitCount_0f7a4 39 rfl) ?_
  refine pv_iand (pc := 51) (fm_dec dtJ6_bitCount_0f7a4 40 rfl) ?_
  exact pv_ireturn (pc := 52) rfl (fm_dec dtJ6_bitCount_0f7a4 41 rfl) hq
theorem c_bits6 {M : fmM} {Q : fmR → fmM → Prop} {w : Nat} (hw : w < 64) (hq : Q (.inl (some (.int (nI (pop6 w))))) M) : pvGood Tx 0 qJ6_bitCount_0f7a4 [.int (nI w)] M Q := c_bits (by rw [bc6 w hw]; exact hq)
theorem xdBad.fr {M0 M M' : fmM} {k a : Nat} (h : xdBad M M' k a) (hF : xdFr M0 M) : xdBad M0 M' k a := ⟨h.1, h.2.1, h.2.2.1, hF.trans h.2.2.2.1, h.2.2.2.2⟩
theorem xdBad.of0 {M M' : fmM} {tx : tX} {n q aa : Nat} {a : Int32} (h : xdOk M M' tx n q) (ha : a.toInt = aa) (h6 : aa ≤ n) : xdBad M (fmI (fmI M' 1 4 2) 1 5 a) 2 aa := ⟨(show (2 : Int32).toInt = ((2 : Nat) : Int) by decide), ha, by decide, ((h.2.2.1.set (Or.inr (Or.inl rfl))).set (Or.inr (Or.inr rfl))), xI_45 h.2.2.2 (kk := 2) (by decide) (by decide) ha h6 h.1.2.2.2.1.1⟩
theorem xpEnd.at {M0 M M' : fmM} {tx : tX} {n q : Nat} {ls : tC} {se bi i : Int32} {w u : Nat} (hF : xdFr M0 M') (k : xdOk M M' tx n q) (hP : xpI ls se bi i w u) : xpEnd M0 (fmI (fmI (fmI M' 27 0 (nI (pop6 w))) 27 1 (nI w)) 27 2 bi) ls := by
  obtain ⟨h1, h2, h3, h4, h5, h6, h7, h8, h9⟩ := hP
  have p6 := pop6_le w h3
  refine ⟨?_, by omega, ⟨w, u, rfl, h6, h3, h7, h4, h5, h8⟩, h9, fun k' j a b => ?_, fun j a b c => hF.2 j a b c, k.2.1, ?_⟩
  · show (nI (pop6 w)).toInt = _
    rw [nI_toInt (by omega), h4]
  · refine ⟨?_, (hF.1 k' j a).2⟩
    rw [fmI_k _ _ b, fmI_k _ _ b, fmI_k _ _ b]
    exact (hF.1 k' j a).1
  · exact xInv.put (xInv.put (xInv.put k.2.2.2 (scq_t _)) (scq_t _)) (scq_t _)
set_option maxRecDepth 20000 in
theorem xp_loop {Q : fmR → fmM → Prop} {tx : tX} {n : Nat} {M0 : fmM} (ht : tOk tx n) : ∀ (m : Nat) (M : fmM) (ls : tC) (se bi i : Int32) (w u p : Nat) (v5 v6 v7 : Option Value), xS2 M tx n p → M.1 1 4 = 0 → scInv Tx invX M → xdFr M0 M → xpI ls se bi i w u → ¬ pgL tx n m ls (sk tx p) = .inl (9, 0) → (∀ (M2 : fmM) (ls2 : tC), pgL tx n m ls (sk tx p) = .inr ls2 → xpEnd M0 M2 ls2 → Q (.inl (some (.int 1))) M2) → (∀ (M2 : fmM) (k a : Nat), pgL tx n m ls (sk tx p) = .inl (k, a) → xdBad M0 M2 k a → Q (.inl (some (.int 0))) M2) → pvEv Tx 3 qX2_read 7 [some (.ref 27), some (.ref 1), some (.int se), some (.int bi), some (.int i), v5, v6, v7] [] M Q := by
  intro m
  induction m using Nat.strongRecOn with
  | _ m ih =>
    intro M ls se bi i w u p v5 v6 v7 hS hf hI hF hP hne hok hbad
    obtain ⟨f, rfl⟩ : ∃ f, m = f + 1 := (by cases m with | zero => exact absurd rfl hne | succ f => exact ⟨f, rfl⟩)
    refine pv_iload (pc := 7) (i := 4) rfl (fm_dec dtX2_read 6 rfl) ?_
    refine pv_bipush (pc := 9) (v := 6) (by decide) (fm_dec dtX2_read 7 rfl) ?_
    refine pv_icmp_gt (pc := 11) 103 (by decide) (fm_dec dtX2_read 8 rfl) (fun hc11 => by exfalso; rw [sc_lt] at hc11; have h8 : (6 : Int32).toInt = 6 := (by decide); have h7 := pop6_le w hP.2.2.1; have h6 := hP.1; have h5 := hP.2.2.2.1; omega) (fun _ => ?_)
    refine pv_aloadn (pc := 14) (n := 1) 1 rfl rfl (fm_dec dtX2_read 9 rfl) ?_
    refine pv_invV0 (k := 1) (d' := 0) (pc := 15) pcv_X2_21 (by decide) rfl (Nat.le_of_ble_eq_true rfl) (by decide) (fm_dec dtX2_read 10 rfl) ?_
    refine x_peek hS hf hI (fun M15 v15 hv15 k15 => ?_)
    refine pv_then1 ?_
    refine pv_iconst (pc := 18) (v := (-1)) (by decide) (fm_dec dtX2_read 11 rfl) ?_
    refine pv_icmp_eq (pc := 19) 103 (by decide) (fm_dec dtX2_read 12 rfl) (fun hc19 => ?_) (fun hc19 => ?_)
    · have hsp : sk tx p ≤ n := sp_le tB_1 ht hS.2.2.1
      have hnp : n ≤ sk tx p := (by by_cases h9 : n ≤ sk tx p; exact h9; exfalso; have h8 := ht.2.2 (sk tx p) (by omega); rw [hc19] at hv15; have h7 : (-1 : Int32).toInt = -1 := (by decide); omega)
      rw [hP.2.1]
      refine pv_aloadn (pc := 103) (n := 0) 0 rfl rfl (fm_dec dtX2_read 62 rfl) ?_
      refine pv_iloadn (pc := 104) (n := 2) 2 rfl rfl (fm_dec dtX2_read 63 rfl) ?_
      refine pv_iS1 (d' := 0) (pc := 105) pcs_X2_46 (Nat.le_of_ble_eq_true rfl) (by decide) (fm_dec dtX2_read 64 rfl) ?_
      refine c_bits6 hP.2.2.1 ?_
      refine pv_then1 ?_
      refine pv_putI (k := 27) (j := 0) (ci := 2) (pc := 108) pfl_X2_9 (by decide) rfl (by decide) (fm_dec dtX2_read 65 rfl) ?_
      refine pv_aloadn (pc := 111) (n := 0) 0 rfl rfl (fm_dec dtX2_read 66 rfl) ?_
      refine pv_iloadn (pc := 112) (n := 2) 2 rfl rfl (fm_dec dtX2_read 67 rfl) ?_
      refine pv_putI (k := 27) (j := 1) (ci := 2) (pc := 113) pfl_X2_15 (by decide) rfl (by decide) (fm_dec dtX2_read 68 rfl) ?_
      refine pv_aloadn (pc := 116) (n := 0) 0 rfl rfl (fm_dec dtX2_read 69 rfl) ?_
      refine pv_iloadn (pc := 117) (n := 3) 3 rfl rfl (fm_dec dtX2_read 70 rfl) ?_
      refine pv_putI (k := 27) (j := 2) (ci := 2) (pc := 118) pfl_X2_18 (by decide) rfl (by decide) (fm_dec dtX2_read 71 rfl) ?_
      refine pv_iconst (pc := 121) (v := 1) (by decide) (fm_dec dtX2_read 72 rfl) ?_
      exact pv_zreturn (pc := 122) rfl (by first | exact Or.inr rfl | exact Or.inl rfl) (fm_dec dtX2_read 73 rfl) (hok _ ls (pgL_0 hnp) (xpEnd.at (hF.trans k15.2.2.1) k15 hP))
    · have hsp : sk tx p ≤ n := sp_le tB_1 ht hS.2.2.1
      have hnp : ¬ n ≤ sk tx p := (fun h9 => hc19 (i32_ext (by rw [hv15, ht.2.1 _ h9]; decide)))
      refine pv_aloadn (pc := 22) (n := 1) 1 rfl rfl (fm_dec dtX2_read 13 rfl) ?_
      refine pv_invV0 (k := 1) (d' := 1) (pc := 23) pcv_X2_27 (by decide) rfl (Nat.le_of_ble_eq_true rfl) (by decide) (fm_dec dtX2_read 14 rfl) ?_
      refine x_next k15.1 k15.2.1 k15.2.2.2 (fun M23 x23 hx23 k23 => ?_)
      refine pv_then1 ?_
      refine pv_istore (pc := 26) (i := 5) (by decide) rfl (fm_dec dtX2_read 15 rfl) ?_
      dsimp only [List.set_cons_zero, List.set_cons_succ]
      refine pv_aloadn (pc := 28) (n := 1) 1 rfl rfl (fm_dec dtX2_read 16 rfl) ?_
      refine pv_iconst (pc := 29) (v := 0) (by decide) (fm_dec dtX2_read 17 rfl) ?_
      refine pv_iconst (pc := 30) (v := 5) (by decide) (fm_dec dtX2_read 18 rfl) ?_
      refine pv_invV2 (k := 1) (d' := 2) (pc := 31) pcv_X2_30 (by decide) rfl (Nat.le_of_ble_eq_true rfl) (by decide) (fm_dec dtX2_read 19 rfl) ?_
      refine x_numC 0 5 (by decide) (by decide) (by decide) k23.1 k23.2.1 k23.2.2.2 (fun M31 k31 q31 w31 e31 hw31 k31o => ?_) (fun M31 kb ab e31 b31 => ?_)
      · refine pv_then1 ?_
        refine pv_istore (pc := 34) (i := 6) (by decide) rfl (fm_dec dtX2_read 20 rfl) ?_
        dsimp only [List.set_cons_zero, List.set_cons_succ]
        have hk6 : k31 < 6 := (by have h9 := spNum_ok ht k23.1.2.2.1 e31; omega)
        have e31 : spNum tx 0 5 (sk tx p) = .inr (k31, q31) := (by rw [sk_sk ht hS.2.2.1] at e31; exact e31)
        refine pv_iload (pc := 36) (i := 6) rfl (fm_dec dtX2_read 21 rfl) ?_
        refine pv_if_lt (pc := 38) 58 (by decide) (fm_dec dtX2_read 22 rfl) (fun hc38 => by exfalso; have h9 := hc38; rw [sc_lt] at h9; have h8 : (0 : Int32).toInt = 0 := (by decide); omega) (fun _ => ?_)
        refine pv_iloadn (pc := 41) (n := 2) 2 rfl rfl (fm_dec dtX2_read 23 rfl) ?_
        refine pv_iload (pc := 42) (i := 6) rfl (fm_dec dtX2_read 24 rfl) ?_
        refine pv_ishr (pc := 44) (fm_dec dtX2_read 25 rfl) ?_
        refine pv_iconst (pc := 45) (v := 1) (by decide) (fm_dec dtX2_read 26 rfl) ?_
        refine pv_iand (pc := 46) (fm_dec dtX2_read 27 rfl) ?_
        refine pv_if_eq (pc := 47) 58 (by decide) (fm_dec dtX2_read 28 rfl) (fun hc47 => ?_) (fun hc47 => ?_)
        · have hbit : w.testBit k31 = false := (has6z w hP.2.2.1 k31 hk6).mp (by have h9 := hc47; rw [hP.2.1, nI_is hw31 (by omega)] at h9; exact h9)
          have hns : pgHas ls k31 = false := (by rw [← hP.2.2.2.2.1 k31 hk6]; exact hbit)
          refine pv_aloadn (pc := 58) (n := 1) 1 rfl rfl (fm_dec dtX2_read 34 rfl) ?_
          refine pv_iconst (pc := 59) (v := 0) (by decide) (fm_dec dtX2_read 35 rfl) ?_
          refine pv_iconst (pc := 60) (v := 1) (by decide) (fm_dec dtX2_read 36 rfl) ?_
          refine pv_invV2 (k := 1) (d' := 2) (pc := 61) pcv_X2_30 (by decide) rfl (Nat.le_of_ble_eq_true rfl) (by decide) (fm_dec dtX2_read 37 rfl) ?_
          refine x_numC 0 1 (by decide) (by decide) (by decide) k31o.1 k31o.2.1 k31o.2.2.2 (fun M61 b61 q61 w61 e61 hw61 k61 => ?_) (fun M61 kb ab e61 b61 => ?_)
          · refine pv_then1 ?_
            refine pv_istore (pc := 64) (i := 7) (by decide) rfl (fm_dec dtX2_read 38 rfl) ?_
            dsimp only [List.set_cons_zero, List.set_cons_succ]
            have hb2 : b61 < 2 := (by have h9 := spNum_ok ht k31o.1.2.2.1 e61; omega)
            refine pv_aloadn (pc := 66) (n := 1) 1 rfl rfl (fm_dec dtX2_read 39 rfl) ?_
            refine pv_bipush (pc := 67) (v := 59) (by decide) (fm_dec dtX2_read 40 rfl) ?_
            refine pv_invV1 (k := 1) (d' := 1) (pc := 69) pcv_X2_38 (by decide) rfl (Nat.le_of_ble_eq_true rfl) (by decide) (fm_dec dtX2_read 41 rfl) ?_
            refine x_signC 59 (by decide) (by decide) k61.1 k61.2.1 k61.2.2.2 (fun M69 q69 e69 k69 => ?_) (fun M69 kb ab e69 b69 => ?_)
            · refine pv_then1 ?_
              refine pv_pop (pc := 72) rfl (fm_dec dtX2_read 42 rfl) ?_
              refine pv_aloadn (pc := 73) (n := 1) 1 rfl rfl (fm_dec dtX2_read 43 rfl) ?_
              refine pv_invV0 (k := 1) (d' := 0) (pc := 74) pcv_X2_42 (by decide) rfl (Nat.le_of_ble_eq_true rfl) (by decide) (fm_dec dtX2_read 44 rfl) ?_
              refine c_xfailed (fun _ => ?_) (fun h9 => absurd k69.2.1 h9) 
              refine pv_then1 ?_
              refine pv_if_eq (pc := 77) 82 (by decide) (fm_dec dtX2_read 45 rfl) (fun _ => ?_) (fun hc77 => by exfalso; revert hc77; decide)
              refine pv_iloadn (pc := 82) (n := 2) 2 rfl rfl (fm_dec dtX2_read 48 rfl) ?_
              refine pv_iconst (pc := 83) (v := 1) (by decide) (fm_dec dtX2_read 49 rfl) ?_
              refine pv_iload (pc := 84) (i := 6) rfl (fm_dec dtX2_read 50 rfl) ?_
              refine pv_ishl (pc := 86) (fm_dec dtX2_read 51 rfl) ?_
              refine pv_ior (pc := 87) (fm_dec dtX2_read 52 rfl) ?_
              refine pv_istoren (pc := 88) (n := 2) 2 rfl (by decide) rfl (fm_dec dtX2_read 53 rfl) ?_
              dsimp only [List.set_cons_zero, List.set_cons_succ]
              refine pv_iloadn (pc := 89) (n := 3) 3 rfl rfl (fm_dec dtX2_read 54 rfl) ?_
              refine pv_iload (pc := 90) (i := 7) rfl (fm_dec dtX2_read 55 rfl) ?_
              refine pv_iload (pc := 92) (i := 6) rfl (fm_dec dtX2_read 56 rfl) ?_
              refine pv_ishl (pc := 94) (fm_dec dtX2_read 57 rfl) ?_
              refine pv_ior (pc := 95) (fm_dec dtX2_read 58 rfl) ?_
              refine pv_istoren (pc := 96) (n := 3) 3 rfl (by decide) rfl (fm_dec dtX2_read 59 rfl) ?_
              dsimp only [List.set_cons_zero, List.set_cons_succ]
              refine pv_iincc (pc := 97) 4 1 (by decide) rfl (by decide) rfl (fm_dec dtX2_read 60 rfl) ?_
              dsimp only [List.set_cons_zero, List.set_cons_succ]
              refine pv_goto (pc := 100) 7 (by decide) (fm_dec dtX2_read 61 rfl) ?_
              have e9 := pgL_5 (f := f) (ls := ls) hnp e31 hns e61 e69
              rw [e9] at hne hok hbad
              exact ih f (by omega) M69 (ls ++ [(k31, b61)]) _ _ _ (w ||| 1 <<< k31) (u ||| b61 <<< k31) q69 _ _ _ k69.1 k69.2.1 k69.2.2.2 (hF.trans (k15.2.2.1.trans (k23.2.2.1.trans (k31o.2.2.1.trans (k61.2.2.1.trans k69.2.2.1))))) (hP.add hw31 hw61 hk6 hb2 hbit) hne hok hbad
            · refine pv_then1 ?_
              refine pv_pop (pc := 72) rfl (fm_dec dtX2_read 42 rfl) ?_
              exact xp_f73 b69 (fun M2 h2 => hbad M2 kb ab (pgL_4 hnp e31 hns e61 e69) (h2.fr (hF.trans (k15.2.2.1.trans (k23.2.2.1.trans (k31o.2.2.1.trans k61.2.2.1))))))
          · refine pv_then1 ?_
            refine pv_istore (pc := 64) (i := 7) (by decide) rfl (fm_dec dtX2_read 38 rfl) ?_
            dsimp only [List.set_cons_zero, List.set_cons_succ]
            exact xp_f66 b61 (fun M2 h2 => hbad M2 kb ab (pgL_3 hnp e31 hns e61) (h2.fr (hF.trans (k15.2.2.1.trans (k23.2.2.1.trans k31o.2.2.1)))))
        · refine pv_aloadn (pc := 50) (n := 1) 1 rfl rfl (fm_dec dtX2_read 29 rfl) ?_
          refine pv_iconst (pc := 51) (v := 2) (by decide) (fm_dec dtX2_read 30 rfl) ?_
          refine pv_iload (pc := 52) (i := 5) rfl (fm_dec dtX2_read 31 rfl) ?_
          refine pv_invV2 (k := 1) (d' := 0) (pc := 54) pcv_X2_34 (by decide) rfl (Nat.le_of_ble_eq_true rfl) (by decide) (fm_dec dtX2_read 32 rfl) ?_
          refine c_xfail0 k31o.2.1 ?_
          refine pv_then1 ?_
          refine pv_pop (pc := 57) rfl (fm_dec dtX2_read 33 rfl) ?_
          have hbit : w.testBit k31 = true := (by cases h8 : w.testBit k31 with | true => rfl | false => exact absurd (by have h9 := (has6z w hP.2.2.1 k31 hk6).mpr h8; rw [hP.2.1, nI_is hw31 (by omega)]; exact h9) hc47)
          have hns : pgHas ls k31 = true := (by rw [← hP.2.2.2.2.1 k31 hk6]; exact hbit)
          exact xp_f58 (xdBad.of0 k31o hx23 (show sk tx (sk tx p) ≤ n from by rw [sk_sk ht hS.2.2.1]; exact hsp)) (fun M2 h2 => hbad M2 2 (sk tx p) (pgL_2 hnp e31 hns) ((by rw [sk_sk ht hS.2.2.1] at h2; exact h2.fr (hF.trans (k15.2.2.1.trans k23.2.2.1)))))
      · refine pv_then1 ?_
        refine pv_istore (pc := 34) (i := 6) (by decide) rfl (fm_dec dtX2_read 20 rfl) ?_
        dsimp only [List.set_cons_zero, List.set_cons_succ]
        refine pv_iload (pc := 36) (i := 6) rfl (fm_dec dtX2_read 21 rfl) ?_
        refine pv_if_lt (pc := 38) 58 (by decide) (fm_dec dtX2_read 22 rfl) (fun _ => ?_) (fun hc38 => by exfalso; revert hc38; decide)
        have e31 : spNum tx 0 5 (sk tx p) = .inl (kb, ab) := (by rw [sk_sk ht hS.2.2.1] at e31; exact e31)
        exact xp_f58 b31 (fun M2 h2 => hbad M2 kb ab (pgL_1 hnp e31) (h2.fr (hF.trans (k15.2.2.1.trans k23.2.2.1))))
set_option maxRecDepth 20000 in
theorem c_xpread {M : fmM} {Q : fmR → fmM → Prop} {tx : tX} {n : Nat} (hS : xS2 M tx n 0) (hf : M.1 1 4 = 0) (hI : scInv Tx invX M) (hok : ∀ (M2 : fmM) (ls2 : tC), spPage tx n = .inr ls2 → xpEnd M M2 ls2 → Q (.inl (some (.int 1))) M2) (hbad : ∀ (M2 : fmM) (k a : Nat), spPage tx n = .inl (k, a) → xdBad M M2 k a → Q (.inl (some (.int 0))) M2) : pvGood Tx 3 qX2_read [.ref 27, .ref 1] M Q := by
  refine pvGood_of (Nat.le_of_ble_eq_true rfl) ?_
  show pvEv Tx 3 qX2_read 0 [some (.ref 27), some (.ref 1), none, none, none, none, none, none] [] M Q
  refine pv_iconst (pc := 0) (v := 0) (by decide) (fm_dec dtX2_read 0 rfl) ?_
  refine pv_istoren (pc := 1) (n := 2) 2 rfl (by decide) rfl (fm_dec dtX2_read 1 rfl) ?_
  dsimp only [List.set_cons_zero, List.set_cons_succ]
  refine pv_iconst (pc := 2) (v := 0) (by decide) (fm_dec dtX2_read 2 rfl) ?_
  refine pv_istoren (pc := 3) (n := 3) 3 rfl (by decide) rfl (fm_dec dtX2_read 3 rfl) ?_
  dsimp only [List.set_cons_zero, List.set_cons_succ]
  refine pv_iconst (pc := 4) (v := 0) (by decide) (fm_dec dtX2_read 4 rfl) ?_
  refine pv_istore (pc := 5) (i := 4) (by decide) rfl (fm_dec dtX2_read 5 rfl) ?_
  dsimp only [List.set_cons_zero, List.set_cons_succ]
  have ht := hS.2.2.2.1
  refine xp_loop ht 700 M [] 0 0 0 0 0 0 _ _ _ hS hf hI (xdFr.refl M) ⟨by decide, by decide, by decide, by decide, by decide, by decide, by decide, by decide, fun l h => (by cases h)⟩ (pgL_fuel ht 700 [] (sk tx 0) (sp_le tB_1 ht (Nat.zero_le _)) (by have := ht.1; omega)) hok hbad
set_option maxRecDepth 20000 in
theorem c_xpage {M : fmM} {Q : fmR → fmM → Prop} {T : Nat → tX} {nn : Int32} (hI : scInv Tx invX M) (hT : txF M T) (hrf : ¬ txP nn 60 (M.1 1 1).toInt → Q (.inr fmIAE) (fmI M 0 16 (M.1 0 16 + 1))) (hok : ∀ (n : Nat) (M' : fmM) (ls : tC) (r : Int32), nn.toInt = (n : Int) → txP nn 60 (M.1 1 1).toInt → spPage (T n) n = .inr ls → r.toInt = (ls.length : Int) → xpEnd (opM M nn) M' ls → Q (.inl (some (.int r))) M') (hbad : ∀ (n k a : Nat) (M' : fmM) (r : Int32), nn.toInt = (n : Int) → txP nn 60 (M.1 1 1).toInt → spPage (T n) n = .inl (k, a) → r.toInt = (k : Int) - 10 → xdBad (opM M nn) M' k a → Q (.inl (some (.int r))) M') : pvGood Tx 41 qX10_page [.ref 0, .int nn] M Q := by
  refine pvGood_of (Nat.le_of_ble_eq_true rfl) ?_
  show pvEv Tx 41 qX10_page 0 [some (.ref 0), some (.int nn)] [] M Q
  refine pv_aloadn (pc := 0) (n := 0) 0 rfl rfl (fm_dec dtX10_page 0 rfl) ?_
  refine pv_iloadn (pc := 1) (n := 1) 1 rfl rfl (fm_dec dtX10_page 1 rfl) ?_
  refine pv_bipush (pc := 2) (v := 60) (by decide) (fm_dec dtX10_page 2 rfl) ?_
  refine pv_invV2 (k := 0) (d' := 1) (pc := 4) pcv_X10_108 (by decide) rfl (Nat.le_of_ble_eq_true rfl) (by decide) (fm_dec dtX10_page 3 rfl) ?_
  refine c_openT (fun h4 => ?_) (fun h4 => ?_)
  · refine pv_then0 ?_
    have h46 : nn.toInt ≤ 60 := h4.2.1
    obtain ⟨n, hn⟩ : ∃ n : Nat, nn.toInt = (n : Int) := ⟨nn.toInt.toNat, by have := h4.1; omega⟩
    have hI4 := inv_open (n := nn) hI h4.1 (by omega)
    have hT9 := hT n (by have := h4.2.2; omega)
    have hS := op_S hn hT9.1 hT9.2
    have hf4 : (opM M nn).1 1 4 = 0 := rfl
    refine pv_aloadn (pc := 7) (n := 0) 0 rfl rfl (fm_dec dtX10_page 4 rfl) ?_
    refine pv_getR (k := 0) (j := 4) (ci := 10) (pc := 8) 27 rfl (by decide) pfl_X10_36 (by decide) rfl (by decide) (fm_dec dtX10_page 5 rfl) ?_
    refine pv_aloadn (pc := 11) (n := 0) 0 rfl rfl (fm_dec dtX10_page 6 rfl) ?_
    refine pv_getR (k := 0) (j := 0) (ci := 10) (pc := 12) 1 rfl (by decide) pfl_X10_12 (by decide) rfl (by decide) (fm_dec dtX10_page 7 rfl) ?_
    refine pv_invV1 (k := 27) (d' := 3) (pc := 15) pcv_X10_161 (by decide) rfl (Nat.le_of_ble_eq_true rfl) (by decide) (fm_dec dtX10_page 8 rfl) ?_
    refine c_xpread hS hf4 hI4 (fun M15 ls e15 k15 => ?_) (fun Mb kb ab eb hB => ?_)  
    · refine pv_then1 ?_
      refine pv_if_ne (pc := 18) 32 (by decide) (fm_dec dtX10_page 9 rfl) (fun _ => ?_) (fun hc18 => by exfalso; revert hc18; decide)
      refine pv_aloadn (pc := 32) (n := 0) 0 rfl rfl (fm_dec dtX10_page 16 rfl) ?_
      refine pv_getR (k := 0) (j := 4) (ci := 10) (pc := 33) 27 rfl (by decide) pfl_X10_36 (by decide) rfl (by decide) (fm_dec dtX10_page 17 rfl) ?_
      refine pv_getI (k := 27) (j := 0) (ci := 2) (pc := 36) pfl_X10_162 (by decide) rfl (by decide) (fm_dec dtX10_page 18 rfl) ?_
      exact pv_ireturn (pc := 39) rfl (fm_dec dtX10_page 19 rfl) (hok n M15 ls _ hn h4 e15 k15.1 k15)
    · refine pv_then1 ?_
      refine pv_if_ne (pc := 18) 32 (by decide) (fm_dec dtX10_page 9 rfl) (fun hc18 => by exfalso; revert hc18; decide) (fun _ => ?_)
      refine pv_aloadn (pc := 21) (n := 0) 0 rfl rfl (fm_dec dtX10_page 10 rfl) ?_
      refine pv_getR (k := 0) (j := 0) (ci := 10) (pc := 22) 1 rfl (by decide) pfl_X10_12 (by decide) rfl (by decide) (fm_dec dtX10_page 11 rfl) ?_
      refine pv_getI (k := 1) (j := 4) (ci := 7) (pc := 25) pfl_X10_116 (by decide) rfl (by decide) (fm_dec dtX10_page 12 rfl) ?_
      refine pv_bipush (pc := 28) (v := 10) (by decide) (fm_dec dtX10_page 13 rfl) ?_
      refine pv_isub (pc := 30) (fm_dec dtX10_page 14 rfl) ?_
      exact pv_ireturn (pc := 31) rfl (fm_dec dtX10_page 15 rfl) (hbad n kb ab Mb _ hn h4 eb (law_r hB.1 (by have h9 := hB.f13; have h8 := hB.1; omega)) hB)
  · refine pv_thenX ?_
    exact hrf h4
end
-- P 18ka
section
-- WHAT STAYS
def kpIn (P : List (Nat × Nat) × List (Nat × Nat)) (k j : Nat) : Bool := P.1.any (fun p => Nat.ble p.1 k && Nat.ble k p.2) || P.2.any (fun p => Nat.beq p.1 k && Nat.beq p.2 j)
def kpOk (P : List (Nat × Nat) × List (Nat × Nat)) (W : List (Nat × Nat × Nat)) : Bool := P.1.all (fun p => W.all (fun w => Nat.blt w.1 p.1 || Nat.blt p.2 w.1)) && P.2.all (fun p => W.all (fun w => Nat.blt w.1 p.1 || Nat.blt p.1 w.1 || Nat.ble (w.2.1 + w.2.2) p.2 || Nat.blt p.2 w.2.1))
/-- the places of P are as they were -/
def kpt (P : List (Nat × Nat) × List (Nat × Nat)) (M M' : fmM) : Prop := ∀ k j, kpIn P k j = true → M'.1 k j = M.1 k j
theorem kpt.refl {P : List (Nat × Nat) × List (Nat × Nat)} (M : fmM) : kpt P M M := fun _ _ _ => rfl
theorem kpt.trans {P : List (Nat × Nat) × List (Nat × Nat)} {M M1 M2 : fmM} (h : kpt P M M1) (h' : kpt P M1 M2) : kpt P M M2 := fun k j hk => (h' k j hk).trans (h k j hk)
theorem kp_of {P : List (Nat × Nat) × List (Nat × Nat)} {W : List (Nat × Nat × Nat)} {M M' : fmM} (h : scFr W M M') (hd : kpOk P W = true) : kpt P M M' := fun k j hk => by
  refine (h k j ?_).1
  cases e : scIn W k j with
  | false => rfl
  | true =>
    exfalso
    obtain ⟨w, hw, h2⟩ := List.any_eq_true.mp e
    simp only [Bool.and_eq_true, Nat.ble_eq, beq_iff_eq, Nat.blt_eq] at h2
    unfold kpOk at hd
    rw [Bool.and_eq_true] at hd
    unfold kpIn at hk
    rw [Bool.or_eq_true] at hk
    rcases hk with hk | hk
    · obtain ⟨p, hp, h1⟩ := List.any_eq_true.mp hk
      have h3 := List.all_eq_true.mp (List.all_eq_true.mp hd.1 p hp) w hw
      simp only [Bool.and_eq_true, Nat.ble_eq] at h1
      simp only [Bool.or_eq_true, Nat.blt_eq] at h3
      omega
    · obtain ⟨p, hp, h1⟩ := List.any_eq_true.mp hk
      have h3 := List.all_eq_true.mp (List.all_eq_true.mp hd.2 p hp) w hw
      simp only [Bool.and_eq_true, Nat.beq_eq] at h1
      simp only [Bool.or_eq_true, Nat.ble_eq, Nat.blt_eq] at h3
      omega
theorem kpt.sub {P P' : List (Nat × Nat) × List (Nat × Nat)} {M M' : fmM} (h : kpt P M M') (h1 : ∀ q ∈ P'.1, q ∈ P.1) (h2 : ∀ q ∈ P'.2, q ∈ P.2) : kpt P' M M' := fun k j hk => by
  refine h k j ?_
  unfold kpIn at hk ⊢
  rw [Bool.or_eq_true] at hk ⊢
  rcases hk with hk | hk
  · obtain ⟨p, hp, g⟩ := List.any_eq_true.mp hk
    exact Or.inl (List.any_eq_true.mpr ⟨p, h1 p hp, g⟩)
  · obtain ⟨p, hp, g⟩ := List.any_eq_true.mp hk
    exact Or.inr (List.any_eq_true.mpr ⟨p, h2 p hp, g⟩)
abbrev PXk : List (Nat × Nat) × List (Nat × Nat) := ([(3, 12), (23, 25), (27, 27)], [(0, 13)])
abbrev PMk : List (Nat × Nat) × List (Nat × Nat) := ([(4, 4), (35, 42), (67, 90), (91, 250), (411, 416)], [(0, 17), (0, 31), (0, 34)])
theorem kpx_k {k j : Nat} (h : kpIn PXk k j = true) : (k = 0 ∧ j = 13) ∨ (3 ≤ k ∧ k ≤ 27 ∧ (k ≤ 12 ∨ 23 ≤ k)) := by
  simp only [kpIn, List.any_cons, List.any_nil, Bool.or_eq_true, Bool.and_eq_true, Nat.ble_eq, Nat.beq_eq, Bool.false_eq_true, or_false] at h
  omega
theorem kpm_k {k j : Nat} (h : kpIn PMk k j = true) : (k = 0 ∧ (j = 17 ∨ j = 31 ∨ j = 34)) ∨ (k = 4 ∨ (35 ≤ k ∧ k < 43) ∨ (67 ≤ k ∧ k < 91) ∨ (91 ≤ k ∧ k < 251) ∨ (411 ≤ k ∧ k < 417)) := by
  simp only [kpIn, List.any_cons, List.any_nil, Bool.or_eq_true, Bool.and_eq_true, Nat.ble_eq, Nat.beq_eq, Bool.false_eq_true, or_false] at h
  omega
theorem kp_op {M : fmM} {n : Int32} : kpt PXk M (opM M n) := fun k j hk => by
  have h9 := kpx_k hk
  unfold opM
  rw [fmI_k _ _ (by omega), fmI_k _ _ (by omega), fmI_k _ _ (by omega), fmI_k _ _ (by omega), fmI_k _ _ (by omega)]
theorem kp_xI {M M1 : fmM} {a b : Nat} {x : Int32} (h : kpt PXk M M1) (hn : (a = 0 ∧ b ≠ 13) ∨ a = 1 ∨ a = 2) : kpt PXk M (fmI M1 a b x) := fun k j hk => by
  have h9 := kpx_k hk
  rw [fmI_at, if_neg (by omega)]
  exact h k j hk
theorem kp_mI {M M1 : fmM} {a b : Nat} {x : Int32} (h : kpt PMk M M1) (hn : (a = 0 ∧ b ≠ 17 ∧ b ≠ 31 ∧ b ≠ 34) ∨ a = 1 ∨ a = 2 ∨ a = 3) : kpt PMk M (fmI M1 a b x) := fun k j hk => by
  have h9 := kpm_k hk
  rw [fmI_at, if_neg (by omega)]
  exact h k j hk
theorem kp_rf {M : fmM} {w : Int32} {r : Nat} : kpt PMk M (rfM M w r) := kp_mI (kp_mI (kp_mI (kpt.refl M) (by decide)) (by decide)) (by omega)
theorem kp_st {M M1 : fmM} {tx : tX} {n : Nat} (h : stOk (fmI M 0 0 0) M1 tx n) : kpt PMk M M1 := fun k j hk => by
  have h9 := kpm_k hk
  by_cases e : k = 0
  · subst e
    exact st_j h (by omega)
  · exact st_k h e
theorem kp_sr {b : Nat} {M M' : fmM} (h : srFr b M M') : kpt PMk M M' := fun k j hk => by
  have h9 := kpm_k hk
  by_cases e : k = 0
  · subst e
    exact h.2.1 j (by omega) (by omega) (by omega) (by omega) (by omega)
  · exact h.1 k j e (by omega)
theorem kp_law {M M' : fmM} (h : lawFr M M') : kpt ([(4, 4), (35, 42), (67, 90), (411, 416)], [(0, 31), (0, 34)]) M M' := fun k j hk => by
  simp only [kpIn, List.any_cons, List.any_nil, Bool.or_eq_true, Bool.and_eq_true, Nat.ble_eq, Nat.beq_eq, Bool.false_eq_true, or_false] at hk
  by_cases e : k = 0
  · subst e
    exact h.2.1 j (by omega) (by omega) (by omega)
  · exact h.1 k j e (by omega)
theorem kp_pg {M M' : fmM} (h : pgFr M M') : kpt ([(4, 4), (35, 42), (67, 90), (91, 250)], [(0, 17), (0, 34)]) M M' := fun k j hk => by
  simp only [kpIn, List.any_cons, List.any_nil, Bool.or_eq_true, Bool.and_eq_true, Nat.ble_eq, Nat.beq_eq, Bool.false_eq_true, or_false] at hk
  by_cases e : k = 0
  · subst e
    exact h.2.1 j (by omega) (by omega) (by omega) (by omega) (by omega)
  · exact h.1 k j e (by omega)
/-- how a text's call ends, on each side -/
def ouO {α : Type} (P : Prop) (nn : Int32) (S : Nat → (Nat × Nat) ⊕ α) (new : α → Prop) (kept : Prop) : Prop := (¬ P ∧ kept) ∨ (P ∧ ∃ (n : Nat) (x : α), nn.toInt = (n : Int) ∧ S n = .inr x ∧ new x) ∨ (P ∧ ∃ (n k a : Nat), nn.toInt = (n : Int) ∧ S n = .inl (k, a) ∧ kept)
theorem ouO_glue {α : Type} {P : Prop} {nn : Int32} {S : Nat → (Nat × Nat) ⊕ α} {n1 n2 : α → Prop} {k1 k2 R : Prop} (h : ouO P nn S n1 k1) (h2 : ouO P nn S n2 k2) (hk : k1 → k2 → R) (hn : ∀ x, n1 x → n2 x → R) : R := by
  rcases h with ⟨p, k⟩ | ⟨p, n, D, e, s, w⟩ | ⟨p, n, k, a, e, s, w⟩ <;> rcases h2 with ⟨p2, k2⟩ | ⟨p2, n2, D2, e2, s2, w2⟩ | ⟨p2, n2, k2, a2, e2, s2, w2⟩
  · exact hk k k2
  · exact absurd p2 p
  · exact absurd p2 p
  · exact absurd p p2
  · have en : n2 = n := by omega
    subst en
    rw [s] at s2
    cases s2
    exact hn _ w w2
  · have en : n2 = n := by omega
    subst en
    rw [s] at s2
    cases s2
  · exact absurd p p2
  · have en : n2 = n := by omega
    subst en
    rw [s] at s2
    cases s2
  · exact hk w w2
def bI (t : Bool) : Int32 := if t then 1 else 0
theorem bI_0 {t : Bool} : bI t = 0 ↔ t = false := by cases t <;> decide
theorem bI_e {t u : Bool} : bI t = bI u ↔ t = u := by cases t <;> cases u <;> decide
theorem kp_cl {M M' : fmM} (h : clFr M M') : kpt PMk M M' := fun k j hk => by
  have h9 := kpm_k hk
  by_cases e : k = 0
  · subst e
    exact h.2.1 j (by omega) (by omega) (by omega) (by omega)
  · exact h.1 k j e (by omega) (by omega) (by omega)
end
-- P 18l
section
-- THE CLASS READS A DRAWER
/-- what a drawer says stands in the cells from b on -/
def xdw (b : Nat) (M : fmM) (D : dD) : Prop := ((M.1 b 9).toInt = (D.1 : Int) ∧ (M.1 b 10).toInt = (D.2.2.1 : Int) ∧ (M.1 b 11).toInt = D.2.2.2.2 2 ∧ (M.1 b 12).toInt = D.2.2.2.2 3 ∧ (M.1 b 13).toInt = D.2.2.2.2 4 ∧ (M.1 b 14).toInt = D.2.2.2.2 5) ∧ (∀ i, i < D.1 → ∀ j, j < 6 → (M.1 (b + 1 + j) i).toInt = D.2.1 i j) ∧ ∀ i, i < D.2.2.1 → ∀ j, j < 3 → (M.1 (b + 7 + j) i).toInt = D.2.2.2.1 i j
def dfFr (M M' : fmM) : Prop := (∀ k j, k ≠ 1 → ¬ (13 ≤ k ∧ k < 23) → M'.1 k j = M.1 k j ∧ M'.2 k j = M.2 k j) ∧ (∀ j, j ≠ 3 → j ≠ 4 → j ≠ 5 → M'.1 1 j = M.1 1 j)
def tok (M M' : fmM) (tx : tX) (n q : Nat) (D : dD) : Prop := xS2 M' tx n q ∧ M'.1 1 4 = 0 ∧ scInv Tx invX M' ∧ xdw 13 M' D ∧ dfFr M M'
def tbad (M M' : fmM) (k a : Nat) : Prop := (M'.1 1 4).toInt = k ∧ (M'.1 1 5).toInt = a ∧ k ≠ 0 ∧ dfFr M M' ∧ scInv Tx invX M'
theorem dfFr.refl (M : fmM) : dfFr M M := ⟨fun _ _ _ _ => ⟨rfl, rfl⟩, fun _ _ _ _ => rfl⟩
theorem dfFr.trans {M M1 M2 : fmM} (h : dfFr M M1) (h' : dfFr M1 M2) : dfFr M M2 := ⟨fun k j a b => ⟨(h'.1 k j a b).1.trans (h.1 k j a b).1, (h'.1 k j a b).2.trans (h.1 k j a b).2⟩, fun j a b c => (h'.2 j a b c).trans (h.2 j a b c)⟩
theorem xdFr.df {M M' : fmM} (h : xdFr M M') : dfFr M M' := ⟨fun k j a _ => h.1 k j a, h.2⟩
theorem dfFr.put {M M1 : fmM} {k j : Nat} {x : Int32} (h : dfFr M M1) (hk : 13 ≤ k ∧ k < 23) : dfFr M (fmI M1 k j x) := by
  refine ⟨fun k' j' a b => ⟨?_, (h.1 k' j' a b).2⟩, fun j' a b c => ?_⟩
  · rw [fmI_k _ _ (by intro h9; exact b (h9 ▸ hk))]
    exact (h.1 k' j' a b).1
  · rw [fmI_k _ _ (by omega)]
    exact h.2 j' a b c
theorem xdBad.tb {M M' : fmM} {k a : Nat} (h : xdBad M M' k a) : tbad M M' k a := ⟨h.1, h.2.1, h.2.2.1, h.2.2.2.1.df, h.2.2.2.2⟩
theorem tbad.fr {M0 M M' : fmM} {k a : Nat} (h : tbad M M' k a) (hF : dfFr M0 M) : tbad M0 M' k a := ⟨h.1, h.2.1, h.2.2.1, hF.trans h.2.2.2.1, h.2.2.2.2⟩
theorem tbad.nz {M M' : fmM} {k a : Nat} (h : tbad M M' k a) : ¬ M'.1 1 4 = 0 := by
  intro h9
  have h1 := h.1
  have h2 := h.2.2.1
  rw [h9] at h1
  have h3 : (0 : Int32).toInt = 0 := by decide
  omega
theorem tok.fr {M0 M M' : fmM} {tx : tX} {n q : Nat} {D : dD} (h : tok M M' tx n q D) (hF : dfFr M0 M) : tok M0 M' tx n q D := ⟨h.1, h.2.1, h.2.2.1, h.2.2.2.1, hF.trans h.2.2.2.2⟩
theorem xdw.of {b : Nat} {M M' : fmM} {D : dD} (h : xdw b M D) (he : ∀ k j, b ≤ k → k < b + 10 → M'.1 k j = M.1 k j) : xdw b M' D := by
  obtain ⟨⟨h1, h2, h3, h4, h5, h6⟩, h7, h8⟩ := h
  refine ⟨⟨?_, ?_, ?_, ?_, ?_, ?_⟩, fun i hi j hj => ?_, fun i hi j hj => ?_⟩
  · rw [he _ _ (by omega) (by omega)]; exact h1
  · rw [he _ _ (by omega) (by omega)]; exact h2
  · rw [he _ _ (by omega) (by omega)]; exact h3
  · rw [he _ _ (by omega) (by omega)]; exact h4
  · rw [he _ _ (by omega) (by omega)]; exact h5
  · rw [he _ _ (by omega) (by omega)]; exact h6
  · rw [he _ _ (by omega) (by omega)]; exact h7 i hi j hj
  · rw [he _ _ (by omega) (by omega)]; exact h8 i hi j hj
theorem xdw.xd {M M' : fmM} {D : dD} (h : xdw 13 M D) (hF : xdFr M M') : xdw 13 M' D := h.of (fun k j a _ => (hF.1 k j (by omega)).1)
def clLife (tx : tX) (D : dD) (q : Nat) : tR dD := spBind (spNum tx 0 110 q) fun a q => spBind (spNum tx 0 64 q) fun b q => spBind (spNum tx 1 99 q) fun c q => spBind (spNum tx 1 9 q) fun d q => .inr ((D.1 + 1, dRow D.2.1 D.1 [a, b, c, d, -1, -1], D.2.2), q)
def clFact (tx : tX) (D : dD) (q : Nat) : tR dD := spBind (spNum tx 0 ((D.1 : Int) - 1) q) fun a q => spBind (spNum tx 0 5 q) fun b q => spBind (spNum tx 1 60 q) fun c q => .inr ((D.1, D.2.1, D.2.2.1 + 1, dRow D.2.2.2.1 D.2.2.1 [a, b, c], D.2.2.2.2), q)
def clHas (tx : tX) (D : dD) (q : Nat) : tR dD := spBind (spNum tx 0 ((D.1 : Int) - 1) q) fun a q => spBind (spNum tx 0 40 q) fun b q => .inr ((D.1, dSet D.2.1 a 4 b, D.2.2), q)
def clBy (tx : tX) (D : dD) (q : Nat) : tR dD := spBind (spNum tx 0 ((D.1 : Int) - 1) q) fun a q => spBind (spNum tx 0 ((D.1 : Int) - 1) q) fun b q2 => if a = b then .inl (2, sk tx q) else .inr ((D.1, dSet D.2.1 a 5 b, D.2.2), q2)
def clRule (tx : tX) (D : dD) (k q : Nat) : tR dD := spBind (spNum tx (dLo k) (dHi k) q) fun v q => .inr ((D.1, D.2.1, D.2.2.1, D.2.2.2.1, fun k' => if k' = k then (v : Int) else D.2.2.2.2 k'), q)
def clB (tx : tX) (D : dD) (k q : Nat) : tR dD := match k with
  | 0 => clLife tx D q
  | 1 => clFact tx D q
  | 6 => clHas tx D q
  | 7 => clBy tx D q
  | k => clRule tx D k q
def cBody (tx : tX) (c : Nat) (D : dD) (p : Nat) : tR dD := match dwK (wd tx (sk tx p)) with
  | none => .inl (1, sk tx p)
  | some k => if c = 60 ∨ (k = 0 ∧ D.1 = 8) ∨ (k = 1 ∧ D.2.2.1 = 24) then .inl (3, sk tx p) else clB tx D k (sp tW tx (sk tx p))
def sgB (tx : tX) (D : dD) (q : Nat) : tR dD := spBind (spSign tx 59 q) fun _ q => .inr (D, q)
theorem spBind_a {α β γ : Type} (r : tR α) (f : α → Nat → tR β) (g : β → Nat → tR γ) : spBind (spBind r f) g = spBind r (fun a q => spBind (f a q) g) := by
  rcases r with e | ⟨v, q⟩ <;> rfl
theorem B_life (tx : tX) (D : dD) (q : Nat) : spLife tx D q = spBind (clLife tx D q) (sgB tx) := by
  unfold spLife clLife
  simp only [spBind_a]
  rfl
theorem B_fact (tx : tX) (D : dD) (q : Nat) : spFact tx D q = spBind (clFact tx D q) (sgB tx) := by
  unfold spFact clFact
  simp only [spBind_a]
  rfl
theorem B_has (tx : tX) (D : dD) (q : Nat) : spHas tx D q = spBind (clHas tx D q) (sgB tx) := by
  unfold spHas clHas
  simp only [spBind_a]
  rfl
theorem B_rule (tx : tX) (D : dD) (k q : Nat) : spRule tx D k q = spBind (clRule tx D k q) (sgB tx) := by
  unfold spRule clRule
  simp only [spBind_a]
  rfl
theorem B_by (tx : tX) (D : dD) (q : Nat) : spBy tx D q = spBind (clBy tx D q) (sgB tx) := by
  unfold spBy clBy
  simp only [spBind_a]
  congr 1
  funext a q
  congr 1
  funext b q2
  split <;> rfl
theorem spClause_B (tx : tX) (c : Nat) (D : dD) (p : Nat) : spClause tx c D p = spBind (cBody tx c D p) (sgB tx) := by
  unfold spClause cBody
  cases hk : dwK (wd tx (sk tx p)) with
  | none => rfl
  | some k =>
    by_cases hf : c = 60 ∨ (k = 0 ∧ D.1 = 8) ∨ (k = 1 ∧ D.2.2.1 = 24)
    · simp only [if_pos hf]
      rfl
    · simp only [if_neg hf]
      clear hk hf
      rcases k with _ | _ | _ | _ | _ | _ | _ | _ | k
      · exact B_life tx D _
      · exact B_fact tx D _
      · exact B_rule tx D 2 _
      · exact B_rule tx D 3 _
      · exact B_rule tx D 4 _
      · exact B_rule tx D 5 _
      · exact B_has tx D _
      · exact B_by tx D _
      · exact B_rule tx D (k + 8) _
theorem cBody_sk {tx : tX} {n c p : Nat} {D : dD} (ht : tOk tx n) (hp : p ≤ n) : cBody tx c D (sk tx p) = cBody tx c D p := by
  unfold cBody
  rw [sk_sk ht hp]
def kkF (j : Nat) : Nat := [0, 6, 7, 1, 2, 3, 4, 5].getD j 9
theorem dwK_of {u : List Int} {j : Nat} (h : wdI wsTold u 0 = some j) : dwK u = some (kkF j) ∧ j < 8 := by
  by_cases e0 : u = [108, 105, 102, 101]
  · subst e0
    have e9 : wdI wsTold [108, 105, 102, 101] 0 = some 0 := by decide
    rw [e9] at h
    cases h
    exact ⟨by decide, by decide⟩
  by_cases e1 : u = [104, 97, 115]
  · subst e1
    have e9 : wdI wsTold [104, 97, 115] 0 = some 1 := by decide
    rw [e9] at h
    cases h
    exact ⟨by decide, by decide⟩
  by_cases e2 : u = [98, 121]
  · subst e2
    have e9 : wdI wsTold [98, 121] 0 = some 2 := by decide
    rw [e9] at h
    cases h
    exact ⟨by decide, by decide⟩
  by_cases e3 : u = [102, 97, 99, 116]
  · subst e3
    have e9 : wdI wsTold [102, 97, 99, 116] 0 = some 3 := by decide
    rw [e9] at h
    cases h
    exact ⟨by decide, by decide⟩
  by_cases e4 : u = [104, 111, 117, 114, 115]
  · subst e4
    have e9 : wdI wsTold [104, 111, 117, 114, 115] 0 = some 4 := by decide
    rw [e9] at h
    cases h
    exact ⟨by decide, by decide⟩
  by_cases e5 : u = [108, 97, 99, 107]
  · subst e5
    have e9 : wdI wsTold [108, 97, 99, 107] 0 = some 5 := by decide
    rw [e9] at h
    cases h
    exact ⟨by decide, by decide⟩
  by_cases e6 : u = [119, 114, 111, 110, 103]
  · subst e6
    have e9 : wdI wsTold [119, 114, 111, 110, 103] 0 = some 6 := by decide
    rw [e9] at h
    cases h
    exact ⟨by decide, by decide⟩
  by_cases e7 : u = [104, 97, 108, 102]
  · subst e7
    have e9 : wdI wsTold [104, 97, 108, 102] 0 = some 7 := by decide
    rw [e9] at h
    cases h
    exact ⟨by decide, by decide⟩
  have e9 : wdI wsTold u 0 = none := by simp only [wdI, wsTold, e0, e1, e2, e3, e4, e5, e6, e7, if_false]
  rw [e9] at h
  cases h
theorem dwK_no {u : List Int} (h : wdI wsTold u 0 = none) : dwK u = none := by
  by_cases e0 : u = [108, 105, 102, 101]
  · subst e0
    have e9 : wdI wsTold [108, 105, 102, 101] 0 = some 0 := by decide
    rw [e9] at h
    cases h
  by_cases e1 : u = [104, 97, 115]
  · subst e1
    have e9 : wdI wsTold [104, 97, 115] 0 = some 1 := by decide
    rw [e9] at h
    cases h
  by_cases e2 : u = [98, 121]
  · subst e2
    have e9 : wdI wsTold [98, 121] 0 = some 2 := by decide
    rw [e9] at h
    cases h
  by_cases e3 : u = [102, 97, 99, 116]
  · subst e3
    have e9 : wdI wsTold [102, 97, 99, 116] 0 = some 3 := by decide
    rw [e9] at h
    cases h
  by_cases e4 : u = [104, 111, 117, 114, 115]
  · subst e4
    have e9 : wdI wsTold [104, 111, 117, 114, 115] 0 = some 4 := by decide
    rw [e9] at h
    cases h
  by_cases e5 : u = [108, 97, 99, 107]
  · subst e5
    have e9 : wdI wsTold [108, 97, 99, 107] 0 = some 5 := by decide
    rw [e9] at h
    cases h
  by_cases e6 : u = [119, 114, 111, 110, 103]
  · subst e6
    have e9 : wdI wsTold [119, 114, 111, 110, 103] 0 = some 6 := by decide
    rw [e9] at h
    cases h
  by_cases e7 : u = [104, 97, 108, 102]
  · subst e7
    have e9 : wdI wsTold [104, 97, 108, 102] 0 = some 7 := by decide
    rw [e9] at h
    cases h
  simp only [dwK, e0, e1, e2, e3, e4, e5, e6, e7, if_false]
abbrev cc_X7_takeNumber_22 : scC := (qX7_takeNumber, 2, [(0, 0), (110, 110), (1, 3)], [.inr (.inr (.inl [1])), .inl (some 0, 0), .inl (some 1, 0)], [((1, 4), (some 2, 0))], [(1, (0, 110), [], [], [((1, 4), (1, 3))]), (1, ((-1), (-1)), [], [], [((1, 4), (1, 3))])], [(1, 3, 1)])
set_option maxRecDepth 20000 in
abbrev xx_X7_takeNumber_22 : scX := (Tx, invX, lnX7, [(35, 0, 7, cc_X7_fail_3), (39, 0, 7, cc_X7_nextPlace_0)], cc_X7_takeNumber_22)
set_option maxRecDepth 20000 in
theorem hh_X7_takeNumber_22 : scH Tx invX cc_X7_takeNumber_22 := scCheck_ok (X := xx_X7_takeNumber_22) (nodes := [(8, ([(0, 0), (110, 110), (0, 600), ((-2147483648), 1000000), (1, 3), (0, 600), (0, 600)], [some (.inr (.inr (.inl [1]))), some (.inl (some 0, 0)), some (.inl (some 1, 0)), some (.inl (some 2, 0)), some (.inl (some 3, 0))], [], [((1, 4), (some 4, 0)), ((1, 3), (some 5, 0)), ((1, 2), (some 6, 0))]), ([0, 0, 0, 0, 0, (-2)], 1200))]) (fuel := 4000) ⟨lqX7, fa_cons (⟨⟨2, _, pcv_X7_35, rfl⟩, hh_X7_fail_3⟩) (fa_cons (⟨⟨0, _, pcv_X7_39, rfl⟩, hh_X7_nextPlace_0⟩) (fa_nil))⟩ dtX7_takeNumber (by decide +kernel)
theorem s_numF110 {M : fmM} {Q : fmR → fmM → Prop} {x1 : Int32} (bx1 : 0 ≤ x1.toInt ∧ x1.toInt ≤ 0) {x2 : Int32} (bx2 : 110 ≤ x2.toInt ∧ x2.toInt ≤ 110) (f1_4 : 1 ≤ (M.1 1 4).toInt ∧ (M.1 1 4).toInt ≤ 3) (hI : scInv Tx invX M) (q0 : ∀ (n : Int32) (M' : fmM), (0 ≤ n.toInt ∧ n.toInt ≤ 110) → (1 ≤ (M'.1 1 4).toInt ∧ (M'.1 1 4).toInt ≤ 3) → scInv Tx invX M' → scFr [(1, 3, 1)] M M' → Q (.inl (some (.int n))) M') (q1 : ∀ (n : Int32) (M' : fmM), ((-1) ≤ n.toInt ∧ n.toInt ≤ (-1)) → (1 ≤ (M'.1 1 4).toInt ∧ (M'.1 1 4).toInt ≤ 3) → scInv Tx invX M' → scFr [(1, 3, 1)] M M' → Q (.inl (some (.int n))) M') : pvGood Tx 2 qX7_takeNumber [.ref 1, .int x1, .int x2] M Q := (hh_X7_takeNumber_22 M [x1.toInt, x2.toInt, (M.1 1 4).toInt] [.ref 1, .int x1, .int x2] (scEk.c1 bx1 (scEk.c1 bx2 (scEk.c1 f1_4 scEk.n0))) ⟨⟨1, by simp, rfl⟩, ⟨x1, rfl, scEv.at rfl⟩, ⟨x2, rfl, scEv.at rfl⟩, trivial⟩ (fun f hf => by rw [List.mem_singleton.mp hf]; exact scEv.at rfl) hI).imp (fun r M' h => by
  obtain ⟨⟨o, ho, hr, hf9, hm⟩, h1, h2⟩ := h
  rcases List.mem_cons.mp ho with rfl | ho
  · obtain ⟨n, rfl, c1, c2⟩ := hr; exact q0 n M' ⟨c1, c2⟩ (have h9 := hm _ List.mem_cons_self; h9) h1 h2
  rcases List.mem_cons.mp ho with rfl | ho
  · obtain ⟨n, rfl, c1, c2⟩ := hr; exact q1 n M' ⟨c1, c2⟩ (have h9 := hm _ List.mem_cons_self; h9) h1 h2
  · cases ho)
theorem s_numF64 {M : fmM} {Q : fmR → fmM → Prop} {x1 : Int32} (bx1 : 0 ≤ x1.toInt ∧ x1.toInt ≤ 0) {x2 : Int32} (bx2 : 64 ≤ x2.toInt ∧ x2.toInt ≤ 64) (f1_4 : 1 ≤ (M.1 1 4).toInt ∧ (M.1 1 4).toInt ≤ 3) (hI : scInv Tx invX M) (q0 : ∀ (n : Int32) (M' : fmM), (0 ≤ n.toInt ∧ n.toInt ≤ 64) → (1 ≤ (M'.1 1 4).toInt ∧ (M'.1 1 4).toInt ≤ 3) → scInv Tx invX M' → scFr [(1, 3, 1)] M M' → Q (.inl (some (.int n))) M') (q1 : ∀ (n : Int32) (M' : fmM), ((-1) ≤ n.toInt ∧ n.toInt ≤ (-1)) → (1 ≤ (M'.1 1 4).toInt ∧ (M'.1 1 4).toInt ≤ 3) → scInv Tx invX M' → scFr [(1, 3, 1)] M M' → Q (.inl (some (.int n))) M') : pvGood Tx 2 qX7_takeNumber [.ref 1, .int x1, .int x2] M Q := (hh_X7_takeNumber_1 M [x1.toInt, x2.toInt, (M.1 1 4).toInt] [.ref 1, .int x1, .int x2] (scEk.c1 bx1 (scEk.c1 bx2 (scEk.c1 f1_4 scEk.n0))) ⟨⟨1, by simp, rfl⟩, ⟨x1, rfl, scEv.at rfl⟩, ⟨x2, rfl, scEv.at rfl⟩, trivial⟩ (fun f hf => by rw [List.mem_singleton.mp hf]; exact scEv.at rfl) hI).imp (fun r M' h => by
  obtain ⟨⟨o, ho, hr, hf9, hm⟩, h1, h2⟩ := h
  rcases List.mem_cons.mp ho with rfl | ho
  · obtain ⟨n, rfl, c1, c2⟩ := hr; exact q0 n M' ⟨c1, c2⟩ (have h9 := hm _ List.mem_cons_self; h9) h1 h2
  rcases List.mem_cons.mp ho with rfl | ho
  · obtain ⟨n, rfl, c1, c2⟩ := hr; exact q1 n M' ⟨c1, c2⟩ (have h9 := hm _ List.mem_cons_self; h9) h1 h2
  · cases ho)
theorem s_numF99 {M : fmM} {Q : fmR → fmM → Prop} {x1 : Int32} (bx1 : 1 ≤ x1.toInt ∧ x1.toInt ≤ 1) {x2 : Int32} (bx2 : 99 ≤ x2.toInt ∧ x2.toInt ≤ 99) (f1_4 : 1 ≤ (M.1 1 4).toInt ∧ (M.1 1 4).toInt ≤ 3) (hI : scInv Tx invX M) (q0 : ∀ (n : Int32) (M' : fmM), (1 ≤ n.toInt ∧ n.toInt ≤ 99) → (1 ≤ (M'.1 1 4).toInt ∧ (M'.1 1 4).toInt ≤ 3) → scInv Tx invX M' → scFr [(1, 3, 1)] M M' → Q (.inl (some (.int n))) M') (q1 : ∀ (n : Int32) (M' : fmM), ((-1) ≤ n.toInt ∧ n.toInt ≤ (-1)) → (1 ≤ (M'.1 1 4).toInt ∧ (M'.1 1 4).toInt ≤ 3) → scInv Tx invX M' → scFr [(1, 3, 1)] M M' → Q (.inl (some (.int n))) M') : pvGood Tx 2 qX7_takeNumber [.ref 1, .int x1, .int x2] M Q := (hh_X7_takeNumber_2 M [x1.toInt, x2.toInt, (M.1 1 4).toInt] [.ref 1, .int x1, .int x2] (scEk.c1 bx1 (scEk.c1 bx2 (scEk.c1 f1_4 scEk.n0))) ⟨⟨1, by simp, rfl⟩, ⟨x1, rfl, scEv.at rfl⟩, ⟨x2, rfl, scEv.at rfl⟩, trivial⟩ (fun f hf => by rw [List.mem_singleton.mp hf]; exact scEv.at rfl) hI).imp (fun r M' h => by
  obtain ⟨⟨o, ho, hr, hf9, hm⟩, h1, h2⟩ := h
  rcases List.mem_cons.mp ho with rfl | ho
  · obtain ⟨n, rfl, c1, c2⟩ := hr; exact q0 n M' ⟨c1, c2⟩ (have h9 := hm _ List.mem_cons_self; h9) h1 h2
  rcases List.mem_cons.mp ho with rfl | ho
  · obtain ⟨n, rfl, c1, c2⟩ := hr; exact q1 n M' ⟨c1, c2⟩ (have h9 := hm _ List.mem_cons_self; h9) h1 h2
  · cases ho)
theorem s_numF9 {M : fmM} {Q : fmR → fmM → Prop} {x1 : Int32} (bx1 : 1 ≤ x1.toInt ∧ x1.toInt ≤ 1) {x2 : Int32} (bx2 : 9 ≤ x2.toInt ∧ x2.toInt ≤ 9) (f1_4 : 1 ≤ (M.1 1 4).toInt ∧ (M.1 1 4).toInt ≤ 3) (hI : scInv Tx invX M) (q0 : ∀ (n : Int32) (M' : fmM), (1 ≤ n.toInt ∧ n.toInt ≤ 9) → (1 ≤ (M'.1 1 4).toInt ∧ (M'.1 1 4).toInt ≤ 3) → scInv Tx invX M' → scFr [(1, 3, 1)] M M' → Q (.inl (some (.int n))) M') (q1 : ∀ (n : Int32) (M' : fmM), ((-1) ≤ n.toInt ∧ n.toInt ≤ (-1)) → (1 ≤ (M'.1 1 4).toInt ∧ (M'.1 1 4).toInt ≤ 3) → scInv Tx invX M' → scFr [(1, 3, 1)] M M' → Q (.inl (some (.int n))) M') : pvGood Tx 2 qX7_takeNumber [.ref 1, .int x1, .int x2] M Q := (hh_X7_takeNumber_3 M [x1.toInt, x2.toInt, (M.1 1 4).toInt] [.ref 1, .int x1, .int x2] (scEk.c1 bx1 (scEk.c1 bx2 (scEk.c1 f1_4 scEk.n0))) ⟨⟨1, by simp, rfl⟩, ⟨x1, rfl, scEv.at rfl⟩, ⟨x2, rfl, scEv.at rfl⟩, trivial⟩ (fun f hf => by rw [List.mem_singleton.mp hf]; exact scEv.at rfl) hI).imp (fun r M' h => by
  obtain ⟨⟨o, ho, hr, hf9, hm⟩, h1, h2⟩ := h
  rcases List.mem_cons.mp ho with rfl | ho
  · obtain ⟨n, rfl, c1, c2⟩ := hr; exact q0 n M' ⟨c1, c2⟩ (have h9 := hm _ List.mem_cons_self; h9) h1 h2
  rcases List.mem_cons.mp ho with rfl | ho
  · obtain ⟨n, rfl, c1, c2⟩ := hr; exact q1 n M' ⟨c1, c2⟩ (have h9 := hm _ List.mem_cons_self; h9) h1 h2
  · cases ho)
theorem s_numF7 {M : fmM} {Q : fmR → fmM → Prop} {x1 : Int32} (bx1 : 0 ≤ x1.toInt ∧ x1.toInt ≤ 0) {x2 : Int32} (bx2 : (-1) ≤ x2.toInt ∧ x2.toInt ≤ 7) (f1_4 : 1 ≤ (M.1 1 4).toInt ∧ (M.1 1 4).toInt ≤ 3) (hI : scInv Tx invX M) (q0 : ∀ (n : Int32) (M' : fmM), (0 ≤ n.toInt ∧ n.toInt ≤ 7) → (1 ≤ (M'.1 1 4).toInt ∧ (M'.1 1 4).toInt ≤ 3) → scInv Tx invX M' → scFr [(1, 3, 1)] M M' → Q (.inl (some (.int n))) M') (q1 : ∀ (n : Int32) (M' : fmM), ((-1) ≤ n.toInt ∧ n.toInt ≤ (-1)) → (1 ≤ (M'.1 1 4).toInt ∧ (M'.1 1 4).toInt ≤ 3) → scInv Tx invX M' → scFr [(1, 3, 1)] M M' → Q (.inl (some (.int n))) M') : pvGood Tx 2 qX7_takeNumber [.ref 1, .int x1, .int x2] M Q := (hh_X7_takeNumber_12 M [x1.toInt, x2.toInt, (M.1 1 4).toInt] [.ref 1, .int x1, .int x2] (scEk.c1 bx1 (scEk.c1 bx2 (scEk.c1 f1_4 scEk.n0))) ⟨⟨1, by simp, rfl⟩, ⟨x1, rfl, scEv.at rfl⟩, ⟨x2, rfl, scEv.at rfl⟩, trivial⟩ (fun f hf => by rw [List.mem_singleton.mp hf]; exact scEv.at rfl) hI).imp (fun r M' h => by
  obtain ⟨⟨o, ho, hr, hf9, hm⟩, h1, h2⟩ := h
  rcases List.mem_cons.mp ho with rfl | ho
  · obtain ⟨n, rfl, c1, c2⟩ := hr; exact q0 n M' ⟨c1, c2⟩ (have h9 := hm _ List.mem_cons_self; h9) h1 h2
  rcases List.mem_cons.mp ho with rfl | ho
  · obtain ⟨n, rfl, c1, c2⟩ := hr; exact q1 n M' ⟨c1, c2⟩ (have h9 := hm _ List.mem_cons_self; h9) h1 h2
  · cases ho)
theorem s_numF40 {M : fmM} {Q : fmR → fmM → Prop} {x1 : Int32} (bx1 : 0 ≤ x1.toInt ∧ x1.toInt ≤ 0) {x2 : Int32} (bx2 : 40 ≤ x2.toInt ∧ x2.toInt ≤ 40) (f1_4 : 1 ≤ (M.1 1 4).toInt ∧ (M.1 1 4).toInt ≤ 3) (hI : scInv Tx invX M) (q0 : ∀ (n : Int32) (M' : fmM), (0 ≤ n.toInt ∧ n.toInt ≤ 40) → (1 ≤ (M'.1 1 4).toInt ∧ (M'.1 1 4).toInt ≤ 3) → scInv Tx invX M' → scFr [(1, 3, 1)] M M' → Q (.inl (some (.int n))) M') (q1 : ∀ (n : Int32) (M' : fmM), ((-1) ≤ n.toInt ∧ n.toInt ≤ (-1)) → (1 ≤ (M'.1 1 4).toInt ∧ (M'.1 1 4).toInt ≤ 3) → scInv Tx invX M' → scFr [(1, 3, 1)] M M' → Q (.inl (some (.int n))) M') : pvGood Tx 2 qX7_takeNumber [.ref 1, .int x1, .int x2] M Q := (hh_X7_takeNumber_13 M [x1.toInt, x2.toInt, (M.1 1 4).toInt] [.ref 1, .int x1, .int x2] (scEk.c1 bx1 (scEk.c1 bx2 (scEk.c1 f1_4 scEk.n0))) ⟨⟨1, by simp, rfl⟩, ⟨x1, rfl, scEv.at rfl⟩, ⟨x2, rfl, scEv.at rfl⟩, trivial⟩ (fun f hf => by rw [List.mem_singleton.mp hf]; exact scEv.at rfl) hI).imp (fun r M' h => by
  obtain ⟨⟨o, ho, hr, hf9, hm⟩, h1, h2⟩ := h
  rcases List.mem_cons.mp ho with rfl | ho
  · obtain ⟨n, rfl, c1, c2⟩ := hr; exact q0 n M' ⟨c1, c2⟩ (have h9 := hm _ List.mem_cons_self; h9) h1 h2
  rcases List.mem_cons.mp ho with rfl | ho
  · obtain ⟨n, rfl, c1, c2⟩ := hr; exact q1 n M' ⟨c1, c2⟩ (have h9 := hm _ List.mem_cons_self; h9) h1 h2
  · cases ho)
theorem s_numF5 {M : fmM} {Q : fmR → fmM → Prop} {x1 : Int32} (bx1 : 0 ≤ x1.toInt ∧ x1.toInt ≤ 0) {x2 : Int32} (bx2 : 5 ≤ x2.toInt ∧ x2.toInt ≤ 5) (f1_4 : 1 ≤ (M.1 1 4).toInt ∧ (M.1 1 4).toInt ≤ 3) (hI : scInv Tx invX M) (q0 : ∀ (n : Int32) (M' : fmM), (0 ≤ n.toInt ∧ n.toInt ≤ 5) → (1 ≤ (M'.1 1 4).toInt ∧ (M'.1 1 4).toInt ≤ 3) → scInv Tx invX M' → scFr [(1, 3, 1)] M M' → Q (.inl (some (.int n))) M') (q1 : ∀ (n : Int32) (M' : fmM), ((-1) ≤ n.toInt ∧ n.toInt ≤ (-1)) → (1 ≤ (M'.1 1 4).toInt ∧ (M'.1 1 4).toInt ≤ 3) → scInv Tx invX M' → scFr [(1, 3, 1)] M M' → Q (.inl (some (.int n))) M') : pvGood Tx 2 qX7_takeNumber [.ref 1, .int x1, .int x2] M Q := (hh_X7_takeNumber_8 M [x1.toInt, x2.toInt, (M.1 1 4).toInt] [.ref 1, .int x1, .int x2] (scEk.c1 bx1 (scEk.c1 bx2 (scEk.c1 f1_4 scEk.n0))) ⟨⟨1, by simp, rfl⟩, ⟨x1, rfl, scEv.at rfl⟩, ⟨x2, rfl, scEv.at rfl⟩, trivial⟩ (fun f hf => by rw [List.mem_singleton.mp hf]; exact scEv.at rfl) hI).imp (fun r M' h => by
  obtain ⟨⟨o, ho, hr, hf9, hm⟩, h1, h2⟩ := h
  rcases List.mem_cons.mp ho with rfl | ho
  · obtain ⟨n, rfl, c1, c2⟩ := hr; exact q0 n M' ⟨c1, c2⟩ (have h9 := hm _ List.mem_cons_self; h9) h1 h2
  rcases List.mem_cons.mp ho with rfl | ho
  · obtain ⟨n, rfl, c1, c2⟩ := hr; exact q1 n M' ⟨c1, c2⟩ (have h9 := hm _ List.mem_cons_self; h9) h1 h2
  · cases ho)
theorem s_numF60 {M : fmM} {Q : fmR → fmM → Prop} {x1 : Int32} (bx1 : 1 ≤ x1.toInt ∧ x1.toInt ≤ 1) {x2 : Int32} (bx2 : 60 ≤ x2.toInt ∧ x2.toInt ≤ 60) (f1_4 : 1 ≤ (M.1 1 4).toInt ∧ (M.1 1 4).toInt ≤ 3) (hI : scInv Tx invX M) (q0 : ∀ (n : Int32) (M' : fmM), (1 ≤ n.toInt ∧ n.toInt ≤ 60) → (1 ≤ (M'.1 1 4).toInt ∧ (M'.1 1 4).toInt ≤ 3) → scInv Tx invX M' → scFr [(1, 3, 1)] M M' → Q (.inl (some (.int n))) M') (q1 : ∀ (n : Int32) (M' : fmM), ((-1) ≤ n.toInt ∧ n.toInt ≤ (-1)) → (1 ≤ (M'.1 1 4).toInt ∧ (M'.1 1 4).toInt ≤ 3) → scInv Tx invX M' → scFr [(1, 3, 1)] M M' → Q (.inl (some (.int n))) M') : pvGood Tx 2 qX7_takeNumber [.ref 1, .int x1, .int x2] M Q := (hh_X7_takeNumber_9 M [x1.toInt, x2.toInt, (M.1 1 4).toInt] [.ref 1, .int x1, .int x2] (scEk.c1 bx1 (scEk.c1 bx2 (scEk.c1 f1_4 scEk.n0))) ⟨⟨1, by simp, rfl⟩, ⟨x1, rfl, scEv.at rfl⟩, ⟨x2, rfl, scEv.at rfl⟩, trivial⟩ (fun f hf => by rw [List.mem_singleton.mp hf]; exact scEv.at rfl) hI).imp (fun r M' h => by
  obtain ⟨⟨o, ho, hr, hf9, hm⟩, h1, h2⟩ := h
  rcases List.mem_cons.mp ho with rfl | ho
  · obtain ⟨n, rfl, c1, c2⟩ := hr; exact q0 n M' ⟨c1, c2⟩ (have h9 := hm _ List.mem_cons_self; h9) h1 h2
  rcases List.mem_cons.mp ho with rfl | ho
  · obtain ⟨n, rfl, c1, c2⟩ := hr; exact q1 n M' ⟨c1, c2⟩ (have h9 := hm _ List.mem_cons_self; h9) h1 h2
  · cases ho)
set_option maxRecDepth 20000 in
theorem xf_readLife34 {Q : fmR → fmM → Prop} {M0 M : fmM} {k a : Nat} {x2 x3 x4 x5 : Int32} (bb : xdBad M0 M k a) (hI9 : (M.1 13 9).toInt ≤ 8 ∧ 0 ≤ (M.1 13 9).toInt) (hq : ∀ M2 : fmM, xdBad M0 M2 k a → Q (.inl (some (.int 0))) M2) : pvEv Tx 3 qX8_readLife 34 [some (.ref 13), some (.ref 1), some (.int x2), some (.int x3), some (.int x4), some (.int x5)] [] M Q := by
  refine pv_aloadn (pc := 34) (n := 1) 1 rfl rfl (fm_dec dtX8_readLife 20 rfl) ?_
  refine pv_invV0 (k := 1) (d' := 0) (pc := 35) pcv_X8_117 (by decide) rfl (Nat.le_of_ble_eq_true rfl) (by decide) (fm_dec dtX8_readLife 21 rfl) ?_
  refine c_xfailed (fun h9 => absurd h9 bb.nz) (fun _ => ?_) 
  refine pv_then1 ?_
  refine pv_if_ne (pc := 38) 50 (by decide) (fm_dec dtX8_readLife 22 rfl) (fun _ => ?_) (fun hc38 => by exfalso; revert hc38; decide)
  refine pv_iconst (pc := 50) (v := 0) (by decide) (fm_dec dtX8_readLife 27 rfl) ?_
  exact pv_zreturn (pc := 51) rfl (by first | exact Or.inr rfl | exact Or.inl rfl) (fm_dec dtX8_readLife 28 rfl) (hq _ bb)
set_option maxRecDepth 20000 in
theorem xf_readLife25 {Q : fmR → fmM → Prop} {M0 M : fmM} {k a : Nat} {x2 x3 x4 : Int32} {v5 : Option Value} (bb : xdBad M0 M k a) (hI9 : (M.1 13 9).toInt ≤ 8 ∧ 0 ≤ (M.1 13 9).toInt) (hq : ∀ M2 : fmM, xdBad M0 M2 k a → Q (.inl (some (.int 0))) M2) : pvEv Tx 3 qX8_readLife 25 [some (.ref 13), some (.ref 1), some (.int x2), some (.int x3), some (.int x4), v5] [] M Q := by
  refine pv_aloadn (pc := 25) (n := 1) 1 rfl rfl (fm_dec dtX8_readLife 15 rfl) ?_
  refine pv_iconst (pc := 26) (v := 1) (by decide) (fm_dec dtX8_readLife 16 rfl) ?_
  refine pv_bipush (pc := 27) (v := 9) (by decide) (fm_dec dtX8_readLife 17 rfl) ?_
  refine pv_invV2 (k := 1) (d' := 2) (pc := 29) pcv_X8_113 (by decide) rfl (Nat.le_of_ble_eq_true rfl) (by decide) (fm_dec dtX8_readLife 18 rfl) ?_
  refine s_numF9 (by decide) (by decide) bb.f13 bb.2.2.2.2 (fun n29 M29 c29 m29 hI29 f29 => ?_) (fun n29 M29 c29 m29 hI29 f29 => ?_)  
  · refine pv_then1 ?_
    refine pv_istore (pc := 32) (i := 5) (by decide) rfl (fm_dec dtX8_readLife 19 rfl) ?_
    dsimp only [List.set_cons_zero, List.set_cons_succ]
    exact xf_readLife34 (bb.go f29 hI29) (by rw [(f29 13 9 rfl).1]; exact hI9) hq
  · refine pv_then1 ?_
    refine pv_istore (pc := 32) (i := 5) (by decide) rfl (fm_dec dtX8_readLife 19 rfl) ?_
    dsimp only [List.set_cons_zero, List.set_cons_succ]
    exact xf_readLife34 (bb.go f29 hI29) (by rw [(f29 13 9 rfl).1]; exact hI9) hq
set_option maxRecDepth 20000 in
theorem xf_readLife16 {Q : fmR → fmM → Prop} {M0 M : fmM} {k a : Nat} {x2 x3 : Int32} {v4 v5 : Option Value} (bb : xdBad M0 M k a) (hI9 : (M.1 13 9).toInt ≤ 8 ∧ 0 ≤ (M.1 13 9).toInt) (hq : ∀ M2 : fmM, xdBad M0 M2 k a → Q (.inl (some (.int 0))) M2) : pvEv Tx 3 qX8_readLife 16 [some (.ref 13), some (.ref 1), some (.int x2), some (.int x3), v4, v5] [] M Q := by
  refine pv_aloadn (pc := 16) (n := 1) 1 rfl rfl (fm_dec dtX8_readLife 10 rfl) ?_
  refine pv_iconst (pc := 17) (v := 1) (by decide) (fm_dec dtX8_readLife 11 rfl) ?_
  refine pv_bipush (pc := 18) (v := 99) (by decide) (fm_dec dtX8_readLife 12 rfl) ?_
  refine pv_invV2 (k := 1) (d' := 2) (pc := 20) pcv_X8_113 (by decide) rfl (Nat.le_of_ble_eq_true rfl) (by decide) (fm_dec dtX8_readLife 13 rfl) ?_
  refine s_numF99 (by decide) (by decide) bb.f13 bb.2.2.2.2 (fun n20 M20 c20 m20 hI20 f20 => ?_) (fun n20 M20 c20 m20 hI20 f20 => ?_)  
  · refine pv_then1 ?_
    refine pv_istore (pc := 23) (i := 4) (by decide) rfl (fm_dec dtX8_readLife 14 rfl) ?_
    dsimp only [List.set_cons_zero, List.set_cons_succ]
    exact xf_readLife25 (bb.go f20 hI20) (by rw [(f20 13 9 rfl).1]; exact hI9) hq
  · refine pv_then1 ?_
    refine pv_istore (pc := 23) (i := 4) (by decide) rfl (fm_dec dtX8_readLife 14 rfl) ?_
    dsimp only [List.set_cons_zero, List.set_cons_succ]
    exact xf_readLife25 (bb.go f20 hI20) (by rw [(f20 13 9 rfl).1]; exact hI9) hq
set_option maxRecDepth 20000 in
theorem xf_readLife8 {Q : fmR → fmM → Prop} {M0 M : fmM} {k a : Nat} {x2 : Int32} {v3 v4 v5 : Option Value} (bb : xdBad M0 M k a) (hI9 : (M.1 13 9).toInt ≤ 8 ∧ 0 ≤ (M.1 13 9).toInt) (hq : ∀ M2 : fmM, xdBad M0 M2 k a → Q (.inl (some (.int 0))) M2) : pvEv Tx 3 qX8_readLife 8 [some (.ref 13), some (.ref 1), some (.int x2), v3, v4, v5] [] M Q := by
  refine pv_aloadn (pc := 8) (n := 1) 1 rfl rfl (fm_dec dtX8_readLife 5 rfl) ?_
  refine pv_iconst (pc := 9) (v := 0) (by decide) (fm_dec dtX8_readLife 6 rfl) ?_
  refine pv_bipush (pc := 10) (v := 64) (by decide) (fm_dec dtX8_readLife 7 rfl) ?_
  refine pv_invV2 (k := 1) (d' := 2) (pc := 12) pcv_X8_113 (by decide) rfl (Nat.le_of_ble_eq_true rfl) (by decide) (fm_dec dtX8_readLife 8 rfl) ?_
  refine s_numF64 (by decide) (by decide) bb.f13 bb.2.2.2.2 (fun n12 M12 c12 m12 hI12 f12 => ?_) (fun n12 M12 c12 m12 hI12 f12 => ?_)  
  · refine pv_then1 ?_
    refine pv_istoren (pc := 15) (n := 3) 3 rfl (by decide) rfl (fm_dec dtX8_readLife 9 rfl) ?_
    dsimp only [List.set_cons_zero, List.set_cons_succ]
    exact xf_readLife16 (bb.go f12 hI12) (by rw [(f12 13 9 rfl).1]; exact hI9) hq
  · refine pv_then1 ?_
    refine pv_istoren (pc := 15) (n := 3) 3 rfl (by decide) rfl (fm_dec dtX8_readLife 9 rfl) ?_
    dsimp only [List.set_cons_zero, List.set_cons_succ]
    exact xf_readLife16 (bb.go f12 hI12) (by rw [(f12 13 9 rfl).1]; exact hI9) hq
set_option maxRecDepth 20000 in
theorem xf_readHas20 {Q : fmR → fmM → Prop} {M0 M : fmM} {k a : Nat} {x2 x3 : Int32} (bb : xdBad M0 M k a) (hI9 : (M.1 13 9).toInt ≤ 8 ∧ 0 ≤ (M.1 13 9).toInt) (hq : ∀ M2 : fmM, xdBad M0 M2 k a → Q (.inl (some (.int 0))) M2) : pvEv Tx 3 qX8_readHas 20 [some (.ref 13), some (.ref 1), some (.int x2), some (.int x3)] [] M Q := by
  refine pv_aloadn (pc := 20) (n := 1) 1 rfl rfl (fm_dec dtX8_readHas 13 rfl) ?_
  refine pv_invV0 (k := 1) (d' := 0) (pc := 21) pcv_X8_117 (by decide) rfl (Nat.le_of_ble_eq_true rfl) (by decide) (fm_dec dtX8_readHas 14 rfl) ?_
  refine c_xfailed (fun h9 => absurd h9 bb.nz) (fun _ => ?_) 
  refine pv_then1 ?_
  refine pv_if_ne (pc := 24) 31 (by decide) (fm_dec dtX8_readHas 15 rfl) (fun _ => ?_) (fun hc24 => by exfalso; revert hc24; decide)
  refine pv_iconst (pc := 31) (v := 0) (by decide) (fm_dec dtX8_readHas 18 rfl) ?_
  exact pv_zreturn (pc := 32) rfl (by first | exact Or.inr rfl | exact Or.inl rfl) (fm_dec dtX8_readHas 19 rfl) (hq _ bb)
set_option maxRecDepth 20000 in
theorem xf_readHas12 {Q : fmR → fmM → Prop} {M0 M : fmM} {k a : Nat} {x2 : Int32} {v3 : Option Value} (bb : xdBad M0 M k a) (hI9 : (M.1 13 9).toInt ≤ 8 ∧ 0 ≤ (M.1 13 9).toInt) (hq : ∀ M2 : fmM, xdBad M0 M2 k a → Q (.inl (some (.int 0))) M2) : pvEv Tx 3 qX8_readHas 12 [some (.ref 13), some (.ref 1), some (.int x2), v3] [] M Q := by
  refine pv_aloadn (pc := 12) (n := 1) 1 rfl rfl (fm_dec dtX8_readHas 8 rfl) ?_
  refine pv_iconst (pc := 13) (v := 0) (by decide) (fm_dec dtX8_readHas 9 rfl) ?_
  refine pv_bipush (pc := 14) (v := 40) (by decide) (fm_dec dtX8_readHas 10 rfl) ?_
  refine pv_invV2 (k := 1) (d' := 2) (pc := 16) pcv_X8_113 (by decide) rfl (Nat.le_of_ble_eq_true rfl) (by decide) (fm_dec dtX8_readHas 11 rfl) ?_
  refine s_numF40 (by decide) (by decide) bb.f13 bb.2.2.2.2 (fun n16 M16 c16 m16 hI16 f16 => ?_) (fun n16 M16 c16 m16 hI16 f16 => ?_)  
  · refine pv_then1 ?_
    refine pv_istoren (pc := 19) (n := 3) 3 rfl (by decide) rfl (fm_dec dtX8_readHas 12 rfl) ?_
    dsimp only [List.set_cons_zero, List.set_cons_succ]
    exact xf_readHas20 (bb.go f16 hI16) (by rw [(f16 13 9 rfl).1]; exact hI9) hq
  · refine pv_then1 ?_
    refine pv_istoren (pc := 19) (n := 3) 3 rfl (by decide) rfl (fm_dec dtX8_readHas 12 rfl) ?_
    dsimp only [List.set_cons_zero, List.set_cons_succ]
    exact xf_readHas20 (bb.go f16 hI16) (by rw [(f16 13 9 rfl).1]; exact hI9) hq
set_option maxRecDepth 20000 in
theorem xf_readFact28 {Q : fmR → fmM → Prop} {M0 M : fmM} {k a : Nat} {x2 x3 x4 : Int32} (bb : xdBad M0 M k a) (hI9 : (M.1 13 9).toInt ≤ 8 ∧ 0 ≤ (M.1 13 9).toInt) (hq : ∀ M2 : fmM, xdBad M0 M2 k a → Q (.inl (some (.int 0))) M2) : pvEv Tx 3 qX8_readFact 28 [some (.ref 13), some (.ref 1), some (.int x2), some (.int x3), some (.int x4)] [] M Q := by
  refine pv_aloadn (pc := 28) (n := 1) 1 rfl rfl (fm_dec dtX8_readFact 18 rfl) ?_
  refine pv_invV0 (k := 1) (d' := 0) (pc := 29) pcv_X8_117 (by decide) rfl (Nat.le_of_ble_eq_true rfl) (by decide) (fm_dec dtX8_readFact 19 rfl) ?_
  refine c_xfailed (fun h9 => absurd h9 bb.nz) (fun _ => ?_) 
  refine pv_then1 ?_
  refine pv_if_ne (pc := 32) 44 (by decide) (fm_dec dtX8_readFact 20 rfl) (fun _ => ?_) (fun hc32 => by exfalso; revert hc32; decide)
  refine pv_iconst (pc := 44) (v := 0) (by decide) (fm_dec dtX8_readFact 25 rfl) ?_
  exact pv_zreturn (pc := 45) rfl (by first | exact Or.inr rfl | exact Or.inl rfl) (fm_dec dtX8_readFact 26 rfl) (hq _ bb)
set_option maxRecDepth 20000 in
theorem xf_readFact19 {Q : fmR → fmM → Prop} {M0 M : fmM} {k a : Nat} {x2 x3 : Int32} {v4 : Option Value} (bb : xdBad M0 M k a) (hI9 : (M.1 13 9).toInt ≤ 8 ∧ 0 ≤ (M.1 13 9).toInt) (hq : ∀ M2 : fmM, xdBad M0 M2 k a → Q (.inl (some (.int 0))) M2) : pvEv Tx 3 qX8_readFact 19 [some (.ref 13), some (.ref 1), some (.int x2), some (.int x3), v4] [] M Q := by
  refine pv_aloadn (pc := 19) (n := 1) 1 rfl rfl (fm_dec dtX8_readFact 13 rfl) ?_
  refine pv_iconst (pc := 20) (v := 1) (by decide) (fm_dec dtX8_readFact 14 rfl) ?_
  refine pv_bipush (pc := 21) (v := 60) (by decide) (fm_dec dtX8_readFact 15 rfl) ?_
  refine pv_invV2 (k := 1) (d' := 2) (pc := 23) pcv_X8_113 (by decide) rfl (Nat.le_of_ble_eq_true rfl) (by decide) (fm_dec dtX8_readFact 16 rfl) ?_
  refine s_numF60 (by decide) (by decide) bb.f13 bb.2.2.2.2 (fun n23 M23 c23 m23 hI23 f23 => ?_) (fun n23 M23 c23 m23 hI23 f23 => ?_)  
  · refine pv_then1 ?_
    refine pv_istore (pc := 26) (i := 4) (by decide) rfl (fm_dec dtX8_readFact 17 rfl) ?_
    dsimp only [List.set_cons_zero, List.set_cons_succ]
    exact xf_readFact28 (bb.go f23 hI23) (by rw [(f23 13 9 rfl).1]; exact hI9) hq
  · refine pv_then1 ?_
    refine pv_istore (pc := 26) (i := 4) (by decide) rfl (fm_dec dtX8_readFact 17 rfl) ?_
    dsimp only [List.set_cons_zero, List.set_cons_succ]
    exact xf_readFact28 (bb.go f23 hI23) (by rw [(f23 13 9 rfl).1]; exact hI9) hq
set_option maxRecDepth 20000 in
theorem xf_readFact12 {Q : fmR → fmM → Prop} {M0 M : fmM} {k a : Nat} {x2 : Int32} {v3 v4 : Option Value} (bb : xdBad M0 M k a) (hI9 : (M.1 13 9).toInt ≤ 8 ∧ 0 ≤ (M.1 13 9).toInt) (hq : ∀ M2 : fmM, xdBad M0 M2 k a → Q (.inl (some (.int 0))) M2) : pvEv Tx 3 qX8_readFact 12 [some (.ref 13), some (.ref 1), some (.int x2), v3, v4] [] M Q := by
  refine pv_aloadn (pc := 12) (n := 1) 1 rfl rfl (fm_dec dtX8_readFact 8 rfl) ?_
  refine pv_iconst (pc := 13) (v := 0) (by decide) (fm_dec dtX8_readFact 9 rfl) ?_
  refine pv_iconst (pc := 14) (v := 5) (by decide) (fm_dec dtX8_readFact 10 rfl) ?_
  refine pv_invV2 (k := 1) (d' := 2) (pc := 15) pcv_X8_113 (by decide) rfl (Nat.le_of_ble_eq_true rfl) (by decide) (fm_dec dtX8_readFact 11 rfl) ?_
  refine s_numF5 (by decide) (by decide) bb.f13 bb.2.2.2.2 (fun n15 M15 c15 m15 hI15 f15 => ?_) (fun n15 M15 c15 m15 hI15 f15 => ?_)  
  · refine pv_then1 ?_
    refine pv_istoren (pc := 18) (n := 3) 3 rfl (by decide) rfl (fm_dec dtX8_readFact 12 rfl) ?_
    dsimp only [List.set_cons_zero, List.set_cons_succ]
    exact xf_readFact19 (bb.go f15 hI15) (by rw [(f15 13 9 rfl).1]; exact hI9) hq
  · refine pv_then1 ?_
    refine pv_istoren (pc := 18) (n := 3) 3 rfl (by decide) rfl (fm_dec dtX8_readFact 12 rfl) ?_
    dsimp only [List.set_cons_zero, List.set_cons_succ]
    exact xf_readFact19 (bb.go f15 hI15) (by rw [(f15 13 9 rfl).1]; exact hI9) hq
set_option maxRecDepth 20000 in
theorem xf_readBy43 {Q : fmR → fmM → Prop} {M0 M : fmM} {k a : Nat} {v2 v3 v4 : Option Value} (bb : xdBad M0 M k a) (hI9 : (M.1 13 9).toInt ≤ 8 ∧ 0 ≤ (M.1 13 9).toInt) (hq : ∀ M2 : fmM, xdBad M0 M2 k a → Q (.inl (some (.int 0))) M2) : pvEv Tx 3 qX8_readBy 43 [some (.ref 13), some (.ref 1), v2, v3, v4] [] M Q := by
  refine pv_aloadn (pc := 43) (n := 1) 1 rfl rfl (fm_dec dtX8_readBy 27 rfl) ?_
  refine pv_invV0 (k := 1) (d' := 0) (pc := 44) pcv_X8_117 (by decide) rfl (Nat.le_of_ble_eq_true rfl) (by decide) (fm_dec dtX8_readBy 28 rfl) ?_
  refine c_xfailed (fun h9 => absurd h9 bb.nz) (fun _ => ?_) 
  refine pv_then1 ?_
  refine pv_if_ne (pc := 47) 54 (by decide) (fm_dec dtX8_readBy 29 rfl) (fun _ => ?_) (fun hc47 => by exfalso; revert hc47; decide)
  refine pv_iconst (pc := 54) (v := 0) (by decide) (fm_dec dtX8_readBy 32 rfl) ?_
  exact pv_zreturn (pc := 55) rfl (by first | exact Or.inr rfl | exact Or.inl rfl) (fm_dec dtX8_readBy 33 rfl) (hq _ bb)
set_option maxRecDepth 20000 in
theorem xf_readBy30 {Q : fmR → fmM → Prop} {M0 M : fmM} {k a : Nat} {x2 x3 x4 : Int32} (bb : xdBad M0 M k a) (hI9 : (M.1 13 9).toInt ≤ 8 ∧ 0 ≤ (M.1 13 9).toInt) (hq : ∀ M2 : fmM, xdBad M0 M2 k a → Q (.inl (some (.int 0))) M2) : pvEv Tx 3 qX8_readBy 30 [some (.ref 13), some (.ref 1), some (.int x2), some (.int x3), some (.int x4)] [] M Q := by
  refine pv_iload (pc := 30) (i := 4) rfl (fm_dec dtX8_readBy 19 rfl) ?_
  refine pv_iloadn (pc := 32) (n := 2) 2 rfl rfl (fm_dec dtX8_readBy 20 rfl) ?_
  refine pv_icmp_ne (pc := 33) 43 (by decide) (fm_dec dtX8_readBy 21 rfl) (fun hc33 => ?_) (fun hc33 => ?_)
  · exact xf_readBy43 bb hI9 hq
  · refine pv_aloadn (pc := 36) (n := 1) 1 rfl rfl (fm_dec dtX8_readBy 22 rfl) ?_
    refine pv_iconst (pc := 37) (v := 2) (by decide) (fm_dec dtX8_readBy 23 rfl) ?_
    refine pv_iloadn (pc := 38) (n := 3) 3 rfl rfl (fm_dec dtX8_readBy 24 rfl) ?_
    refine pv_invV2 (k := 1) (d' := 0) (pc := 39) pcv_X8_84 (by decide) rfl (Nat.le_of_ble_eq_true rfl) (by decide) (fm_dec dtX8_readBy 25 rfl) ?_
    refine c_xfail1 bb.nz ?_
    refine pv_then1 ?_
    refine pv_pop (pc := 42) rfl (fm_dec dtX8_readBy 26 rfl) ?_
    exact xf_readBy43 bb hI9 hq
set_option maxRecDepth 20000 in
theorem xf_readBy12 {Q : fmR → fmM → Prop} {M0 M : fmM} {k a : Nat} {x2 : Int32} {v3 v4 : Option Value} (bb : xdBad M0 M k a) (hI9 : (M.1 13 9).toInt ≤ 8 ∧ 0 ≤ (M.1 13 9).toInt) (hq : ∀ M2 : fmM, xdBad M0 M2 k a → Q (.inl (some (.int 0))) M2) : pvEv Tx 3 qX8_readBy 12 [some (.ref 13), some (.ref 1), some (.int x2), v3, v4] [] M Q := by
  refine pv_aloadn (pc := 12) (n := 1) 1 rfl rfl (fm_dec dtX8_readBy 8 rfl) ?_
  refine pv_invV0 (k := 1) (d' := 1) (pc := 13) pcv_X8_88 (by decide) rfl (Nat.le_of_ble_eq_true rfl) (by decide) (fm_dec dtX8_readBy 9 rfl) ?_
  refine s_next bb.2.2.2.2 (fun n13 M13 c13 hI13 f13 => ?_)
  refine pv_then1 ?_
  refine pv_istoren (pc := 16) (n := 3) 3 rfl (by decide) rfl (fm_dec dtX8_readBy 10 rfl) ?_
  dsimp only [List.set_cons_zero, List.set_cons_succ]
  have hI9 : (M13.1 13 9).toInt ≤ 8 ∧ 0 ≤ (M13.1 13 9).toInt := (by rw [(f13 13 9 rfl).1]; exact hI9)
  refine pv_aloadn (pc := 17) (n := 1) 1 rfl rfl (fm_dec dtX8_readBy 11 rfl) ?_
  refine pv_iconst (pc := 18) (v := 0) (by decide) (fm_dec dtX8_readBy 12 rfl) ?_
  refine pv_aloadn (pc := 19) (n := 0) 0 rfl rfl (fm_dec dtX8_readBy 13 rfl) ?_
  refine pv_getI (k := 13) (j := 9) (ci := 8) (pc := 20) pfl_X8_42 (by decide) rfl (by decide) (fm_dec dtX8_readBy 14 rfl) ?_
  refine pv_iconst (pc := 23) (v := 1) (by decide) (fm_dec dtX8_readBy 15 rfl) ?_
  refine pv_isub (pc := 24) (fm_dec dtX8_readBy 16 rfl) ?_
  refine pv_invV2 (k := 1) (d' := 2) (pc := 25) pcv_X8_113 (by decide) rfl (Nat.le_of_ble_eq_true rfl) (by decide) (fm_dec dtX8_readBy 17 rfl) ?_
  refine s_numF7 (by decide) (by have h9 := sc_sub (x := M13.1 13 9) (z := 1) (by have h8 : (1 : Int32).toInt = 1 := (by decide); omega) (by have h8 : (1 : Int32).toInt = 1 := (by decide); omega); have h8 : (1 : Int32).toInt = 1 := (by decide); exact ⟨by omega, by omega⟩) (by rw [(f13 1 4 rfl).1]; exact bb.f13) hI13 (fun n25 M25 c25 m25 hI25 f25 => ?_) (fun n25 M25 c25 m25 hI25 f25 => ?_)  
  · refine pv_then1 ?_
    refine pv_istore (pc := 28) (i := 4) (by decide) rfl (fm_dec dtX8_readBy 18 rfl) ?_
    dsimp only [List.set_cons_zero, List.set_cons_succ]
    exact xf_readBy30 ((bb.go f13 hI13).go f25 hI25) (by rw [(f25 13 9 rfl).1]; exact hI9) hq
  · refine pv_then1 ?_
    refine pv_istore (pc := 28) (i := 4) (by decide) rfl (fm_dec dtX8_readBy 18 rfl) ?_
    dsimp only [List.set_cons_zero, List.set_cons_succ]
    exact xf_readBy30 ((bb.go f13 hI13).go f25 hI25) (by rw [(f25 13 9 rfl).1]; exact hI9) hq
def lfM (M : fmM) (a b c d : Int32) : fmM := fmI (fmI (fmI (fmI (fmI (fmI (fmI M 14 (M.1 13 9).toNatClampNeg a) 15 (M.1 13 9).toNatClampNeg b) 16 (M.1 13 9).toNatClampNeg c) 17 (M.1 13 9).toNatClampNeg d) 18 (M.1 13 9).toNatClampNeg (-1)) 19 (M.1 13 9).toNatClampNeg (-1)) 13 9 (M.1 13 9 + 1)
theorem lf_tok {M0 M : fmM} {tx : tX} {n q na nb nc nd : Nat} {D : dD} {a b c d : Int32} (h : tok M0 M tx n q D) (h8 : D.1 < 8) (ha : a.toInt = na) (hb : b.toInt = nb) (hc : c.toInt = nc) (hd : d.toInt = nd) (a1 : na ≤ 110) (b1 : nb ≤ 64) (c1 : nc ≤ 99) (d1 : nd ≤ 9) : tok M0 (lfM M a b c d) tx n q (D.1 + 1, dRow D.2.1 D.1 [(na : Int), nb, nc, nd, -1, -1], D.2.2) := by
  obtain ⟨hS, hf, hI, ⟨⟨g1, g2, g3, g4, g5, g6⟩, g7, g8⟩, hF⟩ := h
  have m1 : (-1 : Int32).toInt = -1 := by decide
  have el : (M.1 13 9).toNatClampNeg = D.1 := i32_cl g1
  have e1 : (M.1 13 9 + 1).toInt = ((D.1 + 1 : Nat) : Int) := i32_p1 g1 (by omega)
  unfold lfM
  rw [el]
  refine ⟨hS.of rfl rfl rfl, hf, ?_, ⟨⟨?_, g2, g3, g4, g5, g6⟩, fun i hi j hj => ?_, fun i hi j hj => ?_⟩, (((((((hF.put (by decide)).put (by decide)).put (by decide)).put (by decide)).put (by decide)).put (by decide)).put (by decide))⟩
  · exact xInv.put (xInv.put (xInv.put (xInv.put (xInv.put (xInv.put (xInv.put hI ⟨by show (0 : Int) ≤ _; omega, by show _ ≤ (110 : Int); omega⟩) ⟨by show (0 : Int) ≤ _; omega, by show _ ≤ (64 : Int); omega⟩) ⟨by show (0 : Int) ≤ _; omega, by show _ ≤ (99 : Int); omega⟩) ⟨by show (0 : Int) ≤ _; omega, by show _ ≤ (9 : Int); omega⟩) ⟨by show ((-1) : Int) ≤ _; omega, by show _ ≤ (40 : Int); omega⟩) ⟨by show ((-1) : Int) ≤ _; omega, by show _ ≤ (7 : Int); omega⟩) ⟨by show (0 : Int) ≤ _; omega, by show _ ≤ (8 : Int); omega⟩
  · rw [fmI_s]
    exact e1
  · have hi : i < D.1 + 1 := hi
    show _ = dRow D.2.1 D.1 [(na : Int), nb, nc, nd, -1, -1] i j
    unfold dRow
    by_cases e : i = D.1
    · subst e
      rw [if_pos rfl]
      match j, hj with
      | 0, _ =>
        rw [fmI_k _ _ (by decide), fmI_k _ _ (by decide), fmI_k _ _ (by decide), fmI_k _ _ (by decide), fmI_k _ _ (by decide), fmI_k _ _ (by decide), fmI_s]
        exact ha
      | 1, _ =>
        rw [fmI_k _ _ (by decide), fmI_k _ _ (by decide), fmI_k _ _ (by decide), fmI_k _ _ (by decide), fmI_k _ _ (by decide), fmI_s]
        exact hb
      | 2, _ =>
        rw [fmI_k _ _ (by decide), fmI_k _ _ (by decide), fmI_k _ _ (by decide), fmI_k _ _ (by decide), fmI_s]
        exact hc
      | 3, _ =>
        rw [fmI_k _ _ (by decide), fmI_k _ _ (by decide), fmI_k _ _ (by decide), fmI_s]
        exact hd
      | 4, _ =>
        rw [fmI_k _ _ (by decide), fmI_k _ _ (by decide), fmI_s]
        exact m1
      | 5, _ =>
        rw [fmI_k _ _ (by decide), fmI_s]
        exact m1
      | j + 6, h => omega
    · rw [if_neg e]
      rw [← g7 i (by omega) j hj]
      simp only [fmI_at, show ¬ (13 + 1 + j = 13) by omega, e, and_false, false_and, if_false]
  · have hi : i < D.2.2.1 := hi
    show _ = D.2.2.2.1 i j
    rw [← g8 i hi j hj]
    simp only [fmI_at, show ¬ (13 + 7 + j = 13) by omega, show ¬ (13 + 7 + j = 14) by omega, show ¬ (13 + 7 + j = 15) by omega, show ¬ (13 + 7 + j = 16) by omega, show ¬ (13 + 7 + j = 17) by omega, show ¬ (13 + 7 + j = 18) by omega, show ¬ (13 + 7 + j = 19) by omega, false_and, if_false]
set_option maxRecDepth 20000 in
theorem x_life {M : fmM} {Q : fmR → fmM → Prop} {tx : tX} {n p : Nat} {D : dD} (ht : tOk tx n) (hS : xS2 M tx n p) (hf : M.1 1 4 = 0) (hI : scInv Tx invX M) (hW : xdw 13 M D) (hD : dOk D) (h8 : D.1 < 8) (hok : ∀ (M' : fmM) (D' : dD) (q : Nat), clLife tx D p = .inr (D', q) → tok M M' tx n q D' → Q (.inl (some (.int 1))) M') (hbad : ∀ (M' : fmM) (k a : Nat), clLife tx D p = .inl (k, a) → tbad M M' k a → Q (.inl (some (.int 0))) M') : pvGood Tx 3 qX8_readLife [.ref 13, .ref 1] M Q := by
  refine pvGood_of (Nat.le_of_ble_eq_true rfl) ?_
  show pvEv Tx 3 qX8_readLife 0 [some (.ref 13), some (.ref 1), none, none, none, none] [] M Q
  have k0 : xdOk M M tx n p := ⟨hS, hf, xdFr.refl M, hI⟩
  have h139 : (M.1 13 9).toInt ≤ 8 ∧ 0 ≤ (M.1 13 9).toInt := (by have h8 := hW.1.1; have h7 := hD.1; exact ⟨by omega, by omega⟩)
  refine pv_aloadn (pc := 0) (n := 1) 1 rfl rfl (fm_dec dtX8_readLife 0 rfl) ?_
  refine pv_iconst (pc := 1) (v := 0) (by decide) (fm_dec dtX8_readLife 1 rfl) ?_
  refine pv_bipush (pc := 2) (v := 110) (by decide) (fm_dec dtX8_readLife 2 rfl) ?_
  refine pv_invV2 (k := 1) (d' := 2) (pc := 4) pcv_X8_113 (by decide) rfl (Nat.le_of_ble_eq_true rfl) (by decide) (fm_dec dtX8_readLife 3 rfl) ?_
  refine x_numC 0 110 (by decide) (by decide) (by decide) k0.1 k0.2.1 k0.2.2.2 (fun M4 a4 q4 w4 e4 hw4 k4 => ?_) (fun M4 kb ab e4 b4 => ?_)
  · refine pv_then1 ?_
    refine pv_istoren (pc := 7) (n := 2) 2 rfl (by decide) rfl (fm_dec dtX8_readLife 4 rfl) ?_
    dsimp only [List.set_cons_zero, List.set_cons_succ]
    refine pv_aloadn (pc := 8) (n := 1) 1 rfl rfl (fm_dec dtX8_readLife 5 rfl) ?_
    refine pv_iconst (pc := 9) (v := 0) (by decide) (fm_dec dtX8_readLife 6 rfl) ?_
    refine pv_bipush (pc := 10) (v := 64) (by decide) (fm_dec dtX8_readLife 7 rfl) ?_
    refine pv_invV2 (k := 1) (d' := 2) (pc := 12) pcv_X8_113 (by decide) rfl (Nat.le_of_ble_eq_true rfl) (by decide) (fm_dec dtX8_readLife 8 rfl) ?_
    refine x_numC 0 64 (by decide) (by decide) (by decide) k4.1 k4.2.1 k4.2.2.2 (fun M12 a12 q12 w12 e12 hw12 k12 => ?_) (fun M12 kb ab e12 b12 => ?_)
    · refine pv_then1 ?_
      refine pv_istoren (pc := 15) (n := 3) 3 rfl (by decide) rfl (fm_dec dtX8_readLife 9 rfl) ?_
      dsimp only [List.set_cons_zero, List.set_cons_succ]
      refine pv_aloadn (pc := 16) (n := 1) 1 rfl rfl (fm_dec dtX8_readLife 10 rfl) ?_
      refine pv_iconst (pc := 17) (v := 1) (by decide) (fm_dec dtX8_readLife 11 rfl) ?_
      refine pv_bipush (pc := 18) (v := 99) (by decide) (fm_dec dtX8_readLife 12 rfl) ?_
      refine pv_invV2 (k := 1) (d' := 2) (pc := 20) pcv_X8_113 (by decide) rfl (Nat.le_of_ble_eq_true rfl) (by decide) (fm_dec dtX8_readLife 13 rfl) ?_
      refine x_numC 1 99 (by decide) (by decide) (by decide) k12.1 k12.2.1 k12.2.2.2 (fun M20 a20 q20 w20 e20 hw20 k20 => ?_) (fun M20 kb ab e20 b20 => ?_)
      · refine pv_then1 ?_
        refine pv_istore (pc := 23) (i := 4) (by decide) rfl (fm_dec dtX8_readLife 14 rfl) ?_
        dsimp only [List.set_cons_zero, List.set_cons_succ]
        refine pv_aloadn (pc := 25) (n := 1) 1 rfl rfl (fm_dec dtX8_readLife 15 rfl) ?_
        refine pv_iconst (pc := 26) (v := 1) (by decide) (fm_dec dtX8_readLife 16 rfl) ?_
        refine pv_bipush (pc := 27) (v := 9) (by decide) (fm_dec dtX8_readLife 17 rfl) ?_
        refine pv_invV2 (k := 1) (d' := 2) (pc := 29) pcv_X8_113 (by decide) rfl (Nat.le_of_ble_eq_true rfl) (by decide) (fm_dec dtX8_readLife 18 rfl) ?_
        refine x_numC 1 9 (by decide) (by decide) (by decide) k20.1 k20.2.1 k20.2.2.2 (fun M29 a29 q29 w29 e29 hw29 k29 => ?_) (fun M29 kb ab e29 b29 => ?_)
        · refine pv_then1 ?_
          refine pv_istore (pc := 32) (i := 5) (by decide) rfl (fm_dec dtX8_readLife 19 rfl) ?_
          dsimp only [List.set_cons_zero, List.set_cons_succ]
          have hW9 : xdw 13 M29 D := hW.xd (k0.2.2.1.trans (k4.2.2.1.trans (k12.2.2.1.trans (k20.2.2.1.trans k29.2.2.1))))
          have h1 : (M29.1 13 9).toInt = (D.1 : Int) := hW9.1.1
          have n0 := spNum_ok ht k0.1.2.2.1 e4
          have n1 := spNum_ok ht k4.1.2.2.1 e12
          have n2 := spNum_ok ht k12.1.2.2.1 e20
          have n3 := spNum_ok ht k20.1.2.2.1 e29
          refine pv_aloadn (pc := 34) (n := 1) 1 rfl rfl (fm_dec dtX8_readLife 20 rfl) ?_
          refine pv_invV0 (k := 1) (d' := 0) (pc := 35) pcv_X8_117 (by decide) rfl (Nat.le_of_ble_eq_true rfl) (by decide) (fm_dec dtX8_readLife 21 rfl) ?_
          refine c_xfailed (fun _ => ?_) (fun h9 => absurd k29.2.1 h9) 
          refine pv_then1 ?_
          refine pv_if_ne (pc := 38) 50 (by decide) (fm_dec dtX8_readLife 22 rfl) (fun hc38 => by exfalso; revert hc38; decide) (fun _ => ?_)
          refine pv_aloadn (pc := 41) (n := 0) 0 rfl rfl (fm_dec dtX8_readLife 23 rfl) ?_
          refine pv_getI (k := 13) (j := 9) (ci := 8) (pc := 42) pfl_X8_42 (by decide) rfl (by decide) (fm_dec dtX8_readLife 24 rfl) ?_
          refine pv_bipush (pc := 45) (v := 8) (by decide) (fm_dec dtX8_readLife 25 rfl) ?_
          refine pv_icmp_lt (pc := 47) 52 (by decide) (fm_dec dtX8_readLife 26 rfl) (fun _ => ?_) (fun hc47 => by exfalso; rw [sc_lt] at hc47; have h7 : (8 : Int32).toInt = 8 := (by decide); omega)
          refine pv_aloadn (pc := 52) (n := 0) 0 rfl rfl (fm_dec dtX8_readLife 29 rfl) ?_
          refine pv_getR (k := 13) (j := 0) (ci := 8) (pc := 53) 14 rfl (by decide) pfl_X8_9 (by decide) rfl (by decide) (fm_dec dtX8_readLife 30 rfl) ?_
          refine pv_aloadn (pc := 56) (n := 0) 0 rfl rfl (fm_dec dtX8_readLife 31 rfl) ?_
          refine pv_getI (k := 13) (j := 9) (ci := 8) (pc := 57) pfl_X8_42 (by decide) rfl (by decide) (fm_dec dtX8_readLife 32 rfl) ?_
          refine pv_iloadn (pc := 60) (n := 2) 2 rfl rfl (fm_dec dtX8_readLife 33 rfl) ?_
          refine pv_iast (k := 14) (n := 8) (pc := 61) (by decide) rfl rfl (ix_in h1 h8) (fm_dec dtX8_readLife 34 rfl) ?_
          refine pv_aloadn (pc := 62) (n := 0) 0 rfl rfl (fm_dec dtX8_readLife 35 rfl) ?_
          refine pv_getR (k := 13) (j := 1) (ci := 8) (pc := 63) 15 rfl (by decide) pfl_X8_15 (by decide) rfl (by decide) (fm_dec dtX8_readLife 36 rfl) ?_
          refine pv_aloadn (pc := 66) (n := 0) 0 rfl rfl (fm_dec dtX8_readLife 37 rfl) ?_
          refine pv_getI (k := 13) (j := 9) (ci := 8) (pc := 67) pfl_X8_42 (by decide) rfl (by decide) (fm_dec dtX8_readLife 38 rfl) ?_
          refine pv_iloadn (pc := 70) (n := 3) 3 rfl rfl (fm_dec dtX8_readLife 39 rfl) ?_
          refine pv_iast (k := 15) (n := 8) (pc := 71) (by decide) rfl rfl (ix_in h1 h8) (fm_dec dtX8_readLife 40 rfl) ?_
          refine pv_aloadn (pc := 72) (n := 0) 0 rfl rfl (fm_dec dtX8_readLife 41 rfl) ?_
          refine pv_getR (k := 13) (j := 2) (ci := 8) (pc := 73) 16 rfl (by decide) pfl_X8_18 (by decide) rfl (by decide) (fm_dec dtX8_readLife 42 rfl) ?_
          refine pv_aloadn (pc := 76) (n := 0) 0 rfl rfl (fm_dec dtX8_readLife 43 rfl) ?_
          refine pv_getI (k := 13) (j := 9) (ci := 8) (pc := 77) pfl_X8_42 (by decide) rfl (by decide) (fm_dec dtX8_readLife 44 rfl) ?_
          refine pv_iload (pc := 80) (i := 4) rfl (fm_dec dtX8_readLife 45 rfl) ?_
          refine pv_iast (k := 16) (n := 8) (pc := 82) (by decide) rfl rfl (ix_in h1 h8) (fm_dec dtX8_readLife 46 rfl) ?_
          refine pv_aloadn (pc := 83) (n := 0) 0 rfl rfl (fm_dec dtX8_readLife 47 rfl) ?_
          refine pv_getR (k := 13) (j := 3) (ci := 8) (pc := 84) 17 rfl (by decide) pfl_X8_21 (by decide) rfl (by decide) (fm_dec dtX8_readLife 48 rfl) ?_
          refine pv_aloadn (pc := 87) (n := 0) 0 rfl rfl (fm_dec dtX8_readLife 49 rfl) ?_
          refine pv_getI (k := 13) (j := 9) (ci := 8) (pc := 88) pfl_X8_42 (by decide) rfl (by decide) (fm_dec dtX8_readLife 50 rfl) ?_
          refine pv_iload (pc := 91) (i := 5) rfl (fm_dec dtX8_readLife 51 rfl) ?_
          refine pv_iast (k := 17) (n := 8) (pc := 93) (by decide) rfl rfl (ix_in h1 h8) (fm_dec dtX8_readLife 52 rfl) ?_
          refine pv_aloadn (pc := 94) (n := 0) 0 rfl rfl (fm_dec dtX8_readLife 53 rfl) ?_
          refine pv_getR (k := 13) (j := 4) (ci := 8) (pc := 95) 18 rfl (by decide) pfl_X8_24 (by decide) rfl (by decide) (fm_dec dtX8_readLife 54 rfl) ?_
          refine pv_aloadn (pc := 98) (n := 0) 0 rfl rfl (fm_dec dtX8_readLife 55 rfl) ?_
          refine pv_getI (k := 13) (j := 9) (ci := 8) (pc := 99) pfl_X8_42 (by decide) rfl (by decide) (fm_dec dtX8_readLife 56 rfl) ?_
          refine pv_iconst (pc := 102) (v := (-1)) (by decide) (fm_dec dtX8_readLife 57 rfl) ?_
          refine pv_iast (k := 18) (n := 8) (pc := 103) (by decide) rfl rfl (ix_in h1 h8) (fm_dec dtX8_readLife 58 rfl) ?_
          refine pv_aloadn (pc := 104) (n := 0) 0 rfl rfl (fm_dec dtX8_readLife 59 rfl) ?_
          refine pv_getR (k := 13) (j := 5) (ci := 8) (pc := 105) 19 rfl (by decide) pfl_X8_27 (by decide) rfl (by decide) (fm_dec dtX8_readLife 60 rfl) ?_
          refine pv_aloadn (pc := 108) (n := 0) 0 rfl rfl (fm_dec dtX8_readLife 61 rfl) ?_
          refine pv_getI (k := 13) (j := 9) (ci := 8) (pc := 109) pfl_X8_42 (by decide) rfl (by decide) (fm_dec dtX8_readLife 62 rfl) ?_
          refine pv_iconst (pc := 112) (v := (-1)) (by decide) (fm_dec dtX8_readLife 63 rfl) ?_
          refine pv_iast (k := 19) (n := 8) (pc := 113) (by decide) rfl rfl (ix_in h1 h8) (fm_dec dtX8_readLife 64 rfl) ?_
          refine pv_aloadn (pc := 114) (n := 0) 0 rfl rfl (fm_dec dtX8_readLife 65 rfl) ?_
          refine pv_dup (pc := 115) rfl (fm_dec dtX8_readLife 66 rfl) ?_
          refine pv_getI (k := 13) (j := 9) (ci := 8) (pc := 116) pfl_X8_42 (by decide) rfl (by decide) (fm_dec dtX8_readLife 67 rfl) ?_
          refine pv_iconst (pc := 119) (v := 1) (by decide) (fm_dec dtX8_readLife 68 rfl) ?_
          refine pv_iadd (pc := 120) (fm_dec dtX8_readLife 69 rfl) ?_
          refine pv_putI (k := 13) (j := 9) (ci := 8) (pc := 121) pfl_X8_42 (by decide) rfl (by decide) (fm_dec dtX8_readLife 70 rfl) ?_
          refine pv_iconst (pc := 124) (v := 1) (by decide) (fm_dec dtX8_readLife 71 rfl) ?_
          exact pv_zreturn (pc := 125) rfl (by first | exact Or.inr rfl | exact Or.inl rfl) (fm_dec dtX8_readLife 72 rfl) (hok (lfM M29 w4 w12 w20 w29) _ _ (by unfold clLife; simp only [spBind, e4, e12, e20, e29]) (lf_tok ⟨k29.1, k29.2.1, k29.2.2.2, hW9, ((k0.2.2.1.trans (k4.2.2.1.trans (k12.2.2.1.trans (k20.2.2.1.trans k29.2.2.1))))).df⟩ h8 hw4 hw12 hw20 hw29 (by omega) (by omega) (by omega) (by omega)))
        · refine pv_then1 ?_
          refine pv_istore (pc := 32) (i := 5) (by decide) rfl (fm_dec dtX8_readLife 19 rfl) ?_
          dsimp only [List.set_cons_zero, List.set_cons_succ]
          exact xf_readLife34 b29 (by rw [(((k0.2.2.1.trans (k4.2.2.1.trans (k12.2.2.1.trans k20.2.2.1))).trans b29.2.2.2.1).1 13 9 (by decide)).1]; exact h139) (fun M2 h2 => hbad M2 kb ab (by unfold clLife; simp only [spBind, e4, e12, e20, e29]) (h2.fr (k0.2.2.1.trans (k4.2.2.1.trans (k12.2.2.1.trans k20.2.2.1)))).tb)
      · refine pv_then1 ?_
        refine pv_istore (pc := 23) (i := 4) (by decide) rfl (fm_dec dtX8_readLife 14 rfl) ?_
        dsimp only [List.set_cons_zero, List.set_cons_succ]
        exact xf_readLife25 b20 (by rw [(((k0.2.2.1.trans (k4.2.2.1.trans k12.2.2.1)).trans b20.2.2.2.1).1 13 9 (by decide)).1]; exact h139) (fun M2 h2 => hbad M2 kb ab (by unfold clLife; simp only [spBind, e4, e12, e20]) (h2.fr (k0.2.2.1.trans (k4.2.2.1.trans k12.2.2.1))).tb)
    · refine pv_then1 ?_
      refine pv_istoren (pc := 15) (n := 3) 3 rfl (by decide) rfl (fm_dec dtX8_readLife 9 rfl) ?_
      dsimp only [List.set_cons_zero, List.set_cons_succ]
      exact xf_readLife16 b12 (by rw [(((k0.2.2.1.trans k4.2.2.1).trans b12.2.2.2.1).1 13 9 (by decide)).1]; exact h139) (fun M2 h2 => hbad M2 kb ab (by unfold clLife; simp only [spBind, e4, e12]) (h2.fr (k0.2.2.1.trans k4.2.2.1)).tb)
  · refine pv_then1 ?_
    refine pv_istoren (pc := 7) (n := 2) 2 rfl (by decide) rfl (fm_dec dtX8_readLife 4 rfl) ?_
    dsimp only [List.set_cons_zero, List.set_cons_succ]
    exact xf_readLife8 b4 (by rw [((k0.2.2.1.trans b4.2.2.2.1).1 13 9 (by decide)).1]; exact h139) (fun M2 h2 => hbad M2 kb ab (by unfold clLife; simp only [spBind, e4]) (h2.fr k0.2.2.1).tb)
theorem st_tok {M0 M : fmM} {tx : tX} {n q i j : Nat} {D : dD} {x v : Int32} {V : Int} (h : tok M0 M tx n q D) (hj : j = 4 ∨ j = 5) (hi : i < D.1) (h8 : D.1 ≤ 8) (hx : x.toInt = i) (hv : v.toInt = V) (b0 : -1 ≤ V) (b1 : V ≤ 7 ∨ (j = 4 ∧ V ≤ 40)) : tok M0 (fmI M (14 + j) x.toNatClampNeg v) tx n q (D.1, dSet D.2.1 i j V, D.2.2) := by
  obtain ⟨hS, hf, hI, ⟨⟨g1, g2, g3, g4, g5, g6⟩, g7, g8⟩, hF⟩ := h
  rw [i32_cl hx]
  have hk : 14 + j ≠ 13 := by omega
  have hb : (scAt (invX (14 + j)) i).1 ≤ v.toInt ∧ v.toInt ≤ (scAt (invX (14 + j)) i).2 := by
    rcases hj with rfl | rfl
    · exact ⟨by show (-1 : Int) ≤ _; omega, by show _ ≤ (40 : Int); omega⟩
    · exact ⟨by show (-1 : Int) ≤ _; omega, by show _ ≤ (7 : Int); omega⟩
  refine ⟨hS.of (by rw [fmI_k _ _ (by omega)]) (by rw [fmI_k _ _ (by omega)]) (by rw [fmI_k _ _ (by omega)]), by rw [fmI_k _ _ (by omega)]; exact hf, xInv.put hI hb, ⟨⟨?_, ?_, ?_, ?_, ?_, ?_⟩, fun i' hi' j' hj' => ?_, fun i' hi' j' hj' => ?_⟩, hF.put (by omega)⟩
  · rw [fmI_k _ _ (by omega)]; exact g1
  · rw [fmI_k _ _ (by omega)]; exact g2
  · rw [fmI_k _ _ (by omega)]; exact g3
  · rw [fmI_k _ _ (by omega)]; exact g4
  · rw [fmI_k _ _ (by omega)]; exact g5
  · rw [fmI_k _ _ (by omega)]; exact g6
  · show _ = dSet D.2.1 i j V i' j'
    unfold dSet
    rw [fmI_at]
    by_cases e : i' = i ∧ j' = j
    · rw [if_pos e, if_pos ⟨by omega, e.1⟩]
      exact hv
    · rw [if_neg e, if_neg (by intro h9; exact e ⟨h9.2, by omega⟩)]
      exact g7 i' hi' j' hj'
  · show _ = D.2.2.2.1 i' j'
    rw [fmI_k _ _ (by omega)]
    exact g8 i' hi' j' hj'
set_option maxRecDepth 20000 in
theorem x_has {M : fmM} {Q : fmR → fmM → Prop} {tx : tX} {n p : Nat} {D : dD} (ht : tOk tx n) (hS : xS2 M tx n p) (hf : M.1 1 4 = 0) (hI : scInv Tx invX M) (hW : xdw 13 M D) (hD : dOk D) (hok : ∀ (M' : fmM) (D' : dD) (q : Nat), clHas tx D p = .inr (D', q) → tok M M' tx n q D' → Q (.inl (some (.int 1))) M') (hbad : ∀ (M' : fmM) (k a : Nat), clHas tx D p = .inl (k, a) → tbad M M' k a → Q (.inl (some (.int 0))) M') : pvGood Tx 3 qX8_readHas [.ref 13, .ref 1] M Q := by
  refine pvGood_of (Nat.le_of_ble_eq_true rfl) ?_
  show pvEv Tx 3 qX8_readHas 0 [some (.ref 13), some (.ref 1), none, none] [] M Q
  have k0 : xdOk M M tx n p := ⟨hS, hf, xdFr.refl M, hI⟩
  have h139 : (M.1 13 9).toInt ≤ 8 ∧ 0 ≤ (M.1 13 9).toInt := (by have h8 := hW.1.1; have h7 := hD.1; exact ⟨by omega, by omega⟩)
  have h9d := hD.1
  refine pv_aloadn (pc := 0) (n := 1) 1 rfl rfl (fm_dec dtX8_readHas 0 rfl) ?_
  refine pv_iconst (pc := 1) (v := 0) (by decide) (fm_dec dtX8_readHas 1 rfl) ?_
  refine pv_aloadn (pc := 2) (n := 0) 0 rfl rfl (fm_dec dtX8_readHas 2 rfl) ?_
  refine pv_getI (k := 13) (j := 9) (ci := 8) (pc := 3) pfl_X8_42 (by decide) rfl (by decide) (fm_dec dtX8_readHas 3 rfl) ?_
  refine pv_iconst (pc := 6) (v := 1) (by decide) (fm_dec dtX8_readHas 4 rfl) ?_
  refine pv_isub (pc := 7) (fm_dec dtX8_readHas 5 rfl) ?_
  refine pv_invV2 (k := 1) (d' := 2) (pc := 8) pcv_X8_113 (by decide) rfl (Nat.le_of_ble_eq_true rfl) (by decide) (fm_dec dtX8_readHas 6 rfl) ?_
  refine x_numC 0 ((D.1 : Int) - 1) (by decide) (by have h9 := sc_sub (x := M.1 13 9) (z := 1) (by have h8 : (1 : Int32).toInt = 1 := (by decide); have h7 : (M.1 13 9).toInt = (D.1 : Int) := hW.1.1; omega) (by have h8 : (1 : Int32).toInt = 1 := (by decide); have h7 : (M.1 13 9).toInt = (D.1 : Int) := hW.1.1; omega); have h8 : (1 : Int32).toInt = 1 := (by decide); have h7 : (M.1 13 9).toInt = (D.1 : Int) := hW.1.1; omega) (by omega) k0.1 k0.2.1 k0.2.2.2 (fun M8 a8 q8 w8 e8 hw8 k8 => ?_) (fun M8 kb ab e8 b8 => ?_)
  · refine pv_then1 ?_
    refine pv_istoren (pc := 11) (n := 2) 2 rfl (by decide) rfl (fm_dec dtX8_readHas 7 rfl) ?_
    dsimp only [List.set_cons_zero, List.set_cons_succ]
    refine pv_aloadn (pc := 12) (n := 1) 1 rfl rfl (fm_dec dtX8_readHas 8 rfl) ?_
    refine pv_iconst (pc := 13) (v := 0) (by decide) (fm_dec dtX8_readHas 9 rfl) ?_
    refine pv_bipush (pc := 14) (v := 40) (by decide) (fm_dec dtX8_readHas 10 rfl) ?_
    refine pv_invV2 (k := 1) (d' := 2) (pc := 16) pcv_X8_113 (by decide) rfl (Nat.le_of_ble_eq_true rfl) (by decide) (fm_dec dtX8_readHas 11 rfl) ?_
    refine x_numC 0 40 (by decide) (by decide) (by decide) k8.1 k8.2.1 k8.2.2.2 (fun M16 a16 q16 w16 e16 hw16 k16 => ?_) (fun M16 kb ab e16 b16 => ?_)
    · refine pv_then1 ?_
      refine pv_istoren (pc := 19) (n := 3) 3 rfl (by decide) rfl (fm_dec dtX8_readHas 12 rfl) ?_
      dsimp only [List.set_cons_zero, List.set_cons_succ]
      have hW9 : xdw 13 M16 D := hW.xd (k0.2.2.1.trans (k8.2.2.1.trans k16.2.2.1))
      have n0 := spNum_ok ht k0.1.2.2.1 e8
      have n1 := spNum_ok ht k8.1.2.2.1 e16
      have hl8 := hD.1
      refine pv_aloadn (pc := 20) (n := 1) 1 rfl rfl (fm_dec dtX8_readHas 13 rfl) ?_
      refine pv_invV0 (k := 1) (d' := 0) (pc := 21) pcv_X8_117 (by decide) rfl (Nat.le_of_ble_eq_true rfl) (by decide) (fm_dec dtX8_readHas 14 rfl) ?_
      refine c_xfailed (fun _ => ?_) (fun h9 => absurd k16.2.1 h9) 
      refine pv_then1 ?_
      refine pv_if_ne (pc := 24) 31 (by decide) (fm_dec dtX8_readHas 15 rfl) (fun hc24 => by exfalso; revert hc24; decide) (fun _ => ?_)
      refine pv_iloadn (pc := 27) (n := 2) 2 rfl rfl (fm_dec dtX8_readHas 16 rfl) ?_
      refine pv_if_ge (pc := 28) 33 (by decide) (fm_dec dtX8_readHas 17 rfl) (fun _ => ?_) (fun hc28 => by exfalso; rw [sc_le] at hc28; have h7 : (0 : Int32).toInt = 0 := (by decide); omega)
      refine pv_aloadn (pc := 33) (n := 0) 0 rfl rfl (fm_dec dtX8_readHas 20 rfl) ?_
      refine pv_getR (k := 13) (j := 4) (ci := 8) (pc := 34) 18 rfl (by decide) pfl_X8_24 (by decide) rfl (by decide) (fm_dec dtX8_readHas 21 rfl) ?_
      refine pv_iloadn (pc := 37) (n := 2) 2 rfl rfl (fm_dec dtX8_readHas 22 rfl) ?_
      refine pv_iloadn (pc := 38) (n := 3) 3 rfl rfl (fm_dec dtX8_readHas 23 rfl) ?_
      refine pv_iast (k := 18) (n := 8) (pc := 39) (by decide) rfl rfl (ix_in hw8 (by omega)) (fm_dec dtX8_readHas 24 rfl) ?_
      refine pv_iconst (pc := 40) (v := 1) (by decide) (fm_dec dtX8_readHas 25 rfl) ?_
      exact pv_zreturn (pc := 41) rfl (by first | exact Or.inr rfl | exact Or.inl rfl) (fm_dec dtX8_readHas 26 rfl) (hok _ _ _ (by unfold clHas; simp only [spBind, e8, e16]) (st_tok (j := 4) (i := a8) (V := (a16 : Int)) ⟨k16.1, k16.2.1, k16.2.2.2, hW9, ((k0.2.2.1.trans (k8.2.2.1.trans k16.2.2.1))).df⟩ (Or.inl rfl) (by omega) hl8 hw8 hw16 (by omega) (Or.inr ⟨rfl, by omega⟩)))
    · refine pv_then1 ?_
      refine pv_istoren (pc := 19) (n := 3) 3 rfl (by decide) rfl (fm_dec dtX8_readHas 12 rfl) ?_
      dsimp only [List.set_cons_zero, List.set_cons_succ]
      exact xf_readHas20 b16 (by rw [(((k0.2.2.1.trans k8.2.2.1).trans b16.2.2.2.1).1 13 9 (by decide)).1]; exact h139) (fun M2 h2 => hbad M2 kb ab (by unfold clHas; simp only [spBind, e8, e16]) (h2.fr (k0.2.2.1.trans k8.2.2.1)).tb)
  · refine pv_then1 ?_
    refine pv_istoren (pc := 11) (n := 2) 2 rfl (by decide) rfl (fm_dec dtX8_readHas 7 rfl) ?_
    dsimp only [List.set_cons_zero, List.set_cons_succ]
    exact xf_readHas12 b8 (by rw [((k0.2.2.1.trans b8.2.2.2.1).1 13 9 (by decide)).1]; exact h139) (fun M2 h2 => hbad M2 kb ab (by unfold clHas; simp only [spBind, e8]) (h2.fr k0.2.2.1).tb)
def faM (M : fmM) (a b c : Int32) : fmM := fmI (fmI (fmI (fmI M 20 (M.1 13 10).toNatClampNeg a) 21 (M.1 13 10).toNatClampNeg b) 22 (M.1 13 10).toNatClampNeg c) 13 10 (M.1 13 10 + 1)
theorem fa_tok {M0 M : fmM} {tx : tX} {n q na nb nc : Nat} {D : dD} {a b c : Int32} (h : tok M0 M tx n q D) (h8 : D.2.2.1 < 24) (ha : a.toInt = na) (hb : b.toInt = nb) (hc : c.toInt = nc) (a1 : na ≤ 7) (b1 : nb ≤ 5) (c1 : nc ≤ 60) : tok M0 (faM M a b c) tx n q (D.1, D.2.1, D.2.2.1 + 1, dRow D.2.2.2.1 D.2.2.1 [(na : Int), nb, nc], D.2.2.2.2) := by
  obtain ⟨hS, hf, hI, ⟨⟨g1, g2, g3, g4, g5, g6⟩, g7, g8⟩, hF⟩ := h
  have el : (M.1 13 10).toNatClampNeg = D.2.2.1 := i32_cl g2
  have e1 : (M.1 13 10 + 1).toInt = ((D.2.2.1 + 1 : Nat) : Int) := i32_p1 g2 (by omega)
  unfold faM
  rw [el]
  refine ⟨hS.of rfl rfl rfl, hf, ?_, ⟨⟨g1, ?_, g3, g4, g5, g6⟩, fun i hi j hj => ?_, fun i hi j hj => ?_⟩, ((((hF.put (by decide)).put (by decide)).put (by decide)).put (by decide))⟩
  · exact xInv.put (xInv.put (xInv.put (xInv.put hI ⟨by show (0 : Int) ≤ _; omega, by show _ ≤ (7 : Int); omega⟩) ⟨by show (0 : Int) ≤ _; omega, by show _ ≤ (5 : Int); omega⟩) ⟨by show (0 : Int) ≤ _; omega, by show _ ≤ (60 : Int); omega⟩) ⟨by show (0 : Int) ≤ _; omega, by show _ ≤ (24 : Int); omega⟩
  · rw [fmI_s]
    exact e1
  · have hi : i < D.1 := hi
    show _ = D.2.1 i j
    rw [← g7 i hi j hj]
    simp only [fmI_at, show ¬ (13 + 1 + j = 13) by omega, show ¬ (13 + 1 + j = 20) by omega, show ¬ (13 + 1 + j = 21) by omega, show ¬ (13 + 1 + j = 22) by omega, false_and, if_false]
  · have hi : i < D.2.2.1 + 1 := hi
    show _ = dRow D.2.2.2.1 D.2.2.1 [(na : Int), nb, nc] i j
    unfold dRow
    by_cases e : i = D.2.2.1
    · subst e
      rw [if_pos rfl]
      match j, hj with
      | 0, _ =>
        rw [fmI_k _ _ (by decide), fmI_k _ _ (by decide), fmI_k _ _ (by decide), fmI_s]
        exact ha
      | 1, _ =>
        rw [fmI_k _ _ (by decide), fmI_k _ _ (by decide), fmI_s]
        exact hb
      | 2, _ =>
        rw [fmI_k _ _ (by decide), fmI_s]
        exact hc
      | j + 3, h => omega
    · rw [if_neg e]
      rw [← g8 i (by omega) j hj]
      simp only [fmI_at, show ¬ (13 + 7 + j = 13) by omega, e, and_false, false_and, if_false]
set_option maxRecDepth 20000 in
theorem x_fact {M : fmM} {Q : fmR → fmM → Prop} {tx : tX} {n p : Nat} {D : dD} (ht : tOk tx n) (hS : xS2 M tx n p) (hf : M.1 1 4 = 0) (hI : scInv Tx invX M) (hW : xdw 13 M D) (hD : dOk D) (h24 : D.2.2.1 < 24) (hok : ∀ (M' : fmM) (D' : dD) (q : Nat), clFact tx D p = .inr (D', q) → tok M M' tx n q D' → Q (.inl (some (.int 1))) M') (hbad : ∀ (M' : fmM) (k a : Nat), clFact tx D p = .inl (k, a) → tbad M M' k a → Q (.inl (some (.int 0))) M') : pvGood Tx 3 qX8_readFact [.ref 13, .ref 1] M Q := by
  refine pvGood_of (Nat.le_of_ble_eq_true rfl) ?_
  show pvEv Tx 3 qX8_readFact 0 [some (.ref 13), some (.ref 1), none, none, none] [] M Q
  have k0 : xdOk M M tx n p := ⟨hS, hf, xdFr.refl M, hI⟩
  have h139 : (M.1 13 9).toInt ≤ 8 ∧ 0 ≤ (M.1 13 9).toInt := (by have h8 := hW.1.1; have h7 := hD.1; exact ⟨by omega, by omega⟩)
  have h9d := hD.1
  refine pv_aloadn (pc := 0) (n := 1) 1 rfl rfl (fm_dec dtX8_readFact 0 rfl) ?_
  refine pv_iconst (pc := 1) (v := 0) (by decide) (fm_dec dtX8_readFact 1 rfl) ?_
  refine pv_aloadn (pc := 2) (n := 0) 0 rfl rfl (fm_dec dtX8_readFact 2 rfl) ?_
  refine pv_getI (k := 13) (j := 9) (ci := 8) (pc := 3) pfl_X8_42 (by decide) rfl (by decide) (fm_dec dtX8_readFact 3 rfl) ?_
  refine pv_iconst (pc := 6) (v := 1) (by decide) (fm_dec dtX8_readFact 4 rfl) ?_
  refine pv_isub (pc := 7) (fm_dec dtX8_readFact 5 rfl) ?_
  refine pv_invV2 (k := 1) (d' := 2) (pc := 8) pcv_X8_113 (by decide) rfl (Nat.le_of_ble_eq_true rfl) (by decide) (fm_dec dtX8_readFact 6 rfl) ?_
  refine x_numC 0 ((D.1 : Int) - 1) (by decide) (by have h9 := sc_sub (x := M.1 13 9) (z := 1) (by have h8 : (1 : Int32).toInt = 1 := (by decide); have h7 : (M.1 13 9).toInt = (D.1 : Int) := hW.1.1; omega) (by have h8 : (1 : Int32).toInt = 1 := (by decide); have h7 : (M.1 13 9).toInt = (D.1 : Int) := hW.1.1; omega); have h8 : (1 : Int32).toInt = 1 := (by decide); have h7 : (M.1 13 9).toInt = (D.1 : Int) := hW.1.1; omega) (by omega) k0.1 k0.2.1 k0.2.2.2 (fun M8 a8 q8 w8 e8 hw8 k8 => ?_) (fun M8 kb ab e8 b8 => ?_)
  · refine pv_then1 ?_
    refine pv_istoren (pc := 11) (n := 2) 2 rfl (by decide) rfl (fm_dec dtX8_readFact 7 rfl) ?_
    dsimp only [List.set_cons_zero, List.set_cons_succ]
    refine pv_aloadn (pc := 12) (n := 1) 1 rfl rfl (fm_dec dtX8_readFact 8 rfl) ?_
    refine pv_iconst (pc := 13) (v := 0) (by decide) (fm_dec dtX8_readFact 9 rfl) ?_
    refine pv_iconst (pc := 14) (v := 5) (by decide) (fm_dec dtX8_readFact 10 rfl) ?_
    refine pv_invV2 (k := 1) (d' := 2) (pc := 15) pcv_X8_113 (by decide) rfl (Nat.le_of_ble_eq_true rfl) (by decide) (fm_dec dtX8_readFact 11 rfl) ?_
    refine x_numC 0 5 (by decide) (by decide) (by decide) k8.1 k8.2.1 k8.2.2.2 (fun M15 a15 q15 w15 e15 hw15 k15 => ?_) (fun M15 kb ab e15 b15 => ?_)
    · refine pv_then1 ?_
      refine pv_istoren (pc := 18) (n := 3) 3 rfl (by decide) rfl (fm_dec dtX8_readFact 12 rfl) ?_
      dsimp only [List.set_cons_zero, List.set_cons_succ]
      refine pv_aloadn (pc := 19) (n := 1) 1 rfl rfl (fm_dec dtX8_readFact 13 rfl) ?_
      refine pv_iconst (pc := 20) (v := 1) (by decide) (fm_dec dtX8_readFact 14 rfl) ?_
      refine pv_bipush (pc := 21) (v := 60) (by decide) (fm_dec dtX8_readFact 15 rfl) ?_
      refine pv_invV2 (k := 1) (d' := 2) (pc := 23) pcv_X8_113 (by decide) rfl (Nat.le_of_ble_eq_true rfl) (by decide) (fm_dec dtX8_readFact 16 rfl) ?_
      refine x_numC 1 60 (by decide) (by decide) (by decide) k15.1 k15.2.1 k15.2.2.2 (fun M23 a23 q23 w23 e23 hw23 k23 => ?_) (fun M23 kb ab e23 b23 => ?_)
      · refine pv_then1 ?_
        refine pv_istore (pc := 26) (i := 4) (by decide) rfl (fm_dec dtX8_readFact 17 rfl) ?_
        dsimp only [List.set_cons_zero, List.set_cons_succ]
        have hW9 : xdw 13 M23 D := hW.xd (k0.2.2.1.trans (k8.2.2.1.trans (k15.2.2.1.trans k23.2.2.1)))
        have h1 : (M23.1 13 10).toInt = (D.2.2.1 : Int) := hW9.1.2.1
        have n0 := spNum_ok ht k0.1.2.2.1 e8
        have n1 := spNum_ok ht k8.1.2.2.1 e15
        have n2 := spNum_ok ht k15.1.2.2.1 e23
        have hl8 := hD.1
        refine pv_aloadn (pc := 28) (n := 1) 1 rfl rfl (fm_dec dtX8_readFact 18 rfl) ?_
        refine pv_invV0 (k := 1) (d' := 0) (pc := 29) pcv_X8_117 (by decide) rfl (Nat.le_of_ble_eq_true rfl) (by decide) (fm_dec dtX8_readFact 19 rfl) ?_
        refine c_xfailed (fun _ => ?_) (fun h9 => absurd k23.2.1 h9) 
        refine pv_then1 ?_
        refine pv_if_ne (pc := 32) 44 (by decide) (fm_dec dtX8_readFact 20 rfl) (fun hc32 => by exfalso; revert hc32; decide) (fun _ => ?_)
        refine pv_aloadn (pc := 35) (n := 0) 0 rfl rfl (fm_dec dtX8_readFact 21 rfl) ?_
        refine pv_getI (k := 13) (j := 10) (ci := 8) (pc := 36) pfl_X8_46 (by decide) rfl (by decide) (fm_dec dtX8_readFact 22 rfl) ?_
        refine pv_bipush (pc := 39) (v := 24) (by decide) (fm_dec dtX8_readFact 23 rfl) ?_
        refine pv_icmp_lt (pc := 41) 46 (by decide) (fm_dec dtX8_readFact 24 rfl) (fun _ => ?_) (fun hc41 => by exfalso; rw [sc_lt] at hc41; have h7 : (24 : Int32).toInt = 24 := (by decide); omega)
        refine pv_aloadn (pc := 46) (n := 0) 0 rfl rfl (fm_dec dtX8_readFact 27 rfl) ?_
        refine pv_getR (k := 13) (j := 6) (ci := 8) (pc := 47) 20 rfl (by decide) pfl_X8_30 (by decide) rfl (by decide) (fm_dec dtX8_readFact 28 rfl) ?_
        refine pv_aloadn (pc := 50) (n := 0) 0 rfl rfl (fm_dec dtX8_readFact 29 rfl) ?_
        refine pv_getI (k := 13) (j := 10) (ci := 8) (pc := 51) pfl_X8_46 (by decide) rfl (by decide) (fm_dec dtX8_readFact 30 rfl) ?_
        refine pv_iloadn (pc := 54) (n := 2) 2 rfl rfl (fm_dec dtX8_readFact 31 rfl) ?_
        refine pv_iast (k := 20) (n := 24) (pc := 55) (by decide) rfl rfl (ix_in h1 h24) (fm_dec dtX8_readFact 32 rfl) ?_
        refine pv_aloadn (pc := 56) (n := 0) 0 rfl rfl (fm_dec dtX8_readFact 33 rfl) ?_
        refine pv_getR (k := 13) (j := 7) (ci := 8) (pc := 57) 21 rfl (by decide) pfl_X8_33 (by decide) rfl (by decide) (fm_dec dtX8_readFact 34 rfl) ?_
        refine pv_aloadn (pc := 60) (n := 0) 0 rfl rfl (fm_dec dtX8_readFact 35 rfl) ?_
        refine pv_getI (k := 13) (j := 10) (ci := 8) (pc := 61) pfl_X8_46 (by decide) rfl (by decide) (fm_dec dtX8_readFact 36 rfl) ?_
        refine pv_iloadn (pc := 64) (n := 3) 3 rfl rfl (fm_dec dtX8_readFact 37 rfl) ?_
        refine pv_iast (k := 21) (n := 24) (pc := 65) (by decide) rfl rfl (ix_in h1 h24) (fm_dec dtX8_readFact 38 rfl) ?_
        refine pv_aloadn (pc := 66) (n := 0) 0 rfl rfl (fm_dec dtX8_readFact 39 rfl) ?_
        refine pv_getR (k := 13) (j := 8) (ci := 8) (pc := 67) 22 rfl (by decide) pfl_X8_36 (by decide) rfl (by decide) (fm_dec dtX8_readFact 40 rfl) ?_
        refine pv_aloadn (pc := 70) (n := 0) 0 rfl rfl (fm_dec dtX8_readFact 41 rfl) ?_
        refine pv_getI (k := 13) (j := 10) (ci := 8) (pc := 71) pfl_X8_46 (by decide) rfl (by decide) (fm_dec dtX8_readFact 42 rfl) ?_
        refine pv_iload (pc := 74) (i := 4) rfl (fm_dec dtX8_readFact 43 rfl) ?_
        refine pv_iast (k := 22) (n := 24) (pc := 76) (by decide) rfl rfl (ix_in h1 h24) (fm_dec dtX8_readFact 44 rfl) ?_
        refine pv_aloadn (pc := 77) (n := 0) 0 rfl rfl (fm_dec dtX8_readFact 45 rfl) ?_
        refine pv_dup (pc := 78) rfl (fm_dec dtX8_readFact 46 rfl) ?_
        refine pv_getI (k := 13) (j := 10) (ci := 8) (pc := 79) pfl_X8_46 (by decide) rfl (by decide) (fm_dec dtX8_readFact 47 rfl) ?_
        refine pv_iconst (pc := 82) (v := 1) (by decide) (fm_dec dtX8_readFact 48 rfl) ?_
        refine pv_iadd (pc := 83) (fm_dec dtX8_readFact 49 rfl) ?_
        refine pv_putI (k := 13) (j := 10) (ci := 8) (pc := 84) pfl_X8_46 (by decide) rfl (by decide) (fm_dec dtX8_readFact 50 rfl) ?_
        refine pv_iconst (pc := 87) (v := 1) (by decide) (fm_dec dtX8_readFact 51 rfl) ?_
        exact pv_zreturn (pc := 88) rfl (by first | exact Or.inr rfl | exact Or.inl rfl) (fm_dec dtX8_readFact 52 rfl) (hok (faM M23 w8 w15 w23) _ _ (by unfold clFact; simp only [spBind, e8, e15, e23]) (fa_tok ⟨k23.1, k23.2.1, k23.2.2.2, hW9, ((k0.2.2.1.trans (k8.2.2.1.trans (k15.2.2.1.trans k23.2.2.1)))).df⟩ h24 hw8 hw15 hw23 (by omega) (by omega) (by omega)))
      · refine pv_then1 ?_
        refine pv_istore (pc := 26) (i := 4) (by decide) rfl (fm_dec dtX8_readFact 17 rfl) ?_
        dsimp only [List.set_cons_zero, List.set_cons_succ]
        exact xf_readFact28 b23 (by rw [(((k0.2.2.1.trans (k8.2.2.1.trans k15.2.2.1)).trans b23.2.2.2.1).1 13 9 (by decide)).1]; exact h139) (fun M2 h2 => hbad M2 kb ab (by unfold clFact; simp only [spBind, e8, e15, e23]) (h2.fr (k0.2.2.1.trans (k8.2.2.1.trans k15.2.2.1))).tb)
    · refine pv_then1 ?_
      refine pv_istoren (pc := 18) (n := 3) 3 rfl (by decide) rfl (fm_dec dtX8_readFact 12 rfl) ?_
      dsimp only [List.set_cons_zero, List.set_cons_succ]
      exact xf_readFact19 b15 (by rw [(((k0.2.2.1.trans k8.2.2.1).trans b15.2.2.2.1).1 13 9 (by decide)).1]; exact h139) (fun M2 h2 => hbad M2 kb ab (by unfold clFact; simp only [spBind, e8, e15]) (h2.fr (k0.2.2.1.trans k8.2.2.1)).tb)
  · refine pv_then1 ?_
    refine pv_istoren (pc := 11) (n := 2) 2 rfl (by decide) rfl (fm_dec dtX8_readFact 7 rfl) ?_
    dsimp only [List.set_cons_zero, List.set_cons_succ]
    exact xf_readFact12 b8 (by rw [((k0.2.2.1.trans b8.2.2.2.1).1 13 9 (by decide)).1]; exact h139) (fun M2 h2 => hbad M2 kb ab (by unfold clFact; simp only [spBind, e8]) (h2.fr k0.2.2.1).tb)
set_option maxRecDepth 20000 in
theorem x_by {M : fmM} {Q : fmR → fmM → Prop} {tx : tX} {n p : Nat} {D : dD} (ht : tOk tx n) (hS : xS2 M tx n p) (hf : M.1 1 4 = 0) (hI : scInv Tx invX M) (hW : xdw 13 M D) (hD : dOk D) (hok : ∀ (M' : fmM) (D' : dD) (q : Nat), clBy tx D p = .inr (D', q) → tok M M' tx n q D' → Q (.inl (some (.int 1))) M') (hbad : ∀ (M' : fmM) (k a : Nat), clBy tx D p = .inl (k, a) → tbad M M' k a → Q (.inl (some (.int 0))) M') : pvGood Tx 3 qX8_readBy [.ref 13, .ref 1] M Q := by
  refine pvGood_of (Nat.le_of_ble_eq_true rfl) ?_
  show pvEv Tx 3 qX8_readBy 0 [some (.ref 13), some (.ref 1), none, none, none] [] M Q
  have k0 : xdOk M M tx n p := ⟨hS, hf, xdFr.refl M, hI⟩
  have h139 : (M.1 13 9).toInt ≤ 8 ∧ 0 ≤ (M.1 13 9).toInt := (by have h8 := hW.1.1; have h7 := hD.1; exact ⟨by omega, by omega⟩)
  have h9d := hD.1
  refine pv_aloadn (pc := 0) (n := 1) 1 rfl rfl (fm_dec dtX8_readBy 0 rfl) ?_
  refine pv_iconst (pc := 1) (v := 0) (by decide) (fm_dec dtX8_readBy 1 rfl) ?_
  refine pv_aloadn (pc := 2) (n := 0) 0 rfl rfl (fm_dec dtX8_readBy 2 rfl) ?_
  refine pv_getI (k := 13) (j := 9) (ci := 8) (pc := 3) pfl_X8_42 (by decide) rfl (by decide) (fm_dec dtX8_readBy 3 rfl) ?_
  refine pv_iconst (pc := 6) (v := 1) (by decide) (fm_dec dtX8_readBy 4 rfl) ?_
  refine pv_isub (pc := 7) (fm_dec dtX8_readBy 5 rfl) ?_
  refine pv_invV2 (k := 1) (d' := 2) (pc := 8) pcv_X8_113 (by decide) rfl (Nat.le_of_ble_eq_true rfl) (by decide) (fm_dec dtX8_readBy 6 rfl) ?_
  refine x_numC 0 ((D.1 : Int) - 1) (by decide) (by have h9 := sc_sub (x := M.1 13 9) (z := 1) (by have h8 : (1 : Int32).toInt = 1 := (by decide); have h7 : (M.1 13 9).toInt = (D.1 : Int) := hW.1.1; omega) (by have h8 : (1 : Int32).toInt = 1 := (by decide); have h7 : (M.1 13 9).toInt = (D.1 : Int) := hW.1.1; omega); have h8 : (1 : Int32).toInt = 1 := (by decide); have h7 : (M.1 13 9).toInt = (D.1 : Int) := hW.1.1; omega) (by omega) k0.1 k0.2.1 k0.2.2.2 (fun M8 a8 q8 w8 e8 hw8 k8 => ?_) (fun M8 kb ab e8 b8 => ?_)
  · refine pv_then1 ?_
    refine pv_istoren (pc := 11) (n := 2) 2 rfl (by decide) rfl (fm_dec dtX8_readBy 7 rfl) ?_
    dsimp only [List.set_cons_zero, List.set_cons_succ]
    refine pv_aloadn (pc := 12) (n := 1) 1 rfl rfl (fm_dec dtX8_readBy 8 rfl) ?_
    refine pv_invV0 (k := 1) (d' := 1) (pc := 13) pcv_X8_88 (by decide) rfl (Nat.le_of_ble_eq_true rfl) (by decide) (fm_dec dtX8_readBy 9 rfl) ?_
    refine x_next k8.1 k8.2.1 k8.2.2.2 (fun M13 x13 hx13 k13 => ?_)
    refine pv_then1 ?_
    refine pv_istoren (pc := 16) (n := 3) 3 rfl (by decide) rfl (fm_dec dtX8_readBy 10 rfl) ?_
    dsimp only [List.set_cons_zero, List.set_cons_succ]
    refine pv_aloadn (pc := 17) (n := 1) 1 rfl rfl (fm_dec dtX8_readBy 11 rfl) ?_
    refine pv_iconst (pc := 18) (v := 0) (by decide) (fm_dec dtX8_readBy 12 rfl) ?_
    refine pv_aloadn (pc := 19) (n := 0) 0 rfl rfl (fm_dec dtX8_readBy 13 rfl) ?_
    refine pv_getI (k := 13) (j := 9) (ci := 8) (pc := 20) pfl_X8_42 (by decide) rfl (by decide) (fm_dec dtX8_readBy 14 rfl) ?_
    refine pv_iconst (pc := 23) (v := 1) (by decide) (fm_dec dtX8_readBy 15 rfl) ?_
    refine pv_isub (pc := 24) (fm_dec dtX8_readBy 16 rfl) ?_
    refine pv_invV2 (k := 1) (d' := 2) (pc := 25) pcv_X8_113 (by decide) rfl (Nat.le_of_ble_eq_true rfl) (by decide) (fm_dec dtX8_readBy 17 rfl) ?_
    refine x_numC 0 ((D.1 : Int) - 1) (by decide) (by have h9 := sc_sub (x := M13.1 13 9) (z := 1) (by have h8 : (1 : Int32).toInt = 1 := (by decide); have h7 : (M13.1 13 9).toInt = (D.1 : Int) := ((hW.xd (k8.2.2.1.trans k13.2.2.1)).1.1); omega) (by have h8 : (1 : Int32).toInt = 1 := (by decide); have h7 : (M13.1 13 9).toInt = (D.1 : Int) := ((hW.xd (k8.2.2.1.trans k13.2.2.1)).1.1); omega); have h8 : (1 : Int32).toInt = 1 := (by decide); have h7 : (M13.1 13 9).toInt = (D.1 : Int) := ((hW.xd (k8.2.2.1.trans k13.2.2.1)).1.1); omega) (by omega) k13.1 k13.2.1 k13.2.2.2 (fun M25 a25 q25 w25 e25 hw25 k25 => ?_) (fun M25 kb ab e25 b25 => ?_)
    · refine pv_then1 ?_
      refine pv_istore (pc := 28) (i := 4) (by decide) rfl (fm_dec dtX8_readBy 18 rfl) ?_
      dsimp only [List.set_cons_zero, List.set_cons_succ]
      have e25 : spNum tx 0 ((D.1 : Int) - 1) q8 = .inr (a25, q25) := (by rw [spNum_sk ht k8.1.2.2.1] at e25; exact e25)
      have hW9 : xdw 13 M25 D := hW.xd (k8.2.2.1.trans (k13.2.2.1.trans k25.2.2.1))
      have n0 := spNum_ok ht hS.2.2.1 e8
      have n1 := spNum_ok ht k8.1.2.2.1 e25
      have hl8 := hD.1
      refine pv_iload (pc := 30) (i := 4) rfl (fm_dec dtX8_readBy 19 rfl) ?_
      refine pv_iloadn (pc := 32) (n := 2) 2 rfl rfl (fm_dec dtX8_readBy 20 rfl) ?_
      refine pv_icmp_ne (pc := 33) 43 (by decide) (fm_dec dtX8_readBy 21 rfl) (fun hc33 => ?_) (fun hc33 => ?_)
      · have hab : ¬ a8 = a25 := (by intro h9; apply hc33; exact i32_ext (by omega))
        refine pv_aloadn (pc := 43) (n := 1) 1 rfl rfl (fm_dec dtX8_readBy 27 rfl) ?_
        refine pv_invV0 (k := 1) (d' := 0) (pc := 44) pcv_X8_117 (by decide) rfl (Nat.le_of_ble_eq_true rfl) (by decide) (fm_dec dtX8_readBy 28 rfl) ?_
        refine c_xfailed (fun _ => ?_) (fun h9 => absurd k25.2.1 h9) 
        refine pv_then1 ?_
        refine pv_if_ne (pc := 47) 54 (by decide) (fm_dec dtX8_readBy 29 rfl) (fun hc47 => by exfalso; revert hc47; decide) (fun _ => ?_)
        refine pv_iloadn (pc := 50) (n := 2) 2 rfl rfl (fm_dec dtX8_readBy 30 rfl) ?_
        refine pv_if_ge (pc := 51) 56 (by decide) (fm_dec dtX8_readBy 31 rfl) (fun _ => ?_) (fun hc51 => by exfalso; rw [sc_le] at hc51; have h7 : (0 : Int32).toInt = 0 := (by decide); omega)
        refine pv_aloadn (pc := 56) (n := 0) 0 rfl rfl (fm_dec dtX8_readBy 34 rfl) ?_
        refine pv_getR (k := 13) (j := 5) (ci := 8) (pc := 57) 19 rfl (by decide) pfl_X8_27 (by decide) rfl (by decide) (fm_dec dtX8_readBy 35 rfl) ?_
        refine pv_iloadn (pc := 60) (n := 2) 2 rfl rfl (fm_dec dtX8_readBy 36 rfl) ?_
        refine pv_iload (pc := 61) (i := 4) rfl (fm_dec dtX8_readBy 37 rfl) ?_
        refine pv_iast (k := 19) (n := 8) (pc := 63) (by decide) rfl rfl (ix_in hw8 (by omega)) (fm_dec dtX8_readBy 38 rfl) ?_
        refine pv_iconst (pc := 64) (v := 1) (by decide) (fm_dec dtX8_readBy 39 rfl) ?_
        exact pv_zreturn (pc := 65) rfl (by first | exact Or.inr rfl | exact Or.inl rfl) (fm_dec dtX8_readBy 40 rfl) (hok _ _ _ (by unfold clBy; simp only [spBind, e8, e25, hab, if_false]) (st_tok (j := 5) (i := a8) (V := (a25 : Int)) ⟨k25.1, k25.2.1, k25.2.2.2, hW9, ((k8.2.2.1.trans (k13.2.2.1.trans k25.2.2.1))).df⟩ (Or.inr rfl) (by omega) hl8 hw8 hw25 (by omega) (Or.inl (by omega))))
      · refine pv_aloadn (pc := 36) (n := 1) 1 rfl rfl (fm_dec dtX8_readBy 22 rfl) ?_
        refine pv_iconst (pc := 37) (v := 2) (by decide) (fm_dec dtX8_readBy 23 rfl) ?_
        refine pv_iloadn (pc := 38) (n := 3) 3 rfl rfl (fm_dec dtX8_readBy 24 rfl) ?_
        refine pv_invV2 (k := 1) (d' := 0) (pc := 39) pcv_X8_84 (by decide) rfl (Nat.le_of_ble_eq_true rfl) (by decide) (fm_dec dtX8_readBy 25 rfl) ?_
        refine c_xfail0 k25.2.1 ?_
        refine pv_then1 ?_
        refine pv_pop (pc := 42) rfl (fm_dec dtX8_readBy 26 rfl) ?_
        have hab : a8 = a25 := (by have h9 := congrArg Int32.toInt hc33; omega)
        exact xf_readBy43 (xdBad.of0 k25 hx13 (sp_le tB_1 ht k8.1.2.2.1)) (by rw [fmI_k _ _ (by decide), fmI_k _ _ (by decide), ((k8.2.2.1.trans (k13.2.2.1.trans k25.2.2.1)).1 13 9 (by decide)).1]; exact h139) (fun M2 h2 => hbad M2 2 (sk tx q8) (by unfold clBy; simp only [spBind, e8, e25, hab, if_true]) (h2.fr (k8.2.2.1.trans k13.2.2.1)).tb)
    · refine pv_then1 ?_
      refine pv_istore (pc := 28) (i := 4) (by decide) rfl (fm_dec dtX8_readBy 18 rfl) ?_
      dsimp only [List.set_cons_zero, List.set_cons_succ]
      have e25 : spNum tx 0 ((D.1 : Int) - 1) q8 = .inl (kb, ab) := (by rw [spNum_sk ht k8.1.2.2.1] at e25; exact e25)
      exact xf_readBy30 b25 (by rw [((k8.2.2.1.trans (k13.2.2.1.trans b25.2.2.2.1)).1 13 9 (by decide)).1]; exact h139) (fun M2 h2 => hbad M2 kb ab (by unfold clBy; simp only [spBind, e8, e25]) (h2.fr (k8.2.2.1.trans k13.2.2.1)).tb)
  · refine pv_then1 ?_
    refine pv_istoren (pc := 11) (n := 2) 2 rfl (by decide) rfl (fm_dec dtX8_readBy 7 rfl) ?_
    dsimp only [List.set_cons_zero, List.set_cons_succ]
    exact xf_readBy12 b8 (by rw [(b8.2.2.2.1.1 13 9 (by decide)).1]; exact h139) (fun M2 h2 => hbad M2 kb ab (by unfold clBy; simp only [spBind, e8]) h2.tb)
theorem ru_tok {M0 M : fmM} {tx : tX} {n q k v : Nat} {D : dD} {x : Int32} (h : tok M0 M tx n q D) (hk : 2 ≤ k ∧ k ≤ 5) (hx : x.toInt = v) (hb : (scAt (invX 13) (9 + k)).1 ≤ x.toInt ∧ x.toInt ≤ (scAt (invX 13) (9 + k)).2) : tok M0 (fmI M 13 (9 + k) x) tx n q (D.1, D.2.1, D.2.2.1, D.2.2.2.1, fun k' => if k' = k then (v : Int) else D.2.2.2.2 k') := by
  obtain ⟨hS, hf, hI, ⟨⟨g1, g2, g3, g4, g5, g6⟩, g7, g8⟩, hF⟩ := h
  have hp : ∀ j, 2 ≤ j → j ≤ 5 → (M.1 13 (9 + j)).toInt = D.2.2.2.2 j → ((fmI M 13 (9 + k) x).1 13 (9 + j)).toInt = if j = k then (v : Int) else D.2.2.2.2 j := fun j _ _ e => by
    by_cases e9 : j = k
    · subst e9
      rw [if_pos rfl, fmI_s]
      exact hx
    · rw [if_neg e9, fmI_j _ _ (by omega)]
      exact e
  refine ⟨hS.of rfl rfl rfl, hf, xInv.put hI hb, ⟨⟨?_, ?_, hp 2 (by decide) (by decide) g3, hp 3 (by decide) (by decide) g4, hp 4 (by decide) (by decide) g5, hp 5 (by decide) (by decide) g6⟩, fun i hi j hj => ?_, fun i hi j hj => ?_⟩, hF.put (by decide)⟩
  · rw [fmI_j _ _ (by omega)]; exact g1
  · rw [fmI_j _ _ (by omega)]; exact g2
  · rw [fmI_k _ _ (by omega)]; exact g7 i hi j hj
  · rw [fmI_k _ _ (by omega)]; exact g8 i hi j hj
theorem ru_bad {M0 M : fmM} {k a j : Nat} {x : Int32} (h : xdBad M0 M k a) (hb : (scAt (invX 13) j).1 ≤ x.toInt ∧ x.toInt ≤ (scAt (invX 13) j).2) : tbad M0 (fmI M 13 j x) k a := ⟨h.1, h.2.1, h.2.2.1, h.2.2.2.1.df.put (by decide), xInv.put h.2.2.2.2 hb⟩
set_option maxRecDepth 20000 in
theorem x_rule4 {M : fmM} {Q : fmR → fmM → Prop} {tx : tX} {n p : Nat} {D : dD} (ht : tOk tx n) (hS : xS2 M tx n p) (hf : M.1 1 4 = 0) (hI : scInv Tx invX M) (hW : xdw 13 M D) (hD : dOk D) (hok : ∀ (M' : fmM) (D' : dD) (q : Nat), clRule tx D 2 p = .inr (D', q) → tok M M' tx n q D' → Q (.inl (some (.int 1))) M') (hbad : ∀ (M' : fmM) (k a : Nat), clRule tx D 2 p = .inl (k, a) → tbad M M' k a → Q (.inl (some (.int 0))) M') : pvGood Tx 3 qX8_readRule [.ref 13, .ref 1, .int 4] M Q := by
  refine pvGood_of (Nat.le_of_ble_eq_true rfl) ?_
  show pvEv Tx 3 qX8_readRule 0 [some (.ref 13), some (.ref 1), some (.int 4)] [] M Q
  have k0 : xdOk M M tx n p := ⟨hS, hf, xdFr.refl M, hI⟩
  have h139 : (M.1 13 9).toInt ≤ 8 ∧ 0 ≤ (M.1 13 9).toInt := (by have h8 := hW.1.1; have h7 := hD.1; exact ⟨by omega, by omega⟩)
  refine pv_iloadn (pc := 0) (n := 2) 2 rfl rfl (fm_dec dtX8_readRule 0 rfl) ?_
  refine pv_table (pc := 1) 28 (by decide) rfl (fm_dec dtX8_readRule 1 rfl) ?_
  refine pv_aloadn (pc := 28) (n := 0) 0 rfl rfl (fm_dec dtX8_readRule 2 rfl) ?_
  refine pv_aloadn (pc := 29) (n := 1) 1 rfl rfl (fm_dec dtX8_readRule 3 rfl) ?_
  refine pv_iconst (pc := 30) (v := 1) (by decide) (fm_dec dtX8_readRule 4 rfl) ?_
  refine pv_bipush (pc := 31) (v := 12) (by decide) (fm_dec dtX8_readRule 5 rfl) ?_
  refine pv_invV2 (k := 1) (d' := 2) (pc := 33) pcv_X8_113 (by decide) rfl (Nat.le_of_ble_eq_true rfl) (by decide) (fm_dec dtX8_readRule 6 rfl) ?_
  refine x_numC 1 12 (by decide) (by decide) (by decide) k0.1 k0.2.1 k0.2.2.2 (fun M33 a33 q33 w33 e33 hw33 k33 => ?_) (fun M33 kb ab e33 b33 => ?_)
  · refine pv_then1 ?_
    refine pv_putI (k := 13) (j := 11) (ci := 8) (pc := 36) pfl_X8_49 (by decide) rfl (by decide) (fm_dec dtX8_readRule 7 rfl) ?_
    refine pv_goto (pc := 39) 80 (by decide) (fm_dec dtX8_readRule 8 rfl) ?_
    refine pv_aloadn (pc := 80) (n := 1) 1 rfl rfl (fm_dec dtX8_readRule 29 rfl) ?_
    refine pv_invV0 (k := 1) (d' := 0) (pc := 81) pcv_X8_117 (by decide) rfl (Nat.le_of_ble_eq_true rfl) (by decide) (fm_dec dtX8_readRule 30 rfl) ?_
    refine c_xfailed (fun _ => ?_) (fun h9 => absurd k33.2.1 h9) 
    refine pv_then1 ?_
    refine pv_if_ne (pc := 84) 91 (by decide) (fm_dec dtX8_readRule 31 rfl) (fun hc84 => by exfalso; revert hc84; decide) (fun _ => ?_)
    refine pv_iconst (pc := 87) (v := 1) (by decide) (fm_dec dtX8_readRule 32 rfl) ?_
    refine pv_goto (pc := 88) 92 (by decide) (fm_dec dtX8_readRule 33 rfl) ?_
    exact pv_zreturn (pc := 92) rfl (by first | exact Or.inr rfl | exact Or.inl rfl) (fm_dec dtX8_readRule 35 rfl) (hok _ _ _ (by unfold clRule; have e8 : spNum tx (dLo 2) (dHi 2) p = .inr (a33, q33) := e33; simp only [spBind, e8]) (ru_tok (k := 2) ⟨k33.1, k33.2.1, k33.2.2.2, hW.xd k33.2.2.1, k33.2.2.1.df⟩ (by decide) hw33 (by have n0 := spNum_ok ht hS.2.2.1 e33; exact ⟨by show ((-1) : Int) ≤ _; omega, by show _ ≤ (12 : Int); omega⟩)))
  · refine pv_then1 ?_
    refine pv_putI (k := 13) (j := 11) (ci := 8) (pc := 36) pfl_X8_49 (by decide) rfl (by decide) (fm_dec dtX8_readRule 7 rfl) ?_
    refine pv_goto (pc := 39) 80 (by decide) (fm_dec dtX8_readRule 8 rfl) ?_
    refine pv_aloadn (pc := 80) (n := 1) 1 rfl rfl (fm_dec dtX8_readRule 29 rfl) ?_
    refine pv_invV0 (k := 1) (d' := 0) (pc := 81) pcv_X8_117 (by decide) rfl (Nat.le_of_ble_eq_true rfl) (by decide) (fm_dec dtX8_readRule 30 rfl) ?_
    refine c_xfailed (fun h9 => absurd h9 b33.nz) (fun _ => ?_) 
    refine pv_then1 ?_
    refine pv_if_ne (pc := 84) 91 (by decide) (fm_dec dtX8_readRule 31 rfl) (fun _ => ?_) (fun hc84 => by exfalso; revert hc84; decide)
    refine pv_iconst (pc := 91) (v := 0) (by decide) (fm_dec dtX8_readRule 34 rfl) ?_
    exact pv_zreturn (pc := 92) rfl (by first | exact Or.inr rfl | exact Or.inl rfl) (fm_dec dtX8_readRule 35 rfl) (hbad _ kb ab (by unfold clRule; have e8 : spNum tx (dLo 2) (dHi 2) p = .inl (kb, ab) := e33; simp only [spBind, e8]) (ru_bad b33 (by decide)))
set_option maxRecDepth 20000 in
theorem x_rule5 {M : fmM} {Q : fmR → fmM → Prop} {tx : tX} {n p : Nat} {D : dD} (ht : tOk tx n) (hS : xS2 M tx n p) (hf : M.1 1 4 = 0) (hI : scInv Tx invX M) (hW : xdw 13 M D) (hD : dOk D) (hok : ∀ (M' : fmM) (D' : dD) (q : Nat), clRule tx D 3 p = .inr (D', q) → tok M M' tx n q D' → Q (.inl (some (.int 1))) M') (hbad : ∀ (M' : fmM) (k a : Nat), clRule tx D 3 p = .inl (k, a) → tbad M M' k a → Q (.inl (some (.int 0))) M') : pvGood Tx 3 qX8_readRule [.ref 13, .ref 1, .int 5] M Q := by
  refine pvGood_of (Nat.le_of_ble_eq_true rfl) ?_
  show pvEv Tx 3 qX8_readRule 0 [some (.ref 13), some (.ref 1), some (.int 5)] [] M Q
  have k0 : xdOk M M tx n p := ⟨hS, hf, xdFr.refl M, hI⟩
  have h139 : (M.1 13 9).toInt ≤ 8 ∧ 0 ≤ (M.1 13 9).toInt := (by have h8 := hW.1.1; have h7 := hD.1; exact ⟨by omega, by omega⟩)
  refine pv_iloadn (pc := 0) (n := 2) 2 rfl rfl (fm_dec dtX8_readRule 0 rfl) ?_
  refine pv_table (pc := 1) 42 (by decide) rfl (fm_dec dtX8_readRule 1 rfl) ?_
  refine pv_aloadn (pc := 42) (n := 0) 0 rfl rfl (fm_dec dtX8_readRule 9 rfl) ?_
  refine pv_aloadn (pc := 43) (n := 1) 1 rfl rfl (fm_dec dtX8_readRule 10 rfl) ?_
  refine pv_iconst (pc := 44) (v := 0) (by decide) (fm_dec dtX8_readRule 11 rfl) ?_
  refine pv_bipush (pc := 45) (v := 9) (by decide) (fm_dec dtX8_readRule 12 rfl) ?_
  refine pv_invV2 (k := 1) (d' := 2) (pc := 47) pcv_X8_113 (by decide) rfl (Nat.le_of_ble_eq_true rfl) (by decide) (fm_dec dtX8_readRule 13 rfl) ?_
  refine x_numC 0 9 (by decide) (by decide) (by decide) k0.1 k0.2.1 k0.2.2.2 (fun M47 a47 q47 w47 e47 hw47 k47 => ?_) (fun M47 kb ab e47 b47 => ?_)
  · refine pv_then1 ?_
    refine pv_putI (k := 13) (j := 12) (ci := 8) (pc := 50) pfl_X8_52 (by decide) rfl (by decide) (fm_dec dtX8_readRule 14 rfl) ?_
    refine pv_goto (pc := 53) 80 (by decide) (fm_dec dtX8_readRule 15 rfl) ?_
    refine pv_aloadn (pc := 80) (n := 1) 1 rfl rfl (fm_dec dtX8_readRule 29 rfl) ?_
    refine pv_invV0 (k := 1) (d' := 0) (pc := 81) pcv_X8_117 (by decide) rfl (Nat.le_of_ble_eq_true rfl) (by decide) (fm_dec dtX8_readRule 30 rfl) ?_
    refine c_xfailed (fun _ => ?_) (fun h9 => absurd k47.2.1 h9) 
    refine pv_then1 ?_
    refine pv_if_ne (pc := 84) 91 (by decide) (fm_dec dtX8_readRule 31 rfl) (fun hc84 => by exfalso; revert hc84; decide) (fun _ => ?_)
    refine pv_iconst (pc := 87) (v := 1) (by decide) (fm_dec dtX8_readRule 32 rfl) ?_
    refine pv_goto (pc := 88) 92 (by decide) (fm_dec dtX8_readRule 33 rfl) ?_
    exact pv_zreturn (pc := 92) rfl (by first | exact Or.inr rfl | exact Or.inl rfl) (fm_dec dtX8_readRule 35 rfl) (hok _ _ _ (by unfold clRule; have e8 : spNum tx (dLo 3) (dHi 3) p = .inr (a47, q47) := e47; simp only [spBind, e8]) (ru_tok (k := 3) ⟨k47.1, k47.2.1, k47.2.2.2, hW.xd k47.2.2.1, k47.2.2.1.df⟩ (by decide) hw47 (by have n0 := spNum_ok ht hS.2.2.1 e47; exact ⟨by show ((-1) : Int) ≤ _; omega, by show _ ≤ (9 : Int); omega⟩)))
  · refine pv_then1 ?_
    refine pv_putI (k := 13) (j := 12) (ci := 8) (pc := 50) pfl_X8_52 (by decide) rfl (by decide) (fm_dec dtX8_readRule 14 rfl) ?_
    refine pv_goto (pc := 53) 80 (by decide) (fm_dec dtX8_readRule 15 rfl) ?_
    refine pv_aloadn (pc := 80) (n := 1) 1 rfl rfl (fm_dec dtX8_readRule 29 rfl) ?_
    refine pv_invV0 (k := 1) (d' := 0) (pc := 81) pcv_X8_117 (by decide) rfl (Nat.le_of_ble_eq_true rfl) (by decide) (fm_dec dtX8_readRule 30 rfl) ?_
    refine c_xfailed (fun h9 => absurd h9 b47.nz) (fun _ => ?_) 
    refine pv_then1 ?_
    refine pv_if_ne (pc := 84) 91 (by decide) (fm_dec dtX8_readRule 31 rfl) (fun _ => ?_) (fun hc84 => by exfalso; revert hc84; decide)
    refine pv_iconst (pc := 91) (v := 0) (by decide) (fm_dec dtX8_readRule 34 rfl) ?_
    exact pv_zreturn (pc := 92) rfl (by first | exact Or.inr rfl | exact Or.inl rfl) (fm_dec dtX8_readRule 35 rfl) (hbad _ kb ab (by unfold clRule; have e8 : spNum tx (dLo 3) (dHi 3) p = .inl (kb, ab) := e47; simp only [spBind, e8]) (ru_bad b47 (by decide)))
set_option maxRecDepth 20000 in
theorem x_rule6 {M : fmM} {Q : fmR → fmM → Prop} {tx : tX} {n p : Nat} {D : dD} (ht : tOk tx n) (hS : xS2 M tx n p) (hf : M.1 1 4 = 0) (hI : scInv Tx invX M) (hW : xdw 13 M D) (hD : dOk D) (hok : ∀ (M' : fmM) (D' : dD) (q : Nat), clRule tx D 4 p = .inr (D', q) → tok M M' tx n q D' → Q (.inl (some (.int 1))) M') (hbad : ∀ (M' : fmM) (k a : Nat), clRule tx D 4 p = .inl (k, a) → tbad M M' k a → Q (.inl (some (.int 0))) M') : pvGood Tx 3 qX8_readRule [.ref 13, .ref 1, .int 6] M Q := by
  refine pvGood_of (Nat.le_of_ble_eq_true rfl) ?_
  show pvEv Tx 3 qX8_readRule 0 [some (.ref 13), some (.ref 1), some (.int 6)] [] M Q
  have k0 : xdOk M M tx n p := ⟨hS, hf, xdFr.refl M, hI⟩
  have h139 : (M.1 13 9).toInt ≤ 8 ∧ 0 ≤ (M.1 13 9).toInt := (by have h8 := hW.1.1; have h7 := hD.1; exact ⟨by omega, by omega⟩)
  refine pv_iloadn (pc := 0) (n := 2) 2 rfl rfl (fm_dec dtX8_readRule 0 rfl) ?_
  refine pv_table (pc := 1) 56 (by decide) rfl (fm_dec dtX8_readRule 1 rfl) ?_
  refine pv_aloadn (pc := 56) (n := 0) 0 rfl rfl (fm_dec dtX8_readRule 16 rfl) ?_
  refine pv_aloadn (pc := 57) (n := 1) 1 rfl rfl (fm_dec dtX8_readRule 17 rfl) ?_
  refine pv_iconst (pc := 58) (v := 0) (by decide) (fm_dec dtX8_readRule 18 rfl) ?_
  refine pv_bipush (pc := 59) (v := 9) (by decide) (fm_dec dtX8_readRule 19 rfl) ?_
  refine pv_invV2 (k := 1) (d' := 2) (pc := 61) pcv_X8_113 (by decide) rfl (Nat.le_of_ble_eq_true rfl) (by decide) (fm_dec dtX8_readRule 20 rfl) ?_
  refine x_numC 0 9 (by decide) (by decide) (by decide) k0.1 k0.2.1 k0.2.2.2 (fun M61 a61 q61 w61 e61 hw61 k61 => ?_) (fun M61 kb ab e61 b61 => ?_)
  · refine pv_then1 ?_
    refine pv_putI (k := 13) (j := 13) (ci := 8) (pc := 64) pfl_X8_55 (by decide) rfl (by decide) (fm_dec dtX8_readRule 21 rfl) ?_
    refine pv_goto (pc := 67) 80 (by decide) (fm_dec dtX8_readRule 22 rfl) ?_
    refine pv_aloadn (pc := 80) (n := 1) 1 rfl rfl (fm_dec dtX8_readRule 29 rfl) ?_
    refine pv_invV0 (k := 1) (d' := 0) (pc := 81) pcv_X8_117 (by decide) rfl (Nat.le_of_ble_eq_true rfl) (by decide) (fm_dec dtX8_readRule 30 rfl) ?_
    refine c_xfailed (fun _ => ?_) (fun h9 => absurd k61.2.1 h9) 
    refine pv_then1 ?_
    refine pv_if_ne (pc := 84) 91 (by decide) (fm_dec dtX8_readRule 31 rfl) (fun hc84 => by exfalso; revert hc84; decide) (fun _ => ?_)
    refine pv_iconst (pc := 87) (v := 1) (by decide) (fm_dec dtX8_readRule 32 rfl) ?_
    refine pv_goto (pc := 88) 92 (by decide) (fm_dec dtX8_readRule 33 rfl) ?_
    exact pv_zreturn (pc := 92) rfl (by first | exact Or.inr rfl | exact Or.inl rfl) (fm_dec dtX8_readRule 35 rfl) (hok _ _ _ (by unfold clRule; have e8 : spNum tx (dLo 4) (dHi 4) p = .inr (a61, q61) := e61; simp only [spBind, e8]) (ru_tok (k := 4) ⟨k61.1, k61.2.1, k61.2.2.2, hW.xd k61.2.2.1, k61.2.2.1.df⟩ (by decide) hw61 (by have n0 := spNum_ok ht hS.2.2.1 e61; exact ⟨by show ((-1) : Int) ≤ _; omega, by show _ ≤ (9 : Int); omega⟩)))
  · refine pv_then1 ?_
    refine pv_putI (k := 13) (j := 13) (ci := 8) (pc := 64) pfl_X8_55 (by decide) rfl (by decide) (fm_dec dtX8_readRule 21 rfl) ?_
    refine pv_goto (pc := 67) 80 (by decide) (fm_dec dtX8_readRule 22 rfl) ?_
    refine pv_aloadn (pc := 80) (n := 1) 1 rfl rfl (fm_dec dtX8_readRule 29 rfl) ?_
    refine pv_invV0 (k := 1) (d' := 0) (pc := 81) pcv_X8_117 (by decide) rfl (Nat.le_of_ble_eq_true rfl) (by decide) (fm_dec dtX8_readRule 30 rfl) ?_
    refine c_xfailed (fun h9 => absurd h9 b61.nz) (fun _ => ?_) 
    refine pv_then1 ?_
    refine pv_if_ne (pc := 84) 91 (by decide) (fm_dec dtX8_readRule 31 rfl) (fun _ => ?_) (fun hc84 => by exfalso; revert hc84; decide)
    refine pv_iconst (pc := 91) (v := 0) (by decide) (fm_dec dtX8_readRule 34 rfl) ?_
    exact pv_zreturn (pc := 92) rfl (by first | exact Or.inr rfl | exact Or.inl rfl) (fm_dec dtX8_readRule 35 rfl) (hbad _ kb ab (by unfold clRule; have e8 : spNum tx (dLo 4) (dHi 4) p = .inl (kb, ab) := e61; simp only [spBind, e8]) (ru_bad b61 (by decide)))
set_option maxRecDepth 20000 in
theorem x_rule7 {M : fmM} {Q : fmR → fmM → Prop} {tx : tX} {n p : Nat} {D : dD} (ht : tOk tx n) (hS : xS2 M tx n p) (hf : M.1 1 4 = 0) (hI : scInv Tx invX M) (hW : xdw 13 M D) (hD : dOk D) (hok : ∀ (M' : fmM) (D' : dD) (q : Nat), clRule tx D 5 p = .inr (D', q) → tok M M' tx n q D' → Q (.inl (some (.int 1))) M') (hbad : ∀ (M' : fmM) (k a : Nat), clRule tx D 5 p = .inl (k, a) → tbad M M' k a → Q (.inl (some (.int 0))) M') : pvGood Tx 3 qX8_readRule [.ref 13, .ref 1, .int 7] M Q := by
  refine pvGood_of (Nat.le_of_ble_eq_true rfl) ?_
  show pvEv Tx 3 qX8_readRule 0 [some (.ref 13), some (.ref 1), some (.int 7)] [] M Q
  have k0 : xdOk M M tx n p := ⟨hS, hf, xdFr.refl M, hI⟩
  have h139 : (M.1 13 9).toInt ≤ 8 ∧ 0 ≤ (M.1 13 9).toInt := (by have h8 := hW.1.1; have h7 := hD.1; exact ⟨by omega, by omega⟩)
  refine pv_iloadn (pc := 0) (n := 2) 2 rfl rfl (fm_dec dtX8_readRule 0 rfl) ?_
  refine pv_table (pc := 1) 70 (by decide) rfl (fm_dec dtX8_readRule 1 rfl) ?_
  refine pv_aloadn (pc := 70) (n := 0) 0 rfl rfl (fm_dec dtX8_readRule 23 rfl) ?_
  refine pv_aloadn (pc := 71) (n := 1) 1 rfl rfl (fm_dec dtX8_readRule 24 rfl) ?_
  refine pv_iconst (pc := 72) (v := 1) (by decide) (fm_dec dtX8_readRule 25 rfl) ?_
  refine pv_iconst (pc := 73) (v := 4) (by decide) (fm_dec dtX8_readRule 26 rfl) ?_
  refine pv_invV2 (k := 1) (d' := 2) (pc := 74) pcv_X8_113 (by decide) rfl (Nat.le_of_ble_eq_true rfl) (by decide) (fm_dec dtX8_readRule 27 rfl) ?_
  refine x_numC 1 4 (by decide) (by decide) (by decide) k0.1 k0.2.1 k0.2.2.2 (fun M74 a74 q74 w74 e74 hw74 k74 => ?_) (fun M74 kb ab e74 b74 => ?_)
  · refine pv_then1 ?_
    refine pv_putI (k := 13) (j := 14) (ci := 8) (pc := 77) pfl_X8_58 (by decide) rfl (by decide) (fm_dec dtX8_readRule 28 rfl) ?_
    refine pv_aloadn (pc := 80) (n := 1) 1 rfl rfl (fm_dec dtX8_readRule 29 rfl) ?_
    refine pv_invV0 (k := 1) (d' := 0) (pc := 81) pcv_X8_117 (by decide) rfl (Nat.le_of_ble_eq_true rfl) (by decide) (fm_dec dtX8_readRule 30 rfl) ?_
    refine c_xfailed (fun _ => ?_) (fun h9 => absurd k74.2.1 h9) 
    refine pv_then1 ?_
    refine pv_if_ne (pc := 84) 91 (by decide) (fm_dec dtX8_readRule 31 rfl) (fun hc84 => by exfalso; revert hc84; decide) (fun _ => ?_)
    refine pv_iconst (pc := 87) (v := 1) (by decide) (fm_dec dtX8_readRule 32 rfl) ?_
    refine pv_goto (pc := 88) 92 (by decide) (fm_dec dtX8_readRule 33 rfl) ?_
    exact pv_zreturn (pc := 92) rfl (by first | exact Or.inr rfl | exact Or.inl rfl) (fm_dec dtX8_readRule 35 rfl) (hok _ _ _ (by unfold clRule; have e8 : spNum tx (dLo 5) (dHi 5) p = .inr (a74, q74) := e74; simp only [spBind, e8]) (ru_tok (k := 5) ⟨k74.1, k74.2.1, k74.2.2.2, hW.xd k74.2.2.1, k74.2.2.1.df⟩ (by decide) hw74 (by have n0 := spNum_ok ht hS.2.2.1 e74; exact ⟨by show ((-1) : Int) ≤ _; omega, by show _ ≤ (4 : Int); omega⟩)))
  · refine pv_then1 ?_
    refine pv_putI (k := 13) (j := 14) (ci := 8) (pc := 77) pfl_X8_58 (by decide) rfl (by decide) (fm_dec dtX8_readRule 28 rfl) ?_
    refine pv_aloadn (pc := 80) (n := 1) 1 rfl rfl (fm_dec dtX8_readRule 29 rfl) ?_
    refine pv_invV0 (k := 1) (d' := 0) (pc := 81) pcv_X8_117 (by decide) rfl (Nat.le_of_ble_eq_true rfl) (by decide) (fm_dec dtX8_readRule 30 rfl) ?_
    refine c_xfailed (fun h9 => absurd h9 b74.nz) (fun _ => ?_) 
    refine pv_then1 ?_
    refine pv_if_ne (pc := 84) 91 (by decide) (fm_dec dtX8_readRule 31 rfl) (fun _ => ?_) (fun hc84 => by exfalso; revert hc84; decide)
    refine pv_iconst (pc := 91) (v := 0) (by decide) (fm_dec dtX8_readRule 34 rfl) ?_
    exact pv_zreturn (pc := 92) rfl (by first | exact Or.inr rfl | exact Or.inl rfl) (fm_dec dtX8_readRule 35 rfl) (hbad _ kb ab (by unfold clRule; have e8 : spNum tx (dLo 5) (dHi 5) p = .inl (kb, ab) := e74; simp only [spBind, e8]) (ru_bad b74 (by decide)))
theorem cb_none {tx : tX} {c p : Nat} {D : dD} (h : dwK (wd tx (sk tx p)) = none) : cBody tx c D p = .inl (1, sk tx p) := by
  unfold cBody
  rw [h]
theorem cb_full {tx : tX} {c p k : Nat} {D : dD} (h : dwK (wd tx (sk tx p)) = some k) (hf : c = 60 ∨ (k = 0 ∧ D.1 = 8) ∨ (k = 1 ∧ D.2.2.1 = 24)) : cBody tx c D p = .inl (3, sk tx p) := by
  unfold cBody
  rw [h]
  exact if_pos hf
theorem cb_go {tx : tX} {c p k : Nat} {D : dD} (h : dwK (wd tx (sk tx p)) = some k) (hf : ¬ (c = 60 ∨ (k = 0 ∧ D.1 = 8) ∨ (k = 1 ∧ D.2.2.1 = 24))) : cBody tx c D p = clB tx D k (sp tW tx (sk tx p)) := by
  unfold cBody
  rw [h]
  exact if_neg hf
theorem xdBad.of3 {M M' : fmM} {tx : tX} {n q aa : Nat} {a : Int32} (h : xdOk M M' tx n q) (ha : a.toInt = aa) (h6 : aa ≤ n) : xdBad M (fmI (fmI M' 1 4 3) 1 5 a) 3 aa := ⟨(show (3 : Int32).toInt = ((3 : Nat) : Int) by decide), ha, by decide, ((h.2.2.1.set (Or.inr (Or.inl rfl))).set (Or.inr (Or.inr rfl))), xI_45 h.2.2.2 (kk := 3) (by decide) (by decide) ha h6 h.1.2.2.2.1.1⟩
set_option maxRecDepth 20000 in
theorem x_clause {M : fmM} {Q : fmR → fmM → Prop} {tx : tX} {n p : Nat} {D : dD} {c : Nat} {cc : Int32} (ht : tOk tx n) (hS : xS2 M tx n p) (hf : M.1 1 4 = 0) (hI : scInv Tx invX M) (hW : xdw 13 M D) (hD : dOk D) (hc : cc.toInt = (c : Int)) (hc6 : c ≤ 60) (hok : ∀ (M' : fmM) (D' : dD) (q : Nat), cBody tx c D p = .inr (D', q) → tok M M' tx n q D' → Q (.inl (some (.int 1))) M') (hbad : ∀ (M' : fmM) (k a : Nat), cBody tx c D p = .inl (k, a) → tbad M M' k a → Q (.inl (some (.int 0))) M') : pvGood Tx 6 qX8_readClause [.ref 13, .ref 1, .int cc] M Q := by
  refine pvGood_of (Nat.le_of_ble_eq_true rfl) ?_
  show pvEv Tx 6 qX8_readClause 0 [some (.ref 13), some (.ref 1), some (.int cc), none, none, none] [] M Q
  have k0 : xdOk M M tx n p := ⟨hS, hf, xdFr.refl M, hI⟩
  have h139 : (M.1 13 9).toInt ≤ 8 ∧ 0 ≤ (M.1 13 9).toInt := (by have h8 := hW.1.1; have h7 := hD.1; exact ⟨by omega, by omega⟩)
  have hsp : sk tx p ≤ n := sp_le tB_1 ht hS.2.2.1
  have z60 : (60 : Int32).toInt = 60 := (by decide)
  have z8 : (8 : Int32).toInt = 8 := (by decide)
  have z24 : (24 : Int32).toInt = 24 := (by decide)
  refine pv_aloadn (pc := 0) (n := 1) 1 rfl rfl (fm_dec dtX8_readClause 0 rfl) ?_
  refine pv_invV0 (k := 1) (d' := 1) (pc := 1) pcv_X8_88 (by decide) rfl (Nat.le_of_ble_eq_true rfl) (by decide) (fm_dec dtX8_readClause 1 rfl) ?_
  refine x_next hS hf hI (fun M1 x1 hx1 k1 => ?_)
  refine pv_then1 ?_
  refine pv_istoren (pc := 4) (n := 3) 3 rfl (by decide) rfl (fm_dec dtX8_readClause 2 rfl) ?_
  dsimp only [List.set_cons_zero, List.set_cons_succ]
  refine pv_aloadn (pc := 5) (n := 1) 1 rfl rfl (fm_dec dtX8_readClause 3 rfl) ?_
  refine pv_ldcT (i := 2) (pc := 6) pkn_X8_91 ptx_X8_91 (fm_dec dtX8_readClause 4 rfl) ?_
  refine pv_invV1 (k := 1) (d' := 5) (pc := 8) pcv_X8_93 (by decide) rfl (Nat.le_of_ble_eq_true rfl) (by decide) (fm_dec dtX8_readClause 5 rfl) ?_
  refine x_word (i5 := 2) (by decide) chs_2 wsTold_ok (by decide) k1.1 k1.2.1 k1.2.2.2 (fun M8 j8 w8 e8 hw8 k8 => ?_) (fun e8 M8 b8 => ?_)  
  · refine pv_then1 ?_
    refine pv_istore (pc := 11) (i := 4) (by decide) rfl (fm_dec dtX8_readClause 6 rfl) ?_
    dsimp only [List.set_cons_zero, List.set_cons_succ]
    rw [sk_sk ht hS.2.2.1] at e8
    rw [sk_sk ht hS.2.2.1] at k8
    have hdw := dwK_of e8
    have hW8 : xdw 13 M8 D := hW.xd ((k1.2.2.1.trans k8.2.2.1))
    have g9 : (M8.1 13 9).toInt = (D.1 : Int) := hW8.1.1
    have g10 : (M8.1 13 10).toInt = (D.2.2.1 : Int) := hW8.1.2.1
    have d8 := hD.1
    have d24 := hD.2.1
    refine pv_iload (pc := 13) (i := 4) rfl (fm_dec dtX8_readClause 7 rfl) ?_
    refine pv_iconst (pc := 15) (v := (-1)) (by decide) (fm_dec dtX8_readClause 8 rfl) ?_
    refine pv_icmp_ne (pc := 16) 21 (by decide) (fm_dec dtX8_readClause 9 rfl) (fun _ => ?_) (fun hc16 => by exfalso; have h9 := congrArg Int32.toInt hc16; have h8 : (-1 : Int32).toInt = -1 := (by decide); omega)
    refine pv_iloadn (pc := 21) (n := 2) 2 rfl rfl (fm_dec dtX8_readClause 12 rfl) ?_
    refine pv_bipush (pc := 22) (v := 60) (by decide) (fm_dec dtX8_readClause 13 rfl) ?_
    refine pv_icmp_ge (pc := 24) 56 (by decide) (fm_dec dtX8_readClause 14 rfl) (fun hc24 => ?_) (fun hc24 => ?_)
    · refine pv_iconst (pc := 56) (v := 1) (by decide) (fm_dec dtX8_readClause 28 rfl) ?_
      refine pv_goto (pc := 57) 61 (by decide) (fm_dec dtX8_readClause 29 rfl) ?_
      refine pv_istore (pc := 61) (i := 5) (by decide) rfl (fm_dec dtX8_readClause 31 rfl) ?_
      dsimp only [List.set_cons_zero, List.set_cons_succ]
      refine pv_iload (pc := 63) (i := 5) rfl (fm_dec dtX8_readClause 32 rfl) ?_
      refine pv_if_eq (pc := 65) 75 (by decide) (fm_dec dtX8_readClause 33 rfl) (fun hc65 => by exfalso; revert hc65; decide) (fun _ => ?_)
      refine pv_aloadn (pc := 68) (n := 1) 1 rfl rfl (fm_dec dtX8_readClause 34 rfl) ?_
      refine pv_iconst (pc := 69) (v := 3) (by decide) (fm_dec dtX8_readClause 35 rfl) ?_
      refine pv_iloadn (pc := 70) (n := 3) 3 rfl rfl (fm_dec dtX8_readClause 36 rfl) ?_
      refine pv_invV2 (k := 1) (d' := 0) (pc := 71) pcv_X8_84 (by decide) rfl (Nat.le_of_ble_eq_true rfl) (by decide) (fm_dec dtX8_readClause 37 rfl) ?_
      refine c_xfail0 k8.2.1 ?_
      refine pv_then1 ?_
      exact pv_zreturn (pc := 74) rfl (by first | exact Or.inr rfl | exact Or.inl rfl) (fm_dec dtX8_readClause 38 rfl) (hbad _ 3 (sk tx p) (cb_full hdw.1 (Or.inl (by rw [sc_le] at hc24; omega))) ((xdBad.of3 k8 hx1 hsp).fr k1.2.2.1).tb)
    · refine pv_iload (pc := 27) (i := 4) rfl (fm_dec dtX8_readClause 15 rfl) ?_
      refine pv_if_ne (pc := 29) 41 (by decide) (fm_dec dtX8_readClause 16 rfl) (fun hc29 => ?_) (fun hc29 => ?_)
      · refine pv_iload (pc := 41) (i := 4) rfl (fm_dec dtX8_readClause 21 rfl) ?_
        refine pv_iconst (pc := 43) (v := 3) (by decide) (fm_dec dtX8_readClause 22 rfl) ?_
        refine pv_icmp_ne (pc := 44) 60 (by decide) (fm_dec dtX8_readClause 23 rfl) (fun hc44 => ?_) (fun hc44 => ?_)
        · refine pv_iconst (pc := 60) (v := 0) (by decide) (fm_dec dtX8_readClause 30 rfl) ?_
          refine pv_istore (pc := 61) (i := 5) (by decide) rfl (fm_dec dtX8_readClause 31 rfl) ?_
          dsimp only [List.set_cons_zero, List.set_cons_succ]
          refine pv_iload (pc := 63) (i := 5) rfl (fm_dec dtX8_readClause 32 rfl) ?_
          refine pv_if_eq (pc := 65) 75 (by decide) (fm_dec dtX8_readClause 33 rfl) (fun _ => ?_) (fun hc65 => by exfalso; revert hc65; decide)
          have hj0 : ¬ j8 = 0 := (by intro h9; apply hc29; exact i32_ext (by have h6 : (0 : Int32).toInt = 0 := (by decide); omega))
          have hj3 : ¬ j8 = 3 := (by intro h9; apply hc44; exact i32_ext (by have h6 : (3 : Int32).toInt = 3 := (by decide); omega))
          have hcn : ¬ c = 60 := (by rw [sc_le] at hc24; omega)
          have hj8 := hdw.2
          have hjj : j8 = 1 ∨ j8 = 2 ∨ j8 = 4 ∨ j8 = 5 ∨ j8 = 6 ∨ j8 = 7 := (by omega)
          rcases hjj with rfl | rfl | rfl | rfl | rfl | rfl
          · have e4 : w8 = (1 : Int32) := i32_ext (hw8.trans (by decide))
            subst e4
            refine pv_iload (pc := 75) (i := 4) rfl (fm_dec dtX8_readClause 39 rfl) ?_
            refine pv_table (pc := 77) 114 (by decide) rfl (fm_dec dtX8_readClause 40 rfl) ?_
            refine pv_aloadn (pc := 114) (n := 0) 0 rfl rfl (fm_dec dtX8_readClause 45 rfl) ?_
            refine pv_aloadn (pc := 115) (n := 1) 1 rfl rfl (fm_dec dtX8_readClause 46 rfl) ?_
            refine pv_invV1 (k := 13) (d' := 3) (pc := 116) pcv_X8_101 (by decide) rfl (Nat.le_of_ble_eq_true rfl) (by decide) (fm_dec dtX8_readClause 47 rfl) ?_
            refine x_has ht k8.1 k8.2.1 k8.2.2.2 hW8 hD (fun M9 D9 q9 e h9 => ?_) (fun M9 kb ab e h9 => ?_)  
            · refine pv_then1 ?_
              exact pv_zreturn (pc := 119) rfl (by first | exact Or.inr rfl | exact Or.inl rfl) (fm_dec dtX8_readClause 48 rfl) (hok M9 D9 q9 (by rw [cb_go hdw.1 (by intro h9; have h8 : kkF 1 = 6 := (by decide); rcases h9 with h9 | h9 | h9 <;> omega)]; exact e) (h9.fr ((k1.2.2.1.trans k8.2.2.1)).df))
            · refine pv_then1 ?_
              exact pv_zreturn (pc := 119) rfl (by first | exact Or.inr rfl | exact Or.inl rfl) (fm_dec dtX8_readClause 48 rfl) (hbad M9 kb ab (by rw [cb_go hdw.1 (by intro h9; have h8 : kkF 1 = 6 := (by decide); rcases h9 with h9 | h9 | h9 <;> omega)]; exact e) (h9.fr ((k1.2.2.1.trans k8.2.2.1)).df))
          · have e4 : w8 = (2 : Int32) := i32_ext (hw8.trans (by decide))
            subst e4
            refine pv_iload (pc := 75) (i := 4) rfl (fm_dec dtX8_readClause 39 rfl) ?_
            refine pv_table (pc := 77) 120 (by decide) rfl (fm_dec dtX8_readClause 40 rfl) ?_
            refine pv_aloadn (pc := 120) (n := 0) 0 rfl rfl (fm_dec dtX8_readClause 49 rfl) ?_
            refine pv_aloadn (pc := 121) (n := 1) 1 rfl rfl (fm_dec dtX8_readClause 50 rfl) ?_
            refine pv_invV1 (k := 13) (d' := 3) (pc := 122) pcv_X8_104 (by decide) rfl (Nat.le_of_ble_eq_true rfl) (by decide) (fm_dec dtX8_readClause 51 rfl) ?_
            refine x_by ht k8.1 k8.2.1 k8.2.2.2 hW8 hD (fun M9 D9 q9 e h9 => ?_) (fun M9 kb ab e h9 => ?_)  
            · refine pv_then1 ?_
              exact pv_zreturn (pc := 125) rfl (by first | exact Or.inr rfl | exact Or.inl rfl) (fm_dec dtX8_readClause 52 rfl) (hok M9 D9 q9 (by rw [cb_go hdw.1 (by intro h9; have h8 : kkF 2 = 7 := (by decide); rcases h9 with h9 | h9 | h9 <;> omega)]; exact e) (h9.fr ((k1.2.2.1.trans k8.2.2.1)).df))
            · refine pv_then1 ?_
              exact pv_zreturn (pc := 125) rfl (by first | exact Or.inr rfl | exact Or.inl rfl) (fm_dec dtX8_readClause 52 rfl) (hbad M9 kb ab (by rw [cb_go hdw.1 (by intro h9; have h8 : kkF 2 = 7 := (by decide); rcases h9 with h9 | h9 | h9 <;> omega)]; exact e) (h9.fr ((k1.2.2.1.trans k8.2.2.1)).df))
          · have e4 : w8 = (4 : Int32) := i32_ext (hw8.trans (by decide))
            subst e4
            refine pv_iload (pc := 75) (i := 4) rfl (fm_dec dtX8_readClause 39 rfl) ?_
            refine pv_table (pc := 77) 132 (by decide) rfl (fm_dec dtX8_readClause 40 rfl) ?_
            refine pv_aloadn (pc := 132) (n := 0) 0 rfl rfl (fm_dec dtX8_readClause 57 rfl) ?_
            refine pv_aloadn (pc := 133) (n := 1) 1 rfl rfl (fm_dec dtX8_readClause 58 rfl) ?_
            refine pv_iload (pc := 134) (i := 4) rfl (fm_dec dtX8_readClause 59 rfl) ?_
            refine pv_invV2 (k := 13) (d' := 3) (pc := 136) pcv_X8_110 (by decide) rfl (Nat.le_of_ble_eq_true rfl) (by decide) (fm_dec dtX8_readClause 60 rfl) ?_
            refine x_rule4 ht k8.1 k8.2.1 k8.2.2.2 hW8 hD (fun M9 D9 q9 e h9 => ?_) (fun M9 kb ab e h9 => ?_)  
            · refine pv_then1 ?_
              exact pv_zreturn (pc := 139) rfl (by first | exact Or.inr rfl | exact Or.inl rfl) (fm_dec dtX8_readClause 61 rfl) (hok M9 D9 q9 (by rw [cb_go hdw.1 (by intro h9; have h8 : kkF 4 = 2 := (by decide); rcases h9 with h9 | h9 | h9 <;> omega)]; exact e) (h9.fr ((k1.2.2.1.trans k8.2.2.1)).df))
            · refine pv_then1 ?_
              exact pv_zreturn (pc := 139) rfl (by first | exact Or.inr rfl | exact Or.inl rfl) (fm_dec dtX8_readClause 61 rfl) (hbad M9 kb ab (by rw [cb_go hdw.1 (by intro h9; have h8 : kkF 4 = 2 := (by decide); rcases h9 with h9 | h9 | h9 <;> omega)]; exact e) (h9.fr ((k1.2.2.1.trans k8.2.2.1)).df))
          · have e4 : w8 = (5 : Int32) := i32_ext (hw8.trans (by decide))
            subst e4
            refine pv_iload (pc := 75) (i := 4) rfl (fm_dec dtX8_readClause 39 rfl) ?_
            refine pv_table (pc := 77) 132 (by decide) rfl (fm_dec dtX8_readClause 40 rfl) ?_
            refine pv_aloadn (pc := 132) (n := 0) 0 rfl rfl (fm_dec dtX8_readClause 57 rfl) ?_
            refine pv_aloadn (pc := 133) (n := 1) 1 rfl rfl (fm_dec dtX8_readClause 58 rfl) ?_
            refine pv_iload (pc := 134) (i := 4) rfl (fm_dec dtX8_readClause 59 rfl) ?_
            refine pv_invV2 (k := 13) (d' := 3) (pc := 136) pcv_X8_110 (by decide) rfl (Nat.le_of_ble_eq_true rfl) (by decide) (fm_dec dtX8_readClause 60 rfl) ?_
            refine x_rule5 ht k8.1 k8.2.1 k8.2.2.2 hW8 hD (fun M9 D9 q9 e h9 => ?_) (fun M9 kb ab e h9 => ?_)  
            · refine pv_then1 ?_
              exact pv_zreturn (pc := 139) rfl (by first | exact Or.inr rfl | exact Or.inl rfl) (fm_dec dtX8_readClause 61 rfl) (hok M9 D9 q9 (by rw [cb_go hdw.1 (by intro h9; have h8 : kkF 5 = 3 := (by decide); rcases h9 with h9 | h9 | h9 <;> omega)]; exact e) (h9.fr ((k1.2.2.1.trans k8.2.2.1)).df))
            · refine pv_then1 ?_
              exact pv_zreturn (pc := 139) rfl (by first | exact Or.inr rfl | exact Or.inl rfl) (fm_dec dtX8_readClause 61 rfl) (hbad M9 kb ab (by rw [cb_go hdw.1 (by intro h9; have h8 : kkF 5 = 3 := (by decide); rcases h9 with h9 | h9 | h9 <;> omega)]; exact e) (h9.fr ((k1.2.2.1.trans k8.2.2.1)).df))
          · have e4 : w8 = (6 : Int32) := i32_ext (hw8.trans (by decide))
            subst e4
            refine pv_iload (pc := 75) (i := 4) rfl (fm_dec dtX8_readClause 39 rfl) ?_
            refine pv_table (pc := 77) 132 (by decide) rfl (fm_dec dtX8_readClause 40 rfl) ?_
            refine pv_aloadn (pc := 132) (n := 0) 0 rfl rfl (fm_dec dtX8_readClause 57 rfl) ?_
            refine pv_aloadn (pc := 133) (n := 1) 1 rfl rfl (fm_dec dtX8_readClause 58 rfl) ?_
            refine pv_iload (pc := 134) (i := 4) rfl (fm_dec dtX8_readClause 59 rfl) ?_
            refine pv_invV2 (k := 13) (d' := 3) (pc := 136) pcv_X8_110 (by decide) rfl (Nat.le_of_ble_eq_true rfl) (by decide) (fm_dec dtX8_readClause 60 rfl) ?_
            refine x_rule6 ht k8.1 k8.2.1 k8.2.2.2 hW8 hD (fun M9 D9 q9 e h9 => ?_) (fun M9 kb ab e h9 => ?_)  
            · refine pv_then1 ?_
              exact pv_zreturn (pc := 139) rfl (by first | exact Or.inr rfl | exact Or.inl rfl) (fm_dec dtX8_readClause 61 rfl) (hok M9 D9 q9 (by rw [cb_go hdw.1 (by intro h9; have h8 : kkF 6 = 4 := (by decide); rcases h9 with h9 | h9 | h9 <;> omega)]; exact e) (h9.fr ((k1.2.2.1.trans k8.2.2.1)).df))
            · refine pv_then1 ?_
              exact pv_zreturn (pc := 139) rfl (by first | exact Or.inr rfl | exact Or.inl rfl) (fm_dec dtX8_readClause 61 rfl) (hbad M9 kb ab (by rw [cb_go hdw.1 (by intro h9; have h8 : kkF 6 = 4 := (by decide); rcases h9 with h9 | h9 | h9 <;> omega)]; exact e) (h9.fr ((k1.2.2.1.trans k8.2.2.1)).df))
          · have e4 : w8 = (7 : Int32) := i32_ext (hw8.trans (by decide))
            subst e4
            refine pv_iload (pc := 75) (i := 4) rfl (fm_dec dtX8_readClause 39 rfl) ?_
            refine pv_table (pc := 77) 132 (by decide) rfl (fm_dec dtX8_readClause 40 rfl) ?_
            refine pv_aloadn (pc := 132) (n := 0) 0 rfl rfl (fm_dec dtX8_readClause 57 rfl) ?_
            refine pv_aloadn (pc := 133) (n := 1) 1 rfl rfl (fm_dec dtX8_readClause 58 rfl) ?_
            refine pv_iload (pc := 134) (i := 4) rfl (fm_dec dtX8_readClause 59 rfl) ?_
            refine pv_invV2 (k := 13) (d' := 3) (pc := 136) pcv_X8_110 (by decide) rfl (Nat.le_of_ble_eq_true rfl) (by decide) (fm_dec dtX8_readClause 60 rfl) ?_
            refine x_rule7 ht k8.1 k8.2.1 k8.2.2.2 hW8 hD (fun M9 D9 q9 e h9 => ?_) (fun M9 kb ab e h9 => ?_)  
            · refine pv_then1 ?_
              exact pv_zreturn (pc := 139) rfl (by first | exact Or.inr rfl | exact Or.inl rfl) (fm_dec dtX8_readClause 61 rfl) (hok M9 D9 q9 (by rw [cb_go hdw.1 (by intro h9; have h8 : kkF 7 = 5 := (by decide); rcases h9 with h9 | h9 | h9 <;> omega)]; exact e) (h9.fr ((k1.2.2.1.trans k8.2.2.1)).df))
            · refine pv_then1 ?_
              exact pv_zreturn (pc := 139) rfl (by first | exact Or.inr rfl | exact Or.inl rfl) (fm_dec dtX8_readClause 61 rfl) (hbad M9 kb ab (by rw [cb_go hdw.1 (by intro h9; have h8 : kkF 7 = 5 := (by decide); rcases h9 with h9 | h9 | h9 <;> omega)]; exact e) (h9.fr ((k1.2.2.1.trans k8.2.2.1)).df))
        · refine pv_aloadn (pc := 47) (n := 0) 0 rfl rfl (fm_dec dtX8_readClause 24 rfl) ?_
          refine pv_getI (k := 13) (j := 10) (ci := 8) (pc := 48) pfl_X8_46 (by decide) rfl (by decide) (fm_dec dtX8_readClause 25 rfl) ?_
          refine pv_bipush (pc := 51) (v := 24) (by decide) (fm_dec dtX8_readClause 26 rfl) ?_
          refine pv_icmp_lt (pc := 53) 60 (by decide) (fm_dec dtX8_readClause 27 rfl) (fun hc53 => ?_) (fun hc53 => ?_)
          · refine pv_iconst (pc := 60) (v := 0) (by decide) (fm_dec dtX8_readClause 30 rfl) ?_
            refine pv_istore (pc := 61) (i := 5) (by decide) rfl (fm_dec dtX8_readClause 31 rfl) ?_
            dsimp only [List.set_cons_zero, List.set_cons_succ]
            refine pv_iload (pc := 63) (i := 5) rfl (fm_dec dtX8_readClause 32 rfl) ?_
            refine pv_if_eq (pc := 65) 75 (by decide) (fm_dec dtX8_readClause 33 rfl) (fun _ => ?_) (fun hc65 => by exfalso; revert hc65; decide)
            have hj3 : j8 = 3 := (by have h7 := congrArg Int32.toInt hc44; have h6 : (3 : Int32).toInt = 3 := (by decide); omega)
            have hcn : ¬ c = 60 := (by rw [sc_le] at hc24; omega)
            have h24 : D.2.2.1 < 24 := (by rw [sc_lt] at hc53; omega)
            have hjj : j8 = 3 := (by omega)
            subst hjj
            have e4 : w8 = (3 : Int32) := i32_ext (hw8.trans (by decide))
            subst e4
            refine pv_iload (pc := 75) (i := 4) rfl (fm_dec dtX8_readClause 39 rfl) ?_
            refine pv_table (pc := 77) 126 (by decide) rfl (fm_dec dtX8_readClause 40 rfl) ?_
            refine pv_aloadn (pc := 126) (n := 0) 0 rfl rfl (fm_dec dtX8_readClause 53 rfl) ?_
            refine pv_aloadn (pc := 127) (n := 1) 1 rfl rfl (fm_dec dtX8_readClause 54 rfl) ?_
            refine pv_invV1 (k := 13) (d' := 3) (pc := 128) pcv_X8_107 (by decide) rfl (Nat.le_of_ble_eq_true rfl) (by decide) (fm_dec dtX8_readClause 55 rfl) ?_
            refine x_fact ht k8.1 k8.2.1 k8.2.2.2 hW8 hD (by omega) (fun M9 D9 q9 e h9 => ?_) (fun M9 kb ab e h9 => ?_)  
            · refine pv_then1 ?_
              exact pv_zreturn (pc := 131) rfl (by first | exact Or.inr rfl | exact Or.inl rfl) (fm_dec dtX8_readClause 56 rfl) (hok M9 D9 q9 (by rw [cb_go hdw.1 (by intro h9; have h8 : kkF 3 = 1 := (by decide); rcases h9 with h9 | h9 | h9 <;> omega)]; exact e) (h9.fr ((k1.2.2.1.trans k8.2.2.1)).df))
            · refine pv_then1 ?_
              exact pv_zreturn (pc := 131) rfl (by first | exact Or.inr rfl | exact Or.inl rfl) (fm_dec dtX8_readClause 56 rfl) (hbad M9 kb ab (by rw [cb_go hdw.1 (by intro h9; have h8 : kkF 3 = 1 := (by decide); rcases h9 with h9 | h9 | h9 <;> omega)]; exact e) (h9.fr ((k1.2.2.1.trans k8.2.2.1)).df))
          · refine pv_iconst (pc := 56) (v := 1) (by decide) (fm_dec dtX8_readClause 28 rfl) ?_
            refine pv_goto (pc := 57) 61 (by decide) (fm_dec dtX8_readClause 29 rfl) ?_
            refine pv_istore (pc := 61) (i := 5) (by decide) rfl (fm_dec dtX8_readClause 31 rfl) ?_
            dsimp only [List.set_cons_zero, List.set_cons_succ]
            refine pv_iload (pc := 63) (i := 5) rfl (fm_dec dtX8_readClause 32 rfl) ?_
            refine pv_if_eq (pc := 65) 75 (by decide) (fm_dec dtX8_readClause 33 rfl) (fun hc65 => by exfalso; revert hc65; decide) (fun _ => ?_)
            refine pv_aloadn (pc := 68) (n := 1) 1 rfl rfl (fm_dec dtX8_readClause 34 rfl) ?_
            refine pv_iconst (pc := 69) (v := 3) (by decide) (fm_dec dtX8_readClause 35 rfl) ?_
            refine pv_iloadn (pc := 70) (n := 3) 3 rfl rfl (fm_dec dtX8_readClause 36 rfl) ?_
            refine pv_invV2 (k := 1) (d' := 0) (pc := 71) pcv_X8_84 (by decide) rfl (Nat.le_of_ble_eq_true rfl) (by decide) (fm_dec dtX8_readClause 37 rfl) ?_
            refine c_xfail0 k8.2.1 ?_
            refine pv_then1 ?_
            exact pv_zreturn (pc := 74) rfl (by first | exact Or.inr rfl | exact Or.inl rfl) (fm_dec dtX8_readClause 38 rfl) (hbad _ 3 (sk tx p) (cb_full hdw.1 (Or.inr (Or.inr ⟨by have h8 : j8 = 3 := (by have h7 := congrArg Int32.toInt hc44; have h6 : (3 : Int32).toInt = 3 := (by decide); omega); subst h8; decide, by rw [sc_lt] at hc53; omega⟩))) ((xdBad.of3 k8 hx1 hsp).fr k1.2.2.1).tb)
      · refine pv_aloadn (pc := 32) (n := 0) 0 rfl rfl (fm_dec dtX8_readClause 17 rfl) ?_
        refine pv_getI (k := 13) (j := 9) (ci := 8) (pc := 33) pfl_X8_42 (by decide) rfl (by decide) (fm_dec dtX8_readClause 18 rfl) ?_
        refine pv_bipush (pc := 36) (v := 8) (by decide) (fm_dec dtX8_readClause 19 rfl) ?_
        refine pv_icmp_ge (pc := 38) 56 (by decide) (fm_dec dtX8_readClause 20 rfl) (fun hc38 => ?_) (fun hc38 => ?_)
        · refine pv_iconst (pc := 56) (v := 1) (by decide) (fm_dec dtX8_readClause 28 rfl) ?_
          refine pv_goto (pc := 57) 61 (by decide) (fm_dec dtX8_readClause 29 rfl) ?_
          refine pv_istore (pc := 61) (i := 5) (by decide) rfl (fm_dec dtX8_readClause 31 rfl) ?_
          dsimp only [List.set_cons_zero, List.set_cons_succ]
          refine pv_iload (pc := 63) (i := 5) rfl (fm_dec dtX8_readClause 32 rfl) ?_
          refine pv_if_eq (pc := 65) 75 (by decide) (fm_dec dtX8_readClause 33 rfl) (fun hc65 => by exfalso; revert hc65; decide) (fun _ => ?_)
          refine pv_aloadn (pc := 68) (n := 1) 1 rfl rfl (fm_dec dtX8_readClause 34 rfl) ?_
          refine pv_iconst (pc := 69) (v := 3) (by decide) (fm_dec dtX8_readClause 35 rfl) ?_
          refine pv_iloadn (pc := 70) (n := 3) 3 rfl rfl (fm_dec dtX8_readClause 36 rfl) ?_
          refine pv_invV2 (k := 1) (d' := 0) (pc := 71) pcv_X8_84 (by decide) rfl (Nat.le_of_ble_eq_true rfl) (by decide) (fm_dec dtX8_readClause 37 rfl) ?_
          refine c_xfail0 k8.2.1 ?_
          refine pv_then1 ?_
          exact pv_zreturn (pc := 74) rfl (by first | exact Or.inr rfl | exact Or.inl rfl) (fm_dec dtX8_readClause 38 rfl) (hbad _ 3 (sk tx p) (cb_full hdw.1 (Or.inr (Or.inl ⟨by have h8 : j8 = 0 := (by have h7 := congrArg Int32.toInt hc29; have h6 : (0 : Int32).toInt = 0 := (by decide); omega); subst h8; decide, by rw [sc_le] at hc38; omega⟩))) ((xdBad.of3 k8 hx1 hsp).fr k1.2.2.1).tb)
        · refine pv_iload (pc := 41) (i := 4) rfl (fm_dec dtX8_readClause 21 rfl) ?_
          refine pv_iconst (pc := 43) (v := 3) (by decide) (fm_dec dtX8_readClause 22 rfl) ?_
          refine pv_icmp_ne (pc := 44) 60 (by decide) (fm_dec dtX8_readClause 23 rfl) (fun _ => ?_) (fun hc44 => by exfalso; have h9 := congrArg Int32.toInt hc44; have h9 : w8.toInt = 3 := h9; have h8 := congrArg Int32.toInt hc29; have h7 : (0 : Int32).toInt = 0 := (by decide); omega)
          refine pv_iconst (pc := 60) (v := 0) (by decide) (fm_dec dtX8_readClause 30 rfl) ?_
          refine pv_istore (pc := 61) (i := 5) (by decide) rfl (fm_dec dtX8_readClause 31 rfl) ?_
          dsimp only [List.set_cons_zero, List.set_cons_succ]
          refine pv_iload (pc := 63) (i := 5) rfl (fm_dec dtX8_readClause 32 rfl) ?_
          refine pv_if_eq (pc := 65) 75 (by decide) (fm_dec dtX8_readClause 33 rfl) (fun _ => ?_) (fun hc65 => by exfalso; revert hc65; decide)
          have hj0 : j8 = 0 := (by have h7 := congrArg Int32.toInt hc29; have h6 : (0 : Int32).toInt = 0 := (by decide); omega)
          have hcn : ¬ c = 60 := (by rw [sc_le] at hc24; omega)
          have h8l : D.1 < 8 := (by rw [sc_le] at hc38; omega)
          have hjj : j8 = 0 := (by omega)
          subst hjj
          have e4 : w8 = (0 : Int32) := i32_ext (hw8.trans (by decide))
          subst e4
          refine pv_iload (pc := 75) (i := 4) rfl (fm_dec dtX8_readClause 39 rfl) ?_
          refine pv_table (pc := 77) 108 (by decide) rfl (fm_dec dtX8_readClause 40 rfl) ?_
          refine pv_aloadn (pc := 108) (n := 0) 0 rfl rfl (fm_dec dtX8_readClause 41 rfl) ?_
          refine pv_aloadn (pc := 109) (n := 1) 1 rfl rfl (fm_dec dtX8_readClause 42 rfl) ?_
          refine pv_invV1 (k := 13) (d' := 3) (pc := 110) pcv_X8_97 (by decide) rfl (Nat.le_of_ble_eq_true rfl) (by decide) (fm_dec dtX8_readClause 43 rfl) ?_
          refine x_life ht k8.1 k8.2.1 k8.2.2.2 hW8 hD (by omega) (fun M9 D9 q9 e h9 => ?_) (fun M9 kb ab e h9 => ?_)  
          · refine pv_then1 ?_
            exact pv_zreturn (pc := 113) rfl (by first | exact Or.inr rfl | exact Or.inl rfl) (fm_dec dtX8_readClause 44 rfl) (hok M9 D9 q9 (by rw [cb_go hdw.1 (by intro h9; have h8 : kkF 0 = 0 := (by decide); rcases h9 with h9 | h9 | h9 <;> omega)]; exact e) (h9.fr ((k1.2.2.1.trans k8.2.2.1)).df))
          · refine pv_then1 ?_
            exact pv_zreturn (pc := 113) rfl (by first | exact Or.inr rfl | exact Or.inl rfl) (fm_dec dtX8_readClause 44 rfl) (hbad M9 kb ab (by rw [cb_go hdw.1 (by intro h9; have h8 : kkF 0 = 0 := (by decide); rcases h9 with h9 | h9 | h9 <;> omega)]; exact e) (h9.fr ((k1.2.2.1.trans k8.2.2.1)).df))
  · refine pv_then1 ?_
    refine pv_istore (pc := 11) (i := 4) (by decide) rfl (fm_dec dtX8_readClause 6 rfl) ?_
    dsimp only [List.set_cons_zero, List.set_cons_succ]
    rw [sk_sk ht hS.2.2.1] at e8 b8
    refine pv_iload (pc := 13) (i := 4) rfl (fm_dec dtX8_readClause 7 rfl) ?_
    refine pv_iconst (pc := 15) (v := (-1)) (by decide) (fm_dec dtX8_readClause 8 rfl) ?_
    refine pv_icmp_ne (pc := 16) 21 (by decide) (fm_dec dtX8_readClause 9 rfl) (fun hc16 => by exfalso; revert hc16; decide) (fun _ => ?_)
    refine pv_iconst (pc := 19) (v := 0) (by decide) (fm_dec dtX8_readClause 10 rfl) ?_
    exact pv_zreturn (pc := 20) rfl (by first | exact Or.inr rfl | exact Or.inl rfl) (fm_dec dtX8_readClause 11 rfl) (hbad _ 1 (sk tx p) (cb_none (dwK_no e8)) (b8.fr k1.2.2.1).tb)
end
-- P 18m
section
-- THE CLASS'S DRAWER, exactly
theorem kp_in12 {k j : Nat} (h : 3 ≤ k) (h' : k < 3 + 10) : kpIn ([(3, 12)], []) k j = true := by
  simp only [kpIn, List.any_cons, List.any_nil, Bool.or_eq_true, Bool.and_eq_true, Nat.ble_eq, Bool.false_eq_true, or_false]
  omega
theorem kp_df {M M' : fmM} (h : dfFr M M') : kpt PXk M M' := fun k j hk => by
  have h9 := kpx_k hk
  exact (h.1 k j (by omega) (by omega)).1
def clrM (M : fmM) : fmM := fmI (fmI (fmI (fmI (fmI (fmI M 13 9 0) 13 10 0) 13 11 8) 13 12 5) 13 13 3) 13 14 2
theorem clr_ok {M : fmM} {tx : tX} {n : Nat} (hS : xS2 M tx n 0) (hI : scInv Tx invX M) : xS2 (clrM M) tx n 0 ∧ scInv Tx invX (clrM M) ∧ xdw 13 (clrM M) dD0 ∧ dfFr M (clrM M) := by
  refine ⟨hS.of rfl rfl rfl, ?_, ⟨⟨?_, ?_, ?_, ?_, ?_, ?_⟩, fun i h => (by cases h), fun i h => (by cases h)⟩, (((((((dfFr.refl M).put (by decide)).put (by decide)).put (by decide)).put (by decide)).put (by decide)).put (by decide))⟩
  · exact xInv.put (xInv.put (xInv.put (xInv.put (xInv.put (xInv.put hI (by decide)) (by decide)) (by decide)) (by decide)) (by decide)) (by decide)
  · show (0 : Int32).toInt = ((0 : Nat) : Int)
    decide
  · show (0 : Int32).toInt = ((0 : Nat) : Int)
    decide
  · show (8 : Int32).toInt = dD0.2.2.2.2 2
    decide
  · show (5 : Int32).toInt = dD0.2.2.2.2 3
    decide
  · show (3 : Int32).toInt = dD0.2.2.2.2 4
    decide
  · show (2 : Int32).toInt = dD0.2.2.2.2 5
    decide
theorem cb_60 {tx : tX} {c p q : Nat} {D D' : dD} (h : cBody tx c D p = .inr (D', q)) : ¬ c = 60 := by
  intro e
  subst e
  unfold cBody at h
  split at h
  · cases h
  · rw [if_pos (Or.inl rfl)] at h
    cases h
def xdEnd (M M' : fmM) (D : dD) : Prop := xdw 13 M' D ∧ dOk D ∧ M'.1 1 4 = 0 ∧ dfFr M M' ∧ scInv Tx invX M'
set_option maxRecDepth 20000 in
theorem c_xtclear {M : fmM} {Q : fmR → fmM → Prop}  (hq : Q (.inl none) (clrM M)) : pvGood Tx 0 qX8_clear [.ref 13] M Q := by
  refine pvGood_of (Nat.le_of_ble_eq_true rfl) ?_
  show pvEv Tx 0 qX8_clear 0 [some (.ref 13)] [] M Q
  refine pv_aloadn (pc := 0) (n := 0) 0 rfl rfl (fm_dec dtX8_clear 0 rfl) ?_
  refine pv_iconst (pc := 1) (v := 0) (by decide) (fm_dec dtX8_clear 1 rfl) ?_
  refine pv_putI (k := 13) (j := 9) (ci := 8) (pc := 2) pfl_X8_42 (by decide) rfl (by decide) (fm_dec dtX8_clear 2 rfl) ?_
  refine pv_aloadn (pc := 5) (n := 0) 0 rfl rfl (fm_dec dtX8_clear 3 rfl) ?_
  refine pv_iconst (pc := 6) (v := 0) (by decide) (fm_dec dtX8_clear 4 rfl) ?_
  refine pv_putI (k := 13) (j := 10) (ci := 8) (pc := 7) pfl_X8_46 (by decide) rfl (by decide) (fm_dec dtX8_clear 5 rfl) ?_
  refine pv_aloadn (pc := 10) (n := 0) 0 rfl rfl (fm_dec dtX8_clear 6 rfl) ?_
  refine pv_bipush (pc := 11) (v := 8) (by decide) (fm_dec dtX8_clear 7 rfl) ?_
  refine pv_putI (k := 13) (j := 11) (ci := 8) (pc := 13) pfl_X8_49 (by decide) rfl (by decide) (fm_dec dtX8_clear 8 rfl) ?_
  refine pv_aloadn (pc := 16) (n := 0) 0 rfl rfl (fm_dec dtX8_clear 9 rfl) ?_
  refine pv_iconst (pc := 17) (v := 5) (by decide) (fm_dec dtX8_clear 10 rfl) ?_
  refine pv_putI (k := 13) (j := 12) (ci := 8) (pc := 18) pfl_X8_52 (by decide) rfl (by decide) (fm_dec dtX8_clear 11 rfl) ?_
  refine pv_aloadn (pc := 21) (n := 0) 0 rfl rfl (fm_dec dtX8_clear 12 rfl) ?_
  refine pv_iconst (pc := 22) (v := 3) (by decide) (fm_dec dtX8_clear 13 rfl) ?_
  refine pv_putI (k := 13) (j := 13) (ci := 8) (pc := 23) pfl_X8_55 (by decide) rfl (by decide) (fm_dec dtX8_clear 14 rfl) ?_
  refine pv_aloadn (pc := 26) (n := 0) 0 rfl rfl (fm_dec dtX8_clear 15 rfl) ?_
  refine pv_iconst (pc := 27) (v := 2) (by decide) (fm_dec dtX8_clear 16 rfl) ?_
  refine pv_putI (k := 13) (j := 14) (ci := 8) (pc := 28) pfl_X8_58 (by decide) rfl (by decide) (fm_dec dtX8_clear 17 rfl) ?_
  exact pv_return (pc := 31) rfl (fm_dec dtX8_clear 18 rfl) hq
set_option maxRecDepth 20000 in
theorem xd_loop {Q : fmR → fmM → Prop} {tx : tX} {n : Nat} {M0 : fmM} (ht : tOk tx n) : ∀ (m : Nat) (M : fmM) (D : dD) (c p : Nat) (cc : Int32), xS2 M tx n p → M.1 1 4 = 0 → scInv Tx invX M → xdw 13 M D → dOk D → dfFr M0 M → cc.toInt = (c : Int) → c ≤ 60 → ¬ dwL tx n m c D (sk tx p) = .inl (9, 0) → (∀ (M2 : fmM) (D2 : dD), dwL tx n m c D (sk tx p) = .inr D2 → xdEnd M0 M2 D2 → Q (.inl (some (.int 1))) M2) → (∀ (M2 : fmM) (k a : Nat), dwL tx n m c D (sk tx p) = .inl (k, a) → tbad M0 M2 k a → Q (.inl (some (.int 0))) M2) → pvEv Tx 7 qX8_read 6 [some (.ref 13), some (.ref 1), some (.int cc)] [] M Q := by
  intro m
  induction m using Nat.strongRecOn with
  | _ m ih =>
    intro M D c p cc hS hf hI hW hD hF hcc hc60 hne hok hbad
    obtain ⟨f, rfl⟩ : ∃ f, m = f + 1 := (by cases m with | zero => exact absurd rfl hne | succ f => exact ⟨f, rfl⟩)
    refine pv_iloadn (pc := 6) (n := 2) 2 rfl rfl (fm_dec dtX8_read 4 rfl) ?_
    refine pv_bipush (pc := 7) (v := 60) (by decide) (fm_dec dtX8_read 5 rfl) ?_
    refine pv_icmp_gt (pc := 9) 48 (by decide) (fm_dec dtX8_read 6 rfl) (fun hc9 => by exfalso; rw [sc_lt] at hc9; have h7 : (60 : Int32).toInt = 60 := (by decide); omega) (fun _ => ?_)
    refine pv_aloadn (pc := 12) (n := 1) 1 rfl rfl (fm_dec dtX8_read 7 rfl) ?_
    refine pv_invV0 (k := 1) (d' := 0) (pc := 13) pcv_X8_67 (by decide) rfl (Nat.le_of_ble_eq_true rfl) (by decide) (fm_dec dtX8_read 8 rfl) ?_
    refine x_peek hS hf hI (fun M13 v13 hv13 k13 => ?_)
    refine pv_then1 ?_
    refine pv_iconst (pc := 16) (v := (-1)) (by decide) (fm_dec dtX8_read 9 rfl) ?_
    refine pv_icmp_ne (pc := 17) 22 (by decide) (fm_dec dtX8_read 10 rfl) (fun hc17 => ?_) (fun hc17 => ?_)
    · have hsp : sk tx p ≤ n := sp_le tB_1 ht hS.2.2.1
      have hnp : ¬ n ≤ sk tx p := (fun h9 => hc17 (i32_ext (by rw [hv13, ht.2.1 _ h9]; decide)))
      refine pv_aloadn (pc := 22) (n := 0) 0 rfl rfl (fm_dec dtX8_read 13 rfl) ?_
      refine pv_aloadn (pc := 23) (n := 1) 1 rfl rfl (fm_dec dtX8_read 14 rfl) ?_
      refine pv_iloadn (pc := 24) (n := 2) 2 rfl rfl (fm_dec dtX8_read 15 rfl) ?_
      refine pv_invV2 (k := 13) (d' := 6) (pc := 25) pcv_X8_73 (by decide) rfl (Nat.le_of_ble_eq_true rfl) (by decide) (fm_dec dtX8_read 16 rfl) ?_
      refine x_clause ht k13.1 k13.2.1 k13.2.2.2 (hW.xd k13.2.2.1) hD hcc hc60 (fun M25 D25 q25 e25 t25 => ?_) (fun M25 kb ab e25 b25 => ?_)  
      · refine pv_then1 ?_
        refine pv_if_eq (pc := 28) 40 (by decide) (fm_dec dtX8_read 17 rfl) (fun hc28 => by exfalso; revert hc28; decide) (fun _ => ?_)
        refine pv_aloadn (pc := 31) (n := 1) 1 rfl rfl (fm_dec dtX8_read 18 rfl) ?_
        refine pv_bipush (pc := 32) (v := 59) (by decide) (fm_dec dtX8_read 19 rfl) ?_
        refine pv_invV1 (k := 1) (d' := 1) (pc := 34) pcv_X8_77 (by decide) rfl (Nat.le_of_ble_eq_true rfl) (by decide) (fm_dec dtX8_read 20 rfl) ?_
        refine x_signC 59 (by decide) (by decide) t25.1 t25.2.1 t25.2.2.1 (fun M34 q34 e34 k34 => ?_) (fun M34 kb ab e34 b34 => ?_)
        · refine pv_then1 ?_
          refine pv_if_ne (pc := 37) 42 (by decide) (fm_dec dtX8_read 21 rfl) (fun _ => ?_) (fun hc37 => by exfalso; revert hc37; decide)
          refine pv_iincc (pc := 42) 2 1 (by decide) rfl (by decide) rfl (fm_dec dtX8_read 24 rfl) ?_
          dsimp only [List.set_cons_zero, List.set_cons_succ]
          refine pv_goto (pc := 45) 6 (by decide) (fm_dec dtX8_read 25 rfl) ?_
          have eC : spClause tx c D (sk tx p) = .inr (D25, q34) := (by rw [spClause_B, e25]; show spBind (spSign tx 59 q25) _ = _; rw [e34]; rfl)
          have hD9 := (spClause_ok ht hsp hD eC).1
          have e9 := dwL_2 (f := f) hnp eC
          rw [e9] at hne hok hbad
          have hc9 := cb_60 e25
          exact ih f (by omega) M34 D25 (c + 1) q34 _ k34.1 k34.2.1 k34.2.2.2 (t25.2.2.2.1.xd k34.2.2.1) hD9 (hF.trans (k13.2.2.1.df.trans (t25.2.2.2.2.trans k34.2.2.1.df))) (i32_p1 hcc (by omega)) (by omega) hne hok hbad
        · refine pv_then1 ?_
          refine pv_if_ne (pc := 37) 42 (by decide) (fm_dec dtX8_read 21 rfl) (fun hc37 => by exfalso; revert hc37; decide) (fun _ => ?_)
          refine pv_iconst (pc := 40) (v := 0) (by decide) (fm_dec dtX8_read 22 rfl) ?_
          exact pv_zreturn (pc := 41) rfl (by first | exact Or.inr rfl | exact Or.inl rfl) (fm_dec dtX8_read 23 rfl) (hbad _ kb ab (dwL_1 hnp (by rw [spClause_B, e25]; show spBind (spSign tx 59 q25) _ = _; rw [e34]; rfl)) ((b34.tb).fr (hF.trans (k13.2.2.1.df.trans t25.2.2.2.2))))
      · refine pv_then1 ?_
        refine pv_if_eq (pc := 28) 40 (by decide) (fm_dec dtX8_read 17 rfl) (fun _ => ?_) (fun hc28 => by exfalso; revert hc28; decide)
        refine pv_iconst (pc := 40) (v := 0) (by decide) (fm_dec dtX8_read 22 rfl) ?_
        exact pv_zreturn (pc := 41) rfl (by first | exact Or.inr rfl | exact Or.inl rfl) (fm_dec dtX8_read 23 rfl) (hbad _ kb ab (dwL_1 hnp (by rw [spClause_B, e25]; rfl)) (b25.fr (hF.trans k13.2.2.1.df)))
    · have hnp : n ≤ sk tx p := (by by_cases h9 : n ≤ sk tx p; exact h9; exfalso; have h8 := ht.2.2 (sk tx p) (by omega); rw [hc17] at hv13; have h7 : (-1 : Int32).toInt = -1 := (by decide); omega)
      refine pv_iconst (pc := 20) (v := 1) (by decide) (fm_dec dtX8_read 11 rfl) ?_
      exact pv_zreturn (pc := 21) rfl (by first | exact Or.inr rfl | exact Or.inl rfl) (fm_dec dtX8_read 12 rfl) (hok _ D (dwL_0 hnp) ⟨hW.xd k13.2.2.1, hD, k13.2.1, hF.trans k13.2.2.1.df, k13.2.2.2⟩)
set_option maxRecDepth 20000 in
theorem c_xdread {M : fmM} {Q : fmR → fmM → Prop} {tx : tX} {n : Nat} (hS : xS2 M tx n 0) (hf : M.1 1 4 = 0) (hI : scInv Tx invX M) (hok : ∀ (M2 : fmM) (D2 : dD), spDrawer tx n = .inr D2 → xdEnd M M2 D2 → Q (.inl (some (.int 1))) M2) (hbad : ∀ (M2 : fmM) (k a : Nat), spDrawer tx n = .inl (k, a) → tbad M M2 k a → Q (.inl (some (.int 0))) M2) : pvGood Tx 7 qX8_read [.ref 13, .ref 1] M Q := by
  refine pvGood_of (Nat.le_of_ble_eq_true rfl) ?_
  show pvEv Tx 7 qX8_read 0 [some (.ref 13), some (.ref 1), none] [] M Q
  refine pv_aloadn (pc := 0) (n := 0) 0 rfl rfl (fm_dec dtX8_read 0 rfl) ?_
  refine pv_invV0 (k := 13) (d' := 0) (pc := 1) pcv_X8_39 (by decide) rfl (Nat.le_of_ble_eq_true rfl) (by decide) (fm_dec dtX8_read 1 rfl) ?_
  refine c_xtclear ?_
  refine pv_then0 ?_
  refine pv_iconst (pc := 4) (v := 0) (by decide) (fm_dec dtX8_read 2 rfl) ?_
  refine pv_istoren (pc := 5) (n := 2) 2 rfl (by decide) rfl (fm_dec dtX8_read 3 rfl) ?_
  dsimp only [List.set_cons_zero, List.set_cons_succ]
  have ht := hS.2.2.2.1
  have h0 := clr_ok hS hI
  exact xd_loop ht 700 (clrM M) dD0 0 0 _ h0.1 hf h0.2.1 h0.2.2.1 dOk_0 h0.2.2.2 (by decide) (by decide) (dwL_fuel ht 700 0 dD0 (sk tx 0) (sp_le tB_1 ht (Nat.zero_le _)) dOk_0 (by have := ht.1; omega) 0) hok hbad
def cpA (M : fmM) (k1 k0 : Nat) (n : Int32) : fmM := fmA M k1 (va_cpy (M.1 k0) (M.1 k1) (Int32.toNatClampNeg 0) (Int32.toNatClampNeg 0) n.toNatClampNeg)
def cpS (M : fmM) (j : Nat) : fmM := fmI M 3 j (M.1 13 j)
def cpM (M : fmM) : fmM := (cpS (cpS (cpS (cpS (cpS (cpS (cpA (cpA (cpA (cpA (cpA (cpA (cpA (cpA (cpA M 4 14 8) 5 15 8) 6 16 8) 7 17 8) 8 18 8) 9 19 8) 10 20 24) 11 21 24) 12 22 24) 9) 10) 11) 12) 13) 14)
theorem cp_ok {M : fmM} {D : dD} (h : xdw 13 M D) (hD : dOk D) : xdw 3 (cpM M) D := by
  obtain ⟨⟨h1, h2, h3, h4, h5, h6⟩, h7, h8⟩ := h
  have d8 := hD.1
  have d24 := hD.2.1
  refine ⟨⟨h1, h2, h3, h4, h5, h6⟩, fun i hi j hj => ?_, fun i hi j hj => ?_⟩
  · match j, hj with
    | 0, _ =>
      show (va_cpy (M.1 14) (M.1 4) 0 0 8 i).toInt = _
      rw [scq_cpy, if_pos (by omega)]
      exact h7 i hi 0 (by decide)
    | 1, _ =>
      show (va_cpy (M.1 15) (M.1 5) 0 0 8 i).toInt = _
      rw [scq_cpy, if_pos (by omega)]
      exact h7 i hi 1 (by decide)
    | 2, _ =>
      show (va_cpy (M.1 16) (M.1 6) 0 0 8 i).toInt = _
      rw [scq_cpy, if_pos (by omega)]
      exact h7 i hi 2 (by decide)
    | 3, _ =>
      show (va_cpy (M.1 17) (M.1 7) 0 0 8 i).toInt = _
      rw [scq_cpy, if_pos (by omega)]
      exact h7 i hi 3 (by decide)
    | 4, _ =>
      show (va_cpy (M.1 18) (M.1 8) 0 0 8 i).toInt = _
      rw [scq_cpy, if_pos (by omega)]
      exact h7 i hi 4 (by decide)
    | 5, _ =>
      show (va_cpy (M.1 19) (M.1 9) 0 0 8 i).toInt = _
      rw [scq_cpy, if_pos (by omega)]
      exact h7 i hi 5 (by decide)
    | j + 6, h => omega
  · match j, hj with
    | 0, _ =>
      show (va_cpy (M.1 20) (M.1 10) 0 0 24 i).toInt = _
      rw [scq_cpy, if_pos (by omega)]
      exact h8 i hi 0 (by decide)
    | 1, _ =>
      show (va_cpy (M.1 21) (M.1 11) 0 0 24 i).toInt = _
      rw [scq_cpy, if_pos (by omega)]
      exact h8 i hi 1 (by decide)
    | 2, _ =>
      show (va_cpy (M.1 22) (M.1 12) 0 0 24 i).toInt = _
      rw [scq_cpy, if_pos (by omega)]
      exact h8 i hi 2 (by decide)
    | j + 3, h => omega
set_option maxRecDepth 20000 in
theorem c_xcopy {M : fmM} {Q : fmR → fmM → Prop}  (hq : Q (.inl none) (cpM M)) : pvGood Tx 0 qX8_copyFrom [.ref 3, .ref 13] M Q := by
  refine pvGood_of (Nat.le_of_ble_eq_true rfl) ?_
  show pvEv Tx 0 qX8_copyFrom 0 [some (.ref 3), some (.ref 13)] [] M Q
  refine pv_aloadn (pc := 0) (n := 1) 1 rfl rfl (fm_dec dtX8_copyFrom 0 rfl) ?_
  refine pv_getR (k := 13) (j := 0) (ci := 8) (pc := 1) 14 rfl (by decide) pfl_X8_9 (by decide) rfl (by decide) (fm_dec dtX8_copyFrom 1 rfl) ?_
  refine pv_iconst (pc := 4) (v := 0) (by decide) (fm_dec dtX8_copyFrom 2 rfl) ?_
  refine pv_aloadn (pc := 5) (n := 0) 0 rfl rfl (fm_dec dtX8_copyFrom 3 rfl) ?_
  refine pv_getR (k := 3) (j := 0) (ci := 8) (pc := 6) 4 rfl (by decide) pfl_X8_9 (by decide) rfl (by decide) (fm_dec dtX8_copyFrom 4 rfl) ?_
  refine pv_iconst (pc := 9) (v := 0) (by decide) (fm_dec dtX8_copyFrom 5 rfl) ?_
  refine pv_bipush (pc := 10) (v := 8) (by decide) (fm_dec dtX8_copyFrom 6 rfl) ?_
  refine pv_copy (k0 := 14) (k1 := 4) (n0 := 8) (n1 := 8) (pc := 12) pcm_X8_61 pcc_X8_61 (by decide) rfl rfl (by decide) rfl rfl (by decide) (by decide) (by decide) (by decide) (by decide) (Nat.le_of_ble_eq_true rfl) (fm_dec dtX8_copyFrom 7 rfl) ?_
  show pvEv Tx 0 qX8_copyFrom _ _ _ (cpA M 4 14 8) Q
  refine pv_aloadn (pc := 15) (n := 1) 1 rfl rfl (fm_dec dtX8_copyFrom 8 rfl) ?_
  refine pv_getR (k := 13) (j := 1) (ci := 8) (pc := 16) 15 rfl (by decide) pfl_X8_15 (by decide) rfl (by decide) (fm_dec dtX8_copyFrom 9 rfl) ?_
  refine pv_iconst (pc := 19) (v := 0) (by decide) (fm_dec dtX8_copyFrom 10 rfl) ?_
  refine pv_aloadn (pc := 20) (n := 0) 0 rfl rfl (fm_dec dtX8_copyFrom 11 rfl) ?_
  refine pv_getR (k := 3) (j := 1) (ci := 8) (pc := 21) 5 rfl (by decide) pfl_X8_15 (by decide) rfl (by decide) (fm_dec dtX8_copyFrom 12 rfl) ?_
  refine pv_iconst (pc := 24) (v := 0) (by decide) (fm_dec dtX8_copyFrom 13 rfl) ?_
  refine pv_bipush (pc := 25) (v := 8) (by decide) (fm_dec dtX8_copyFrom 14 rfl) ?_
  refine pv_copy (k0 := 15) (k1 := 5) (n0 := 8) (n1 := 8) (pc := 27) pcm_X8_61 pcc_X8_61 (by decide) rfl rfl (by decide) rfl rfl (by decide) (by decide) (by decide) (by decide) (by decide) (Nat.le_of_ble_eq_true rfl) (fm_dec dtX8_copyFrom 15 rfl) ?_
  show pvEv Tx 0 qX8_copyFrom _ _ _ (cpA (cpA M 4 14 8) 5 15 8) Q
  refine pv_aloadn (pc := 30) (n := 1) 1 rfl rfl (fm_dec dtX8_copyFrom 16 rfl) ?_
  refine pv_getR (k := 13) (j := 2) (ci := 8) (pc := 31) 16 rfl (by decide) pfl_X8_18 (by decide) rfl (by decide) (fm_dec dtX8_copyFrom 17 rfl) ?_
  refine pv_iconst (pc := 34) (v := 0) (by decide) (fm_dec dtX8_copyFrom 18 rfl) ?_
  refine pv_aloadn (pc := 35) (n := 0) 0 rfl rfl (fm_dec dtX8_copyFrom 19 rfl) ?_
  refine pv_getR (k := 3) (j := 2) (ci := 8) (pc := 36) 6 rfl (by decide) pfl_X8_18 (by decide) rfl (by decide) (fm_dec dtX8_copyFrom 20 rfl) ?_
  refine pv_iconst (pc := 39) (v := 0) (by decide) (fm_dec dtX8_copyFrom 21 rfl) ?_
  refine pv_bipush (pc := 40) (v := 8) (by decide) (fm_dec dtX8_copyFrom 22 rfl) ?_
  refine pv_copy (k0 := 16) (k1 := 6) (n0 := 8) (n1 := 8) (pc := 42) pcm_X8_61 pcc_X8_61 (by decide) rfl rfl (by decide) rfl rfl (by decide) (by decide) (by decide) (by decide) (by decide) (Nat.le_of_ble_eq_true rfl) (fm_dec dtX8_copyFrom 23 rfl) ?_
  show pvEv Tx 0 qX8_copyFrom _ _ _ (cpA (cpA (cpA M 4 14 8) 5 15 8) 6 16 8) Q
  refine pv_aloadn (pc := 45) (n := 1) 1 rfl rfl (fm_dec dtX8_copyFrom 24 rfl) ?_
  refine pv_getR (k := 13) (j := 3) (ci := 8) (pc := 46) 17 rfl (by decide) pfl_X8_21 (by decide) rfl (by decide) (fm_dec dtX8_copyFrom 25 rfl) ?_
  refine pv_iconst (pc := 49) (v := 0) (by decide) (fm_dec dtX8_copyFrom 26 rfl) ?_
  refine pv_aloadn (pc := 50) (n := 0) 0 rfl rfl (fm_dec dtX8_copyFrom 27 rfl) ?_
  refine pv_getR (k := 3) (j := 3) (ci := 8) (pc := 51) 7 rfl (by decide) pfl_X8_21 (by decide) rfl (by decide) (fm_dec dtX8_copyFrom 28 rfl) ?_
  refine pv_iconst (pc := 54) (v := 0) (by decide) (fm_dec dtX8_copyFrom 29 rfl) ?_
  refine pv_bipush (pc := 55) (v := 8) (by decide) (fm_dec dtX8_copyFrom 30 rfl) ?_
  refine pv_copy (k0 := 17) (k1 := 7) (n0 := 8) (n1 := 8) (pc := 57) pcm_X8_61 pcc_X8_61 (by decide) rfl rfl (by decide) rfl rfl (by decide) (by decide) (by decide) (by decide) (by decide) (Nat.le_of_ble_eq_true rfl) (fm_dec dtX8_copyFrom 31 rfl) ?_
  show pvEv Tx 0 qX8_copyFrom _ _ _ (cpA (cpA (cpA (cpA M 4 14 8) 5 15 8) 6 16 8) 7 17 8) Q
  refine pv_aloadn (pc := 60) (n := 1) 1 rfl rfl (fm_dec dtX8_copyFrom 32 rfl) ?_
  refine pv_getR (k := 13) (j := 4) (ci := 8) (pc := 61) 18 rfl (by decide) pfl_X8_24 (by decide) rfl (by decide) (fm_dec dtX8_copyFrom 33 rfl) ?_
  refine pv_iconst (pc := 64) (v := 0) (by decide) (fm_dec dtX8_copyFrom 34 rfl) ?_
  refine pv_aloadn (pc := 65) (n := 0) 0 rfl rfl (fm_dec dtX8_copyFrom 35 rfl) ?_
  refine pv_getR (k := 3) (j := 4) (ci := 8) (pc := 66) 8 rfl (by decide) pfl_X8_24 (by decide) rfl (by decide) (fm_dec dtX8_copyFrom 36 rfl) ?_
  refine pv_iconst (pc := 69) (v := 0) (by decide) (fm_dec dtX8_copyFrom 37 rfl) ?_
  refine pv_bipush (pc := 70) (v := 8) (by decide) (fm_dec dtX8_copyFrom 38 rfl) ?_
  refine pv_copy (k0 := 18) (k1 := 8) (n0 := 8) (n1 := 8) (pc := 72) pcm_X8_61 pcc_X8_61 (by decide) rfl rfl (by decide) rfl rfl (by decide) (by decide) (by decide) (by decide) (by decide) (Nat.le_of_ble_eq_true rfl) (fm_dec dtX8_copyFrom 39 rfl) ?_
  show pvEv Tx 0 qX8_copyFrom _ _ _ (cpA (cpA (cpA (cpA (cpA M 4 14 8) 5 15 8) 6 16 8) 7 17 8) 8 18 8) Q
  refine pv_aloadn (pc := 75) (n := 1) 1 rfl rfl (fm_dec dtX8_copyFrom 40 rfl) ?_
  refine pv_getR (k := 13) (j := 5) (ci := 8) (pc := 76) 19 rfl (by decide) pfl_X8_27 (by decide) rfl (by decide) (fm_dec dtX8_copyFrom 41 rfl) ?_
  refine pv_iconst (pc := 79) (v := 0) (by decide) (fm_dec dtX8_copyFrom 42 rfl) ?_
  refine pv_aloadn (pc := 80) (n := 0) 0 rfl rfl (fm_dec dtX8_copyFrom 43 rfl) ?_
  refine pv_getR (k := 3) (j := 5) (ci := 8) (pc := 81) 9 rfl (by decide) pfl_X8_27 (by decide) rfl (by decide) (fm_dec dtX8_copyFrom 44 rfl) ?_
  refine pv_iconst (pc := 84) (v := 0) (by decide) (fm_dec dtX8_copyFrom 45 rfl) ?_
  refine pv_bipush (pc := 85) (v := 8) (by decide) (fm_dec dtX8_copyFrom 46 rfl) ?_
  refine pv_copy (k0 := 19) (k1 := 9) (n0 := 8) (n1 := 8) (pc := 87) pcm_X8_61 pcc_X8_61 (by decide) rfl rfl (by decide) rfl rfl (by decide) (by decide) (by decide) (by decide) (by decide) (Nat.le_of_ble_eq_true rfl) (fm_dec dtX8_copyFrom 47 rfl) ?_
  show pvEv Tx 0 qX8_copyFrom _ _ _ (cpA (cpA (cpA (cpA (cpA (cpA M 4 14 8) 5 15 8) 6 16 8) 7 17 8) 8 18 8) 9 19 8) Q
  refine pv_aloadn (pc := 90) (n := 1) 1 rfl rfl (fm_dec dtX8_copyFrom 48 rfl) ?_
  refine pv_getR (k := 13) (j := 6) (ci := 8) (pc := 91) 20 rfl (by decide) pfl_X8_30 (by decide) rfl (by decide) (fm_dec dtX8_copyFrom 49 rfl) ?_
  refine pv_iconst (pc := 94) (v := 0) (by decide) (fm_dec dtX8_copyFrom 50 rfl) ?_
  refine pv_aloadn (pc := 95) (n := 0) 0 rfl rfl (fm_dec dtX8_copyFrom 51 rfl) ?_
  refine pv_getR (k := 3) (j := 6) (ci := 8) (pc := 96) 10 rfl (by decide) pfl_X8_30 (by decide) rfl (by decide) (fm_dec dtX8_copyFrom 52 rfl) ?_
  refine pv_iconst (pc := 99) (v := 0) (by decide) (fm_dec dtX8_copyFrom 53 rfl) ?_
  refine pv_bipush (pc := 100) (v := 24) (by decide) (fm_dec dtX8_copyFrom 54 rfl) ?_
  refine pv_copy (k0 := 20) (k1 := 10) (n0 := 24) (n1 := 24) (pc := 102) pcm_X8_61 pcc_X8_61 (by decide) rfl rfl (by decide) rfl rfl (by decide) (by decide) (by decide) (by decide) (by decide) (Nat.le_of_ble_eq_true rfl) (fm_dec dtX8_copyFrom 55 rfl) ?_
  show pvEv Tx 0 qX8_copyFrom _ _ _ (cpA (cpA (cpA (cpA (cpA (cpA (cpA M 4 14 8) 5 15 8) 6 16 8) 7 17 8) 8 18 8) 9 19 8) 10 20 24) Q
  refine pv_aloadn (pc := 105) (n := 1) 1 rfl rfl (fm_dec dtX8_copyFrom 56 rfl) ?_
  refine pv_getR (k := 13) (j := 7) (ci := 8) (pc := 106) 21 rfl (by decide) pfl_X8_33 (by decide) rfl (by decide) (fm_dec dtX8_copyFrom 57 rfl) ?_
  refine pv_iconst (pc := 109) (v := 0) (by decide) (fm_dec dtX8_copyFrom 58 rfl) ?_
  refine pv_aloadn (pc := 110) (n := 0) 0 rfl rfl (fm_dec dtX8_copyFrom 59 rfl) ?_
  refine pv_getR (k := 3) (j := 7) (ci := 8) (pc := 111) 11 rfl (by decide) pfl_X8_33 (by decide) rfl (by decide) (fm_dec dtX8_copyFrom 60 rfl) ?_
  refine pv_iconst (pc := 114) (v := 0) (by decide) (fm_dec dtX8_copyFrom 61 rfl) ?_
  refine pv_bipush (pc := 115) (v := 24) (by decide) (fm_dec dtX8_copyFrom 62 rfl) ?_
  refine pv_copy (k0 := 21) (k1 := 11) (n0 := 24) (n1 := 24) (pc := 117) pcm_X8_61 pcc_X8_61 (by decide) rfl rfl (by decide) rfl rfl (by decide) (by decide) (by decide) (by decide) (by decide) (Nat.le_of_ble_eq_true rfl) (fm_dec dtX8_copyFrom 63 rfl) ?_
  show pvEv Tx 0 qX8_copyFrom _ _ _ (cpA (cpA (cpA (cpA (cpA (cpA (cpA (cpA M 4 14 8) 5 15 8) 6 16 8) 7 17 8) 8 18 8) 9 19 8) 10 20 24) 11 21 24) Q
  refine pv_aloadn (pc := 120) (n := 1) 1 rfl rfl (fm_dec dtX8_copyFrom 64 rfl) ?_
  refine pv_getR (k := 13) (j := 8) (ci := 8) (pc := 121) 22 rfl (by decide) pfl_X8_36 (by decide) rfl (by decide) (fm_dec dtX8_copyFrom 65 rfl) ?_
  refine pv_iconst (pc := 124) (v := 0) (by decide) (fm_dec dtX8_copyFrom 66 rfl) ?_
  refine pv_aloadn (pc := 125) (n := 0) 0 rfl rfl (fm_dec dtX8_copyFrom 67 rfl) ?_
  refine pv_getR (k := 3) (j := 8) (ci := 8) (pc := 126) 12 rfl (by decide) pfl_X8_36 (by decide) rfl (by decide) (fm_dec dtX8_copyFrom 68 rfl) ?_
  refine pv_iconst (pc := 129) (v := 0) (by decide) (fm_dec dtX8_copyFrom 69 rfl) ?_
  refine pv_bipush (pc := 130) (v := 24) (by decide) (fm_dec dtX8_copyFrom 70 rfl) ?_
  refine pv_copy (k0 := 22) (k1 := 12) (n0 := 24) (n1 := 24) (pc := 132) pcm_X8_61 pcc_X8_61 (by decide) rfl rfl (by decide) rfl rfl (by decide) (by decide) (by decide) (by decide) (by decide) (Nat.le_of_ble_eq_true rfl) (fm_dec dtX8_copyFrom 71 rfl) ?_
  show pvEv Tx 0 qX8_copyFrom _ _ _ (cpA (cpA (cpA (cpA (cpA (cpA (cpA (cpA (cpA M 4 14 8) 5 15 8) 6 16 8) 7 17 8) 8 18 8) 9 19 8) 10 20 24) 11 21 24) 12 22 24) Q
  refine pv_aloadn (pc := 135) (n := 0) 0 rfl rfl (fm_dec dtX8_copyFrom 72 rfl) ?_
  refine pv_aloadn (pc := 136) (n := 1) 1 rfl rfl (fm_dec dtX8_copyFrom 73 rfl) ?_
  refine pv_getI (k := 13) (j := 9) (ci := 8) (pc := 137) pfl_X8_42 (by decide) rfl (by decide) (fm_dec dtX8_copyFrom 74 rfl) ?_
  refine pv_putI (k := 3) (j := 9) (ci := 8) (pc := 140) pfl_X8_42 (by decide) rfl (by decide) (fm_dec dtX8_copyFrom 75 rfl) ?_
  show pvEv Tx 0 qX8_copyFrom _ _ _ (cpS (cpA (cpA (cpA (cpA (cpA (cpA (cpA (cpA (cpA M 4 14 8) 5 15 8) 6 16 8) 7 17 8) 8 18 8) 9 19 8) 10 20 24) 11 21 24) 12 22 24) 9) Q
  refine pv_aloadn (pc := 143) (n := 0) 0 rfl rfl (fm_dec dtX8_copyFrom 76 rfl) ?_
  refine pv_aloadn (pc := 144) (n := 1) 1 rfl rfl (fm_dec dtX8_copyFrom 77 rfl) ?_
  refine pv_getI (k := 13) (j := 10) (ci := 8) (pc := 145) pfl_X8_46 (by decide) rfl (by decide) (fm_dec dtX8_copyFrom 78 rfl) ?_
  refine pv_putI (k := 3) (j := 10) (ci := 8) (pc := 148) pfl_X8_46 (by decide) rfl (by decide) (fm_dec dtX8_copyFrom 79 rfl) ?_
  show pvEv Tx 0 qX8_copyFrom _ _ _ (cpS (cpS (cpA (cpA (cpA (cpA (cpA (cpA (cpA (cpA (cpA M 4 14 8) 5 15 8) 6 16 8) 7 17 8) 8 18 8) 9 19 8) 10 20 24) 11 21 24) 12 22 24) 9) 10) Q
  refine pv_aloadn (pc := 151) (n := 0) 0 rfl rfl (fm_dec dtX8_copyFrom 80 rfl) ?_
  refine pv_aloadn (pc := 152) (n := 1) 1 rfl rfl (fm_dec dtX8_copyFrom 81 rfl) ?_
  refine pv_getI (k := 13) (j := 11) (ci := 8) (pc := 153) pfl_X8_49 (by decide) rfl (by decide) (fm_dec dtX8_copyFrom 82 rfl) ?_
  refine pv_putI (k := 3) (j := 11) (ci := 8) (pc := 156) pfl_X8_49 (by decide) rfl (by decide) (fm_dec dtX8_copyFrom 83 rfl) ?_
  show pvEv Tx 0 qX8_copyFrom _ _ _ (cpS (cpS (cpS (cpA (cpA (cpA (cpA (cpA (cpA (cpA (cpA (cpA M 4 14 8) 5 15 8) 6 16 8) 7 17 8) 8 18 8) 9 19 8) 10 20 24) 11 21 24) 12 22 24) 9) 10) 11) Q
  refine pv_aloadn (pc := 159) (n := 0) 0 rfl rfl (fm_dec dtX8_copyFrom 84 rfl) ?_
  refine pv_aloadn (pc := 160) (n := 1) 1 rfl rfl (fm_dec dtX8_copyFrom 85 rfl) ?_
  refine pv_getI (k := 13) (j := 12) (ci := 8) (pc := 161) pfl_X8_52 (by decide) rfl (by decide) (fm_dec dtX8_copyFrom 86 rfl) ?_
  refine pv_putI (k := 3) (j := 12) (ci := 8) (pc := 164) pfl_X8_52 (by decide) rfl (by decide) (fm_dec dtX8_copyFrom 87 rfl) ?_
  show pvEv Tx 0 qX8_copyFrom _ _ _ (cpS (cpS (cpS (cpS (cpA (cpA (cpA (cpA (cpA (cpA (cpA (cpA (cpA M 4 14 8) 5 15 8) 6 16 8) 7 17 8) 8 18 8) 9 19 8) 10 20 24) 11 21 24) 12 22 24) 9) 10) 11) 12) Q
  refine pv_aloadn (pc := 167) (n := 0) 0 rfl rfl (fm_dec dtX8_copyFrom 88 rfl) ?_
  refine pv_aloadn (pc := 168) (n := 1) 1 rfl rfl (fm_dec dtX8_copyFrom 89 rfl) ?_
  refine pv_getI (k := 13) (j := 13) (ci := 8) (pc := 169) pfl_X8_55 (by decide) rfl (by decide) (fm_dec dtX8_copyFrom 90 rfl) ?_
  refine pv_putI (k := 3) (j := 13) (ci := 8) (pc := 172) pfl_X8_55 (by decide) rfl (by decide) (fm_dec dtX8_copyFrom 91 rfl) ?_
  show pvEv Tx 0 qX8_copyFrom _ _ _ (cpS (cpS (cpS (cpS (cpS (cpA (cpA (cpA (cpA (cpA (cpA (cpA (cpA (cpA M 4 14 8) 5 15 8) 6 16 8) 7 17 8) 8 18 8) 9 19 8) 10 20 24) 11 21 24) 12 22 24) 9) 10) 11) 12) 13) Q
  refine pv_aloadn (pc := 175) (n := 0) 0 rfl rfl (fm_dec dtX8_copyFrom 92 rfl) ?_
  refine pv_aloadn (pc := 176) (n := 1) 1 rfl rfl (fm_dec dtX8_copyFrom 93 rfl) ?_
  refine pv_getI (k := 13) (j := 14) (ci := 8) (pc := 177) pfl_X8_58 (by decide) rfl (by decide) (fm_dec dtX8_copyFrom 94 rfl) ?_
  refine pv_putI (k := 3) (j := 14) (ci := 8) (pc := 180) pfl_X8_58 (by decide) rfl (by decide) (fm_dec dtX8_copyFrom 95 rfl) ?_
  show pvEv Tx 0 qX8_copyFrom _ _ _ (cpS (cpS (cpS (cpS (cpS (cpS (cpA (cpA (cpA (cpA (cpA (cpA (cpA (cpA (cpA M 4 14 8) 5 15 8) 6 16 8) 7 17 8) 8 18 8) 9 19 8) 10 20 24) 11 21 24) 12 22 24) 9) 10) 11) 12) 13) 14) Q
  exact pv_return (pc := 183) rfl (fm_dec dtX8_copyFrom 96 rfl) hq
theorem x_copy {M : fmM} {Q : fmR → fmM → Prop} {D : dD} (hI : scInv Tx invX M) (hW : xdw 13 M D) (hD : dOk D) (hq : ∀ M' : fmM, scInv Tx invX M' → xdw 3 M' D → scFr [(3, 9, 6), (4, 0, 8), (5, 0, 8), (6, 0, 8), (7, 0, 8), (8, 0, 8), (9, 0, 8), (10, 0, 24), (11, 0, 24), (12, 0, 24)] M M' → Q (.inl none) M') : pvGood Tx 0 qX8_copyFrom [.ref 3, .ref 13] M Q := ((c_xcopy (Q := fun r M' => r = .inl none ∧ M' = cpM M) ⟨rfl, rfl⟩).and (s_copy8 (Q := fun _ M' => scInv Tx invX M' ∧ scFr [(3, 9, 6), (4, 0, 8), (5, 0, 8), (6, 0, 8), (7, 0, 8), (8, 0, 8), (9, 0, 8), (10, 0, 24), (11, 0, 24), (12, 0, 24)] M M') hI (fun M' h1 h2 => ⟨h1, h2⟩))).imp (fun r M' h => by
  obtain ⟨⟨rfl, e⟩, h1, h2⟩ := h
  exact hq M' h1 (by rw [e]; exact cp_ok hW hD) h2)
/-- what stands behind a good drawer: the told, no image, no page, no law -/
def dwNew (M : fmM) (D : dD) : Prop := dOk D ∧ xdw 3 M D ∧ (M.1 0 13 = 0 ∧ M.1 46 2 = 0) ∧ (M.1 27 1 = 0 ∧ M.1 27 2 = 0) ∧ M.1 23 3 = 3 ∧ M.1 24 0 = -1 ∧ M.1 24 1 = -1 ∧ M.1 24 2 = -8
set_option maxRecDepth 20000 in
theorem c_lwclr {M : fmM} {Q : fmR → fmM → Prop}  (hq : ∀ M' : fmM, M'.1 23 3 = 3 ∧ M'.1 24 0 = -1 ∧ M'.1 24 1 = -1 ∧ M'.1 24 2 = -8 → Q (.inl none) M') : pvGood Tx 0 qX1_clear [.ref 23] M Q := by
  refine pvGood_of (Nat.le_of_ble_eq_true rfl) ?_
  show pvEv Tx 0 qX1_clear 0 [some (.ref 23)] [] M Q
  refine pv_aloadn (pc := 0) (n := 0) 0 rfl rfl (fm_dec dtX1_clear 0 rfl) ?_
  refine pv_getR (k := 23) (j := 0) (ci := 1) (pc := 1) 24 rfl (by decide) pfl_X1_9 (by decide) rfl (by decide) (fm_dec dtX1_clear 1 rfl) ?_
  refine pv_iconst (pc := 4) (v := 0) (by decide) (fm_dec dtX1_clear 2 rfl) ?_
  refine pv_iconst (pc := 5) (v := (-1)) (by decide) (fm_dec dtX1_clear 3 rfl) ?_
  refine pv_iast (k := 24) (n := 150) (pc := 6) (by decide) rfl rfl (fm_inl (by decide)) (fm_dec dtX1_clear 4 rfl) ?_
  refine pv_aloadn (pc := 7) (n := 0) 0 rfl rfl (fm_dec dtX1_clear 5 rfl) ?_
  refine pv_getR (k := 23) (j := 0) (ci := 1) (pc := 8) 24 rfl (by decide) pfl_X1_9 (by decide) rfl (by decide) (fm_dec dtX1_clear 6 rfl) ?_
  refine pv_iconst (pc := 11) (v := 1) (by decide) (fm_dec dtX1_clear 7 rfl) ?_
  refine pv_iconst (pc := 12) (v := (-1)) (by decide) (fm_dec dtX1_clear 8 rfl) ?_
  refine pv_iast (k := 24) (n := 150) (pc := 13) (by decide) rfl rfl (fm_inl (by decide)) (fm_dec dtX1_clear 9 rfl) ?_
  refine pv_aloadn (pc := 14) (n := 0) 0 rfl rfl (fm_dec dtX1_clear 10 rfl) ?_
  refine pv_getR (k := 23) (j := 0) (ci := 1) (pc := 15) 24 rfl (by decide) pfl_X1_9 (by decide) rfl (by decide) (fm_dec dtX1_clear 11 rfl) ?_
  refine pv_iconst (pc := 18) (v := 2) (by decide) (fm_dec dtX1_clear 12 rfl) ?_
  refine pv_bipush (pc := 19) (v := (-8)) (by decide) (fm_dec dtX1_clear 13 rfl) ?_
  refine pv_iast (k := 24) (n := 150) (pc := 21) (by decide) rfl rfl (fm_inl (by decide)) (fm_dec dtX1_clear 14 rfl) ?_
  refine pv_aloadn (pc := 22) (n := 0) 0 rfl rfl (fm_dec dtX1_clear 15 rfl) ?_
  refine pv_iconst (pc := 23) (v := 3) (by decide) (fm_dec dtX1_clear 16 rfl) ?_
  refine pv_putI (k := 23) (j := 3) (ci := 1) (pc := 24) pfl_X1_24 (by decide) rfl (by decide) (fm_dec dtX1_clear 17 rfl) ?_
  exact pv_return (pc := 27) rfl (fm_dec dtX1_clear 18 rfl) (hq _ ⟨rfl, rfl, rfl, rfl⟩)
set_option maxRecDepth 20000 in
theorem c_pgclr {M : fmM} {Q : fmR → fmM → Prop}  (hq : ∀ M' : fmM, M'.1 27 1 = 0 ∧ M'.1 27 2 = 0 → Q (.inl none) M') : pvGood Tx 0 qX2_clear [.ref 27] M Q := by
  refine pvGood_of (Nat.le_of_ble_eq_true rfl) ?_
  show pvEv Tx 0 qX2_clear 0 [some (.ref 27)] [] M Q
  refine pv_aloadn (pc := 0) (n := 0) 0 rfl rfl (fm_dec dtX2_clear 0 rfl) ?_
  refine pv_iconst (pc := 1) (v := 0) (by decide) (fm_dec dtX2_clear 1 rfl) ?_
  refine pv_putI (k := 27) (j := 0) (ci := 2) (pc := 2) pfl_X2_9 (by decide) rfl (by decide) (fm_dec dtX2_clear 2 rfl) ?_
  refine pv_aloadn (pc := 5) (n := 0) 0 rfl rfl (fm_dec dtX2_clear 3 rfl) ?_
  refine pv_iconst (pc := 6) (v := 0) (by decide) (fm_dec dtX2_clear 4 rfl) ?_
  refine pv_putI (k := 27) (j := 1) (ci := 2) (pc := 7) pfl_X2_15 (by decide) rfl (by decide) (fm_dec dtX2_clear 5 rfl) ?_
  refine pv_aloadn (pc := 10) (n := 0) 0 rfl rfl (fm_dec dtX2_clear 6 rfl) ?_
  refine pv_iconst (pc := 11) (v := 0) (by decide) (fm_dec dtX2_clear 7 rfl) ?_
  refine pv_putI (k := 27) (j := 2) (ci := 2) (pc := 12) pfl_X2_18 (by decide) rfl (by decide) (fm_dec dtX2_clear 8 rfl) ?_
  exact pv_return (pc := 15) rfl (fm_dec dtX2_clear 9 rfl) (hq _ ⟨rfl, rfl⟩)
theorem x_clr1 {M : fmM} {Q : fmR → fmM → Prop} (hI : scInv Tx invX M) (hq : ∀ M' : fmM, scInv Tx invX M' → scFr [(23, 3, 1), (24, 0, 3)] M M' → M'.1 23 3 = 3 ∧ M'.1 24 0 = -1 ∧ M'.1 24 1 = -1 ∧ M'.1 24 2 = -8 → Q (.inl none) M') : pvGood Tx 0 qX1_clear [.ref 23] M Q := ((c_lwclr (Q := fun r M' => r = .inl none ∧ M'.1 23 3 = 3 ∧ M'.1 24 0 = -1 ∧ M'.1 24 1 = -1 ∧ M'.1 24 2 = -8) (fun _ h => ⟨rfl, h⟩)).and (s_clear1 (Q := fun _ M' => scInv Tx invX M' ∧ scFr [(23, 3, 1), (24, 0, 3)] M M') hI (fun M' h1 h2 => ⟨h1, h2⟩))).imp (fun r M' h => by
  obtain ⟨⟨rfl, e⟩, h1, h2⟩ := h
  exact hq M' h1 h2 e)
theorem x_clr2 {M : fmM} {Q : fmR → fmM → Prop} (hI : scInv Tx invX M) (hq : ∀ M' : fmM, scInv Tx invX M' → scFr [(27, 0, 3)] M M' → M'.1 27 1 = 0 ∧ M'.1 27 2 = 0 → Q (.inl none) M') : pvGood Tx 0 qX2_clear [.ref 27] M Q := ((c_pgclr (Q := fun r M' => r = .inl none ∧ M'.1 27 1 = 0 ∧ M'.1 27 2 = 0) (fun _ h => ⟨rfl, h⟩)).and (s_clear2 (Q := fun _ M' => scInv Tx invX M' ∧ scFr [(27, 0, 3)] M M') hI (fun M' h1 h2 => ⟨h1, h2⟩))).imp (fun r M' h => by
  obtain ⟨⟨rfl, e⟩, h1, h2⟩ := h
  exact hq M' h1 h2 e)
set_option maxRecDepth 20000 in
theorem c_xdrawer {M : fmM} {Q : fmR → fmM → Prop} {T : Nat → tX} {nn : Int32} (hI : scInv Tx invX M) (hT : txF M T) (hrf : ¬ txP nn 600 (M.1 1 1).toInt → Q (.inr fmIAE) (fmI M 0 16 (M.1 0 16 + 1))) (hok : ∀ (n : Nat) (M' : fmM) (D : dD) (r : Int32), nn.toInt = (n : Int) → txP nn 600 (M.1 1 1).toInt → spDrawer (T n) n = .inr D → r.toInt = (D.1 : Int) → dwNew M' D → Q (.inl (some (.int r))) M') (hbad : ∀ (n k a : Nat) (M' : fmM) (r : Int32), nn.toInt = (n : Int) → txP nn 600 (M.1 1 1).toInt → spDrawer (T n) n = .inl (k, a) → r.toInt = (k : Int) - 10 → tbad (opM M nn) M' k a → Q (.inl (some (.int r))) M') : pvGood Tx 41 qX10_drawer [.ref 0, .int nn] M Q := by
  refine pvGood_of (Nat.le_of_ble_eq_true rfl) ?_
  show pvEv Tx 41 qX10_drawer 0 [some (.ref 0), some (.int nn)] [] M Q
  refine pv_aloadn (pc := 0) (n := 0) 0 rfl rfl (fm_dec dtX10_drawer 0 rfl) ?_
  refine pv_iloadn (pc := 1) (n := 1) 1 rfl rfl (fm_dec dtX10_drawer 1 rfl) ?_
  refine pv_sipush (pc := 2) (v := 600) (by decide) (fm_dec dtX10_drawer 2 rfl) ?_
  refine pv_invV2 (k := 0) (d' := 1) (pc := 5) pcv_X10_108 (by decide) rfl (Nat.le_of_ble_eq_true rfl) (by decide) (fm_dec dtX10_drawer 3 rfl) ?_
  refine c_openT (fun h5 => ?_) (fun h5 => ?_)
  · refine pv_then0 ?_
    have h56 : nn.toInt ≤ 600 := h5.2.1
    obtain ⟨n, hn⟩ : ∃ n : Nat, nn.toInt = (n : Int) := ⟨nn.toInt.toNat, by have := h5.1; omega⟩
    have hI5 := inv_open (n := nn) hI h5.1 (by omega)
    have hT9 := hT n (by have := h5.2.2; omega)
    have hS := op_S hn hT9.1 hT9.2
    have hf5 : (opM M nn).1 1 4 = 0 := rfl
    refine pv_aloadn (pc := 8) (n := 0) 0 rfl rfl (fm_dec dtX10_drawer 4 rfl) ?_
    refine pv_getR (k := 0) (j := 2) (ci := 10) (pc := 9) 13 rfl (by decide) pfl_X10_23 (by decide) rfl (by decide) (fm_dec dtX10_drawer 5 rfl) ?_
    refine pv_aloadn (pc := 12) (n := 0) 0 rfl rfl (fm_dec dtX10_drawer 6 rfl) ?_
    refine pv_getR (k := 0) (j := 0) (ci := 10) (pc := 13) 1 rfl (by decide) pfl_X10_12 (by decide) rfl (by decide) (fm_dec dtX10_drawer 7 rfl) ?_
    refine pv_invV1 (k := 13) (d' := 7) (pc := 16) pcv_X10_112 (by decide) rfl (Nat.le_of_ble_eq_true rfl) (by decide) (fm_dec dtX10_drawer 8 rfl) ?_
    refine c_xdread hS hf5 hI5 (fun M16 D16 e16 k16 => ?_) (fun Mb kb ab eb hB => ?_)  
    · refine pv_then1 ?_
      refine pv_if_ne (pc := 19) 33 (by decide) (fm_dec dtX10_drawer 9 rfl) (fun _ => ?_) (fun hc19 => by exfalso; revert hc19; decide)
      refine pv_aloadn (pc := 33) (n := 0) 0 rfl rfl (fm_dec dtX10_drawer 16 rfl) ?_
      refine pv_getR (k := 0) (j := 1) (ci := 10) (pc := 34) 3 rfl (by decide) pfl_X10_19 (by decide) rfl (by decide) (fm_dec dtX10_drawer 17 rfl) ?_
      refine pv_aloadn (pc := 37) (n := 0) 0 rfl rfl (fm_dec dtX10_drawer 18 rfl) ?_
      refine pv_getR (k := 0) (j := 2) (ci := 10) (pc := 38) 13 rfl (by decide) pfl_X10_23 (by decide) rfl (by decide) (fm_dec dtX10_drawer 19 rfl) ?_
      refine pv_invV1 (k := 3) (d' := 0) (pc := 41) pcv_X10_119 (by decide) rfl (Nat.le_of_ble_eq_true rfl) (by decide) (fm_dec dtX10_drawer 20 rfl) ?_
      refine x_copy k16.2.2.2.2 k16.1 k16.2.1 (fun M41 hI41 hW41 f41 => ?_)
      refine pv_then0 ?_
      refine pv_aloadn (pc := 44) (n := 0) 0 rfl rfl (fm_dec dtX10_drawer 21 rfl) ?_
      refine pv_getR (k := 0) (j := 3) (ci := 10) (pc := 45) 23 rfl (by decide) pfl_X10_29 (by decide) rfl (by decide) (fm_dec dtX10_drawer 22 rfl) ?_
      refine pv_invV0 (k := 23) (d' := 0) (pc := 48) pcv_X10_122 (by decide) rfl (Nat.le_of_ble_eq_true rfl) (by decide) (fm_dec dtX10_drawer 23 rfl) ?_
      refine x_clr1 hI41 (fun M48 hI48 f48 c48 => ?_)
      refine pv_then0 ?_
      refine pv_aloadn (pc := 51) (n := 0) 0 rfl rfl (fm_dec dtX10_drawer 24 rfl) ?_
      refine pv_getR (k := 0) (j := 4) (ci := 10) (pc := 52) 27 rfl (by decide) pfl_X10_36 (by decide) rfl (by decide) (fm_dec dtX10_drawer 25 rfl) ?_
      refine pv_invV0 (k := 27) (d' := 0) (pc := 55) pcv_X10_125 (by decide) rfl (Nat.le_of_ble_eq_true rfl) (by decide) (fm_dec dtX10_drawer 26 rfl) ?_
      refine x_clr2 hI48 (fun M55 hI55 f55 c55 => ?_)
      refine pv_then0 ?_
      refine pv_aloadn (pc := 58) (n := 0) 0 rfl rfl (fm_dec dtX10_drawer 27 rfl) ?_
      refine pv_getR (k := 0) (j := 9) (ci := 10) (pc := 59) 46 rfl (by decide) pfl_X10_75 (by decide) rfl (by decide) (fm_dec dtX10_drawer 28 rfl) ?_
      refine pv_getR (k := 46) (j := 0) (ci := 5) (pc := 62) 47 rfl (by decide) pfl_X10_90 (by decide) rfl (by decide) (fm_dec dtX10_drawer 29 rfl) ?_
      refine pv_aloadn (pc := 65) (n := 0) 0 rfl rfl (fm_dec dtX10_drawer 30 rfl) ?_
      refine pv_getR (k := 0) (j := 1) (ci := 10) (pc := 66) 3 rfl (by decide) pfl_X10_19 (by decide) rfl (by decide) (fm_dec dtX10_drawer 31 rfl) ?_
      refine pv_invV1 (k := 47) (d' := 0) (pc := 69) pcv_X10_94 (by decide) rfl (Nat.le_of_ble_eq_true rfl) (by decide) (fm_dec dtX10_drawer 32 rfl) ?_
      refine s_begin6 hI55 (fun M69 hI69 f69 => ?_)
      refine pv_then0 ?_
      refine pv_aloadn (pc := 72) (n := 0) 0 rfl rfl (fm_dec dtX10_drawer 33 rfl) ?_
      refine pv_getR (k := 0) (j := 9) (ci := 10) (pc := 73) 46 rfl (by decide) pfl_X10_75 (by decide) rfl (by decide) (fm_dec dtX10_drawer 34 rfl) ?_
      refine pv_iconst (pc := 76) (v := 0) (by decide) (fm_dec dtX10_drawer 35 rfl) ?_
      refine pv_putI (k := 46) (j := 2) (ci := 5) (pc := 77) pfl_X10_126 (by decide) rfl (by decide) (fm_dec dtX10_drawer 36 rfl) ?_
      refine pv_aloadn (pc := 80) (n := 0) 0 rfl rfl (fm_dec dtX10_drawer 37 rfl) ?_
      refine pv_iconst (pc := 81) (v := 0) (by decide) (fm_dec dtX10_drawer 38 rfl) ?_
      refine pv_putI (k := 0) (j := 13) (ci := 10) (pc := 82) pfl_X10_129 (by decide) rfl (by decide) (fm_dec dtX10_drawer 39 rfl) ?_
      refine pv_aloadn (pc := 85) (n := 0) 0 rfl rfl (fm_dec dtX10_drawer 40 rfl) ?_
      refine pv_iconst (pc := 86) (v := 0) (by decide) (fm_dec dtX10_drawer 41 rfl) ?_
      refine pv_putI (k := 0) (j := 14) (ci := 10) (pc := 87) pfl_X10_132 (by decide) rfl (by decide) (fm_dec dtX10_drawer 42 rfl) ?_
      refine pv_aloadn (pc := 90) (n := 0) 0 rfl rfl (fm_dec dtX10_drawer 43 rfl) ?_
      refine pv_getR (k := 0) (j := 7) (ci := 10) (pc := 91) 34 rfl (by decide) pfl_X10_61 (by decide) rfl (by decide) (fm_dec dtX10_drawer 44 rfl) ?_
      refine pv_invV0 (k := 34) (d' := 0) (pc := 94) pcv_X10_135 (by decide) rfl (Nat.le_of_ble_eq_true rfl) (by decide) (fm_dec dtX10_drawer 45 rfl) ?_
      refine s_forget (xInv.put (xInv.put (xInv.put hI69 (by decide)) (by decide)) (scq_t 0)) (fun M94 hI94 f94 => ?_)
      refine pv_then0 ?_
      refine pv_aloadn (pc := 97) (n := 0) 0 rfl rfl (fm_dec dtX10_drawer 46 rfl) ?_
      refine pv_getR (k := 0) (j := 1) (ci := 10) (pc := 98) 3 rfl (by decide) pfl_X10_19 (by decide) rfl (by decide) (fm_dec dtX10_drawer 47 rfl) ?_
      refine pv_getI (k := 3) (j := 9) (ci := 8) (pc := 101) pfl_X10_138 (by decide) rfl (by decide) (fm_dec dtX10_drawer 48 rfl) ?_
      exact pv_ireturn (pc := 104) rfl (fm_dec dtX10_drawer 49 rfl) (hok n _ D16 _ hn h5 e16 (by rw [(f94 3 9 rfl).1]; show (M69.1 3 9).toInt = _; rw [(f69 3 9 rfl).1, (f55 3 9 rfl).1, (f48 3 9 rfl).1]; exact hW41.1.1) ⟨k16.2.1, hW41.of (fun k j a b => by rw [kp_of (P := ([(3, 12)], [])) f94 (by decide) k j (kp_in12 a b), fmI_at, if_neg (by omega), fmI_at, if_neg (by omega), fmI_at, if_neg (by omega), kp_of (P := ([(3, 12)], [])) f69 (by decide) k j (kp_in12 a b), kp_of (P := ([(3, 12)], [])) f55 (by decide) k j (kp_in12 a b), kp_of (P := ([(3, 12)], [])) f48 (by decide) k j (kp_in12 a b)]), ⟨(f94 0 13 rfl).1.trans rfl, (f94 46 2 rfl).1.trans rfl⟩, ⟨(f94 27 1 rfl).1.trans ((f69 27 1 rfl).1.trans c55.1), (f94 27 2 rfl).1.trans ((f69 27 2 rfl).1.trans c55.2)⟩, (f94 23 3 rfl).1.trans ((f69 23 3 rfl).1.trans ((f55 23 3 rfl).1.trans c48.1)), (f94 24 0 rfl).1.trans ((f69 24 0 rfl).1.trans ((f55 24 0 rfl).1.trans c48.2.1)), (f94 24 1 rfl).1.trans ((f69 24 1 rfl).1.trans ((f55 24 1 rfl).1.trans c48.2.2.1)), (f94 24 2 rfl).1.trans ((f69 24 2 rfl).1.trans ((f55 24 2 rfl).1.trans c48.2.2.2))⟩)
    · refine pv_then1 ?_
      refine pv_if_ne (pc := 19) 33 (by decide) (fm_dec dtX10_drawer 9 rfl) (fun hc19 => by exfalso; revert hc19; decide) (fun _ => ?_)
      refine pv_aloadn (pc := 22) (n := 0) 0 rfl rfl (fm_dec dtX10_drawer 10 rfl) ?_
      refine pv_getR (k := 0) (j := 0) (ci := 10) (pc := 23) 1 rfl (by decide) pfl_X10_12 (by decide) rfl (by decide) (fm_dec dtX10_drawer 11 rfl) ?_
      refine pv_getI (k := 1) (j := 4) (ci := 7) (pc := 26) pfl_X10_116 (by decide) rfl (by decide) (fm_dec dtX10_drawer 12 rfl) ?_
      refine pv_bipush (pc := 29) (v := 10) (by decide) (fm_dec dtX10_drawer 13 rfl) ?_
      refine pv_isub (pc := 31) (fm_dec dtX10_drawer 14 rfl) ?_
      exact pv_ireturn (pc := 32) rfl (fm_dec dtX10_drawer 15 rfl) (hbad n kb ab Mb _ hn h5 eb (law_r hB.1 (by have h9 : (Mb.1 1 4).toInt ≤ 3 := (hB.2.2.2.2.1 1 4 (by decide)).2; have h8 := hB.1; omega)) hB)
  · refine pv_thenX ?_
    exact hrf h5
end
-- P 18n
section
-- THE CLASS WORKS A LAW OUT
/-- codes that can be, by how high the stack stands, never above B -/
def dpB (B : Nat) : Nat → tC → Option Nat
  | d, [] => some d
  | d, c :: cs => if c.1 < 2 then (if d < B ∧ ((c.1 = 0 ∧ c.2 ≤ 999) ∨ (c.1 = 1 ∧ c.2 ≤ 4)) then dpB B (d + 1) cs else none) else (if 2 ≤ d ∧ c.1 ≤ 7 then dpB B (d - 1) cs else none)
theorem dpB_app (B : Nat) : ∀ (cs ds : tC) (d e : Nat), dpB B d cs = some e → dpB B d (cs ++ ds) = dpB B e ds
  | [], ds, d, e, h => by
    cases h
    rfl
  | c :: cs, ds, d, e, h => by
    simp only [dpB, List.cons_append] at h ⊢
    split at h
    · rename_i h1
      rw [if_pos h1]
      split at h
      · rename_i h2
        rw [if_pos h2]
        exact dpB_app B cs ds _ _ h
      · cases h
    · rename_i h1
      rw [if_neg h1]
      split at h
      · rename_i h2
        rw [if_pos h2]
        exact dpB_app B cs ds _ _ h
      · cases h
theorem spNum_hi {tx : tX} {lo hi : Int} {p v q : Nat} (h : spNum tx lo hi p = .inr (v, q)) : (v : Int) ≤ hi := by
  unfold spNum at h
  split at h
  · split at h
    · rename_i h2
      cases h
      rw [Bool.and_eq_true] at h2
      exact of_decide_eq_true h2.2
    · cases h
  · cases h
def rq (md o : Nat) : Nat := 3 * (6 - o) + (if md = 2 then 1 else if md = 1 ∨ 4 ≤ md then 2 else 3)
theorem spL_dpB {tx : tX} : ∀ (f md o p q : Nat) (cs : tC), o ≤ 6 → spL tx f md o p = .inr (cs, q) → ∀ d B, d + rq md o ≤ B → (md < 3 → dpB B d cs = some (d + 1)) ∧ (3 ≤ md → dpB B (d + 1) cs = some (d + 1)) := by
  intro f
  induction f with
  | zero => intro md o p q cs _ h; cases h
  | succ f ih =>
    have app : ∀ (m1 m2 o p q R : Nat) (cs : tC), o ≤ 6 → m1 < 3 → 3 ≤ m2 → rq m1 o ≤ R → rq m2 o ≤ R → spApp (spL tx f m1 o p) (fun q => spL tx f m2 o q) = .inr (cs, q) → ∀ d B, d + R ≤ B → dpB B d cs = some (d + 1) := by
      intro m1 m2 o p q R cs ho h1 h2 r1 r2 h d B hB
      obtain ⟨c1, q1, e1, h⟩ := spBind_ok h
      obtain ⟨c2, q2, e2, h⟩ := spBind_ok h
      cases h
      rw [dpB_app _ _ _ _ _ ((ih _ _ _ _ _ ho e1 d B (by omega)).1 h1)]
      exact (ih _ _ _ _ _ ho e2 d B (by omega)).2 h2
    have op : ∀ (c m1 m2 o p q R : Nat) (cs : tC), o ≤ 6 → 2 ≤ c → c ≤ 7 → m1 < 3 → 3 ≤ m2 → rq m1 o + 1 ≤ R → rq m2 o ≤ R → spOp c (spL tx f m1 o p) (fun q => spL tx f m2 o q) = .inr (cs, q) → ∀ d B, d + R ≤ B → dpB B (d + 1) cs = some (d + 1) := by
      intro c m1 m2 o p q R cs ho hc hc7 h1 h2 r1 r2 h d B hB
      obtain ⟨c1, q1, e1, h⟩ := spBind_ok h
      obtain ⟨c2, q2, e2, h⟩ := spBind_ok h
      cases h
      rw [dpB_app _ _ _ _ _ ((ih _ _ _ _ _ ho e1 (d + 1) B (by omega)).1 h1)]
      simp only [dpB]
      rw [if_neg (by omega), if_pos (by omega)]
      exact (ih _ _ _ _ _ ho e2 d B (by omega)).2 h2
    have lp : ∀ (c1 c2 : Int) (k1 k2 m1 m2 o a q R : Nat) (cs : tC), o ≤ 6 → 2 ≤ k1 → k1 ≤ 7 → 2 ≤ k2 → k2 ≤ 7 → m1 < 3 → 3 ≤ m2 → rq m1 o + 1 ≤ R → rq m2 o ≤ R → spLp tx c1 c2 k1 k2 a (fun q => spL tx f m1 o q) (fun q => spL tx f m2 o q) = .inr (cs, q) → ∀ d B, d + R ≤ B → dpB B (d + 1) cs = some (d + 1) := by
      intro c1 c2 k1 k2 m1 m2 o a q R cs ho hk1 hk1' hk2 hk2' h1 h2 r1 r2 h d B hB
      unfold spLp at h
      split at h
      · exact op _ _ _ _ _ _ _ _ ho hk1 hk1' h1 h2 r1 r2 h d B hB
      · split at h
        · exact op _ _ _ _ _ _ _ _ ho hk2 hk2' h1 h2 r1 r2 h d B hB
        · cases h
          rfl
    have one : ∀ (o a q : Nat) (cs : tC), o ≤ 6 → spOne tx (fun q => spL tx f 0 (o + 1) q) o a = .inr (cs, q) → ∀ d B, d + (3 * (6 - o) + 1) ≤ B → dpB B d cs = some (d + 1) := by
      intro o a q cs ho h d B hB
      have hr : o < 6 → rq 0 (o + 1) ≤ 3 * (6 - o) := fun h6 => by
        unfold rq
        rw [if_neg (by omega), if_neg (by omega)]
        omega
      have two : ∀ c q0, o < 6 → 2 ≤ c → c ≤ 7 → spTwo tx (fun q => spL tx f 0 (o + 1) q) c q0 = .inr (cs, q) → dpB B d cs = some (d + 1) := by
        intro c q0 h6 hc hc7 h
        have hr := hr h6
        obtain ⟨u1, q1, e1, h⟩ := spBind_ok h
        obtain ⟨c2, q2, e2, h⟩ := spBind_ok h
        obtain ⟨u3, q3, e3, h⟩ := spBind_ok h
        obtain ⟨c4, q4, e4, h⟩ := spBind_ok h
        obtain ⟨u5, q5, e5, h⟩ := spBind_ok h
        cases h
        rw [List.append_assoc, dpB_app _ _ _ _ _ ((ih _ _ _ _ _ (by omega) e2 d B (by omega)).1 (by omega)), dpB_app _ _ _ _ _ ((ih _ _ _ _ _ (by omega) e4 (d + 1) B (by omega)).1 (by omega))]
        simp only [dpB]
        rw [if_neg (by omega), if_pos (by omega)]
        rfl
      unfold spOne at h
      split at h
      · split at h
        · cases h
        · exact two 6 _ (by omega) (by omega) (by omega) h
      · split at h
        · split at h
          · cases h
          · exact two 7 _ (by omega) (by omega) (by omega) h
        · split at h
          · split at h
            · cases h
            · have hr := hr (by omega)
              obtain ⟨c1, q1, e1, h⟩ := spBind_ok h
              obtain ⟨u2, q2, e2, h⟩ := spBind_ok h
              cases h
              exact (ih _ _ _ _ _ (by omega) e1 d B (by omega)).1 (by omega)
          · split at h
            · rename_i k hk
              cases h
              have : k ≤ 4 := by
                unfold lwK at hk
                repeat' split at hk
                all_goals (cases hk; try omega)
              show (if (1 : Nat) < 2 then (if d < B ∧ (((1 : Nat) = 0 ∧ k ≤ 999) ∨ ((1 : Nat) = 1 ∧ k ≤ 4)) then dpB B (d + 1) [] else none) else _) = _
              rw [if_pos (by decide), if_pos ⟨by omega, Or.inr ⟨rfl, this⟩⟩]
              rfl
            · obtain ⟨v1, q1, e1, h⟩ := spBind_ok h
              cases h
              have h9 := spNum_hi e1
              show (if (0 : Nat) < 2 then (if d < B ∧ (((0 : Nat) = 0 ∧ v1 ≤ 999) ∨ ((0 : Nat) = 1 ∧ v1 ≤ 4)) then dpB B (d + 1) [] else none) else _) = _
              rw [if_pos (by decide), if_pos ⟨by omega, Or.inl ⟨rfl, by omega⟩⟩]
              rfl
    intro md o p q cs ho h d B hB
    unfold rq at hB
    match md with
    | 0 => exact ⟨fun _ => app 1 3 o p q (3 * (6 - o) + 3) cs ho (by omega) (by omega) (by unfold rq; simp) (by unfold rq; simp) h d B (by simpa using hB), fun h => by omega⟩
    | 1 => exact ⟨fun _ => app 2 4 o p q (3 * (6 - o) + 2) cs ho (by omega) (by omega) (by unfold rq; simp) (by unfold rq; simp) h d B (by simpa using hB), fun h => by omega⟩
    | 2 => exact ⟨fun _ => one o (sk tx p) q cs ho h d B (by simpa using hB), fun h => by omega⟩
    | 3 => exact ⟨fun h => by omega, fun _ => lp 43 45 2 3 1 3 o (sk tx p) q (3 * (6 - o) + 3) cs ho (by omega) (by omega) (by omega) (by omega) (by omega) (by omega) (by unfold rq; simp) (by unfold rq; simp) h d B (by simpa using hB)⟩
    | md + 4 => exact ⟨fun h => by omega, fun _ => lp 42 47 4 5 2 4 o (sk tx p) q (3 * (6 - o) + 2) cs ho (by omega) (by omega) (by omega) (by omega) (by omega) (by omega) (by unfold rq; simp) (by unfold rq; simp) h d B (by rw [if_neg (by omega), if_pos (by omega)] at hB; exact hB)⟩
theorem spLaw_dpB {tx : tX} {n : Nat} {cs : tC} (h : spLaw tx n = .inr cs) : dpB 23 0 cs = some 1 := by
  unfold spLaw at h
  split at h
  · cases h
  · rename_i cs9 q9 e
    split at h
    · cases h
    · cases h
      exact (spL_dpB 700 0 0 _ _ _ (by decide) e 0 23 (by decide)).1 (by decide)
theorem div_m1 (u : Int32) : u / (-1) = -u := by
  apply i32_ext
  have e : (-1 : Int32).toInt = -1 := by decide
  rw [Int32.toInt_div, e, Int32.toInt_neg, Int.tdiv_neg, Int.tdiv_one]
def knF (a b c d e : Int32) (j : Nat) : Int32 := [a, b, c, d, e].getD j 0
theorem tsw_x {x : Int32} (h : 0 ≤ x.toInt) : fmTsw 82 91 (-5) (-1) #[79, 67, 56, 45, 34] x = (173 : Int) := by
  unfold fmTsw
  rw [if_pos (by omega)]
  rfl
set_option maxRecDepth 20000 in
theorem jo_2 {M : fmM} {Q : fmR → fmM → Prop} {u v : Int32} (hq : Q (.inl (some (.int (u + v)))) M) : pvGood Tx 0 qX1_joined [.int (-8), .int u, .int v] M Q := by
  refine pvGood_of (Nat.le_of_ble_eq_true rfl) ?_
  show pvEv Tx 0 qX1_joined 0 [some (.int (-8)), some (.int u), some (.int v)] [] M Q
  refine pv_iloadn (pc := 0) (n := 0) 0 rfl rfl (fm_dec dtX1_joined 0 rfl) ?_
  refine pv_table (pc := 1) 58 (by decide) rfl (fm_dec dtX1_joined 1 rfl) ?_
  refine pv_iloadn (pc := 58) (n := 1) 1 rfl rfl (fm_dec dtX1_joined 16 rfl) ?_
  refine pv_iloadn (pc := 59) (n := 2) 2 rfl rfl (fm_dec dtX1_joined 17 rfl) ?_
  refine pv_iadd (pc := 60) (fm_dec dtX1_joined 18 rfl) ?_
  exact pv_ireturn (pc := 61) rfl (fm_dec dtX1_joined 19 rfl) hq
set_option maxRecDepth 20000 in
theorem jo_3 {M : fmM} {Q : fmR → fmM → Prop} {u v : Int32} (hq : Q (.inl (some (.int (u - v)))) M) : pvGood Tx 0 qX1_joined [.int (-9), .int u, .int v] M Q := by
  refine pvGood_of (Nat.le_of_ble_eq_true rfl) ?_
  show pvEv Tx 0 qX1_joined 0 [some (.int (-9)), some (.int u), some (.int v)] [] M Q
  refine pv_iloadn (pc := 0) (n := 0) 0 rfl rfl (fm_dec dtX1_joined 0 rfl) ?_
  refine pv_table (pc := 1) 62 (by decide) rfl (fm_dec dtX1_joined 1 rfl) ?_
  refine pv_iloadn (pc := 62) (n := 1) 1 rfl rfl (fm_dec dtX1_joined 20 rfl) ?_
  refine pv_iloadn (pc := 63) (n := 2) 2 rfl rfl (fm_dec dtX1_joined 21 rfl) ?_
  refine pv_isub (pc := 64) (fm_dec dtX1_joined 22 rfl) ?_
  exact pv_ireturn (pc := 65) rfl (fm_dec dtX1_joined 23 rfl) hq
set_option maxRecDepth 20000 in
theorem jo_4 {M : fmM} {Q : fmR → fmM → Prop} {u v : Int32} (hq : Q (.inl (some (.int (u * v)))) M) : pvGood Tx 0 qX1_joined [.int (-10), .int u, .int v] M Q := by
  refine pvGood_of (Nat.le_of_ble_eq_true rfl) ?_
  show pvEv Tx 0 qX1_joined 0 [some (.int (-10)), some (.int u), some (.int v)] [] M Q
  refine pv_iloadn (pc := 0) (n := 0) 0 rfl rfl (fm_dec dtX1_joined 0 rfl) ?_
  refine pv_table (pc := 1) 66 (by decide) rfl (fm_dec dtX1_joined 1 rfl) ?_
  refine pv_iloadn (pc := 66) (n := 1) 1 rfl rfl (fm_dec dtX1_joined 24 rfl) ?_
  refine pv_iloadn (pc := 67) (n := 2) 2 rfl rfl (fm_dec dtX1_joined 25 rfl) ?_
  refine pv_imul (pc := 68) (fm_dec dtX1_joined 26 rfl) ?_
  exact pv_ireturn (pc := 69) rfl (fm_dec dtX1_joined 27 rfl) hq
set_option maxRecDepth 20000 in
theorem jo_5 {M : fmM} {Q : fmR → fmM → Prop} {u v : Int32} (hq : Q (.inl (some (.int ((if v = 0 then 0 else if v = -1 then -u else u / v))))) M) : pvGood Tx 0 qX1_joined [.int (-11), .int u, .int v] M Q := by
  refine pvGood_of (Nat.le_of_ble_eq_true rfl) ?_
  show pvEv Tx 0 qX1_joined 0 [some (.int (-11)), some (.int u), some (.int v)] [] M Q
  refine pv_iloadn (pc := 0) (n := 0) 0 rfl rfl (fm_dec dtX1_joined 0 rfl) ?_
  refine pv_table (pc := 1) 70 (by decide) rfl (fm_dec dtX1_joined 1 rfl) ?_
  refine pv_iloadn (pc := 70) (n := 2) 2 rfl rfl (fm_dec dtX1_joined 28 rfl) ?_
  refine pv_if_ne (pc := 71) 78 (by decide) (fm_dec dtX1_joined 29 rfl) (fun hc71 => ?_) (fun hc71 => ?_)
  · refine pv_iloadn (pc := 78) (n := 1) 1 rfl rfl (fm_dec dtX1_joined 32 rfl) ?_
    refine pv_iloadn (pc := 79) (n := 2) 2 rfl rfl (fm_dec dtX1_joined 33 rfl) ?_
    refine pv_idiv (pc := 80) (fun h9 => hc71 h9) (fm_dec dtX1_joined 34 rfl) ?_
    exact pv_ireturn (pc := 81) rfl (fm_dec dtX1_joined 35 rfl) (by first | (rw [if_pos hc71] at hq; exact hq) | (rw [if_neg hc71] at hq; by_cases e9 : v = -1; (rw [if_pos e9] at hq; rw [e9, div_m1]; exact hq); (rw [if_neg e9] at hq; exact hq)))
  · refine pv_iconst (pc := 74) (v := 0) (by decide) (fm_dec dtX1_joined 30 rfl) ?_
    refine pv_goto (pc := 75) 81 (by decide) (fm_dec dtX1_joined 31 rfl) ?_
    exact pv_ireturn (pc := 81) rfl (fm_dec dtX1_joined 35 rfl) (by first | (rw [if_pos hc71] at hq; exact hq) | (rw [if_neg hc71] at hq; by_cases e9 : v = -1; (rw [if_pos e9] at hq; rw [e9, div_m1]; exact hq); (rw [if_neg e9] at hq; exact hq)))
set_option maxRecDepth 20000 in
theorem jo_6 {M : fmM} {Q : fmR → fmM → Prop} {u v : Int32} (hq : Q (.inl (some (.int (pvMx false u v)))) M) : pvGood Tx 0 qX1_joined [.int (-6), .int u, .int v] M Q := by
  refine pvGood_of (Nat.le_of_ble_eq_true rfl) ?_
  show pvEv Tx 0 qX1_joined 0 [some (.int (-6)), some (.int u), some (.int v)] [] M Q
  refine pv_iloadn (pc := 0) (n := 0) 0 rfl rfl (fm_dec dtX1_joined 0 rfl) ?_
  refine pv_table (pc := 1) 36 (by decide) rfl (fm_dec dtX1_joined 1 rfl) ?_
  refine pv_iloadn (pc := 36) (n := 1) 1 rfl rfl (fm_dec dtX1_joined 2 rfl) ?_
  refine pv_iloadn (pc := 37) (n := 2) 2 rfl rfl (fm_dec dtX1_joined 3 rfl) ?_
  refine pv_icmp_ge (pc := 38) 45 (by decide) (fm_dec dtX1_joined 4 rfl) (fun hc38 => ?_) (fun hc38 => ?_)
  · refine pv_iloadn (pc := 45) (n := 2) 2 rfl rfl (fm_dec dtX1_joined 7 rfl) ?_
    exact pv_ireturn (pc := 46) rfl (fm_dec dtX1_joined 8 rfl) (by have e9 : pvMx false u v = (if u.toInt ≤ v.toInt then u else v) := rfl; first | (rw [e9, if_pos (by rw [sc_le] at hc38; omega)] at hq; exact hq) | (rw [e9] at hq; by_cases h8 : u.toInt ≤ v.toInt; (have h7 : u = v := i32_ext (by rw [sc_le] at hc38; omega); rw [if_pos h8, h7] at hq; exact hq); (rw [if_neg h8] at hq; exact hq)))
  · refine pv_iloadn (pc := 41) (n := 1) 1 rfl rfl (fm_dec dtX1_joined 5 rfl) ?_
    refine pv_goto (pc := 42) 46 (by decide) (fm_dec dtX1_joined 6 rfl) ?_
    exact pv_ireturn (pc := 46) rfl (fm_dec dtX1_joined 8 rfl) (by have e9 : pvMx false u v = (if u.toInt ≤ v.toInt then u else v) := rfl; first | (rw [e9, if_pos (by rw [sc_le] at hc38; omega)] at hq; exact hq) | (rw [e9] at hq; by_cases h8 : u.toInt ≤ v.toInt; (have h7 : u = v := i32_ext (by rw [sc_le] at hc38; omega); rw [if_pos h8, h7] at hq; exact hq); (rw [if_neg h8] at hq; exact hq)))
set_option maxRecDepth 20000 in
theorem jo_7 {M : fmM} {Q : fmR → fmM → Prop} {u v : Int32} (hq : Q (.inl (some (.int (pvMx true u v)))) M) : pvGood Tx 0 qX1_joined [.int (-7), .int u, .int v] M Q := by
  refine pvGood_of (Nat.le_of_ble_eq_true rfl) ?_
  show pvEv Tx 0 qX1_joined 0 [some (.int (-7)), some (.int u), some (.int v)] [] M Q
  refine pv_iloadn (pc := 0) (n := 0) 0 rfl rfl (fm_dec dtX1_joined 0 rfl) ?_
  refine pv_table (pc := 1) 47 (by decide) rfl (fm_dec dtX1_joined 1 rfl) ?_
  refine pv_iloadn (pc := 47) (n := 1) 1 rfl rfl (fm_dec dtX1_joined 9 rfl) ?_
  refine pv_iloadn (pc := 48) (n := 2) 2 rfl rfl (fm_dec dtX1_joined 10 rfl) ?_
  refine pv_icmp_le (pc := 49) 56 (by decide) (fm_dec dtX1_joined 11 rfl) (fun hc49 => ?_) (fun hc49 => ?_)
  · refine pv_iloadn (pc := 56) (n := 2) 2 rfl rfl (fm_dec dtX1_joined 14 rfl) ?_
    exact pv_ireturn (pc := 57) rfl (fm_dec dtX1_joined 15 rfl) (by have e9 : pvMx true u v = (if u.toInt ≤ v.toInt then v else u) := rfl; first | (rw [e9, if_neg (by rw [sc_le] at hc49; omega)] at hq; exact hq) | (rw [e9, if_pos (by rw [sc_le] at hc49; omega)] at hq; exact hq))
  · refine pv_iloadn (pc := 52) (n := 1) 1 rfl rfl (fm_dec dtX1_joined 12 rfl) ?_
    refine pv_goto (pc := 53) 57 (by decide) (fm_dec dtX1_joined 13 rfl) ?_
    exact pv_ireturn (pc := 57) rfl (fm_dec dtX1_joined 15 rfl) (by have e9 : pvMx true u v = (if u.toInt ≤ v.toInt then v else u) := rfl; first | (rw [e9, if_neg (by rw [sc_le] at hc49; omega)] at hq; exact hq) | (rw [e9, if_pos (by rw [sc_le] at hc49; omega)] at hq; exact hq))
theorem c_joined {M : fmM} {Q : fmR → fmM → Prop} {x u v : Int32} {c : Nat} (h2 : 2 ≤ c) (h7 : c ≤ 7) (hx : x.toInt = cdV (c, 0)) (hq : Q (.inl (some (.int (opV c u v)))) M) : pvGood Tx 0 qX1_joined [.int x, .int u, .int v] M Q := by
  have hc : c = 2 ∨ c = 3 ∨ c = 4 ∨ c = 5 ∨ c = 6 ∨ c = 7 := by omega
  rcases hc with rfl | rfl | rfl | rfl | rfl | rfl
  · have e : x = (-8) := i32_ext (hx.trans (by decide))
    subst e
    exact jo_2 hq
  · have e : x = (-9) := i32_ext (hx.trans (by decide))
    subst e
    exact jo_3 hq
  · have e : x = (-10) := i32_ext (hx.trans (by decide))
    subst e
    exact jo_4 hq
  · have e : x = (-11) := i32_ext (hx.trans (by decide))
    subst e
    exact jo_5 hq
  · have e : x = (-6) := i32_ext (hx.trans (by decide))
    subst e
    exact jo_6 hq
  · have e : x = (-7) := i32_ext (hx.trans (by decide))
    subst e
    exact jo_7 hq
set_option maxRecDepth 20000 in
theorem xo_loop {Q : fmR → fmM → Prop} {cs : tC} {M0 : fmM} {a1 a2 a3 a4 a5 : Int32} (hsz : (M0.1 23 3).toInt = (cs.length : Int)) (h150 : cs.length ≤ 150) (hcd : ∀ i c, cs[i]? = some c → (M0.1 24 i).toInt = cdV c) : ∀ (m : Nat) (M : fmM) (i d : Nat) (tp ii : Int32) (v8 : Option Value), cs.length - i = m → i ≤ cs.length → ii.toInt = (i : Int) → tp.toInt = (d : Int) → d ≤ 23 → dpB 23 d (cs.drop i) = some 1 → (∀ k j, k ≠ 26 → M.1 k j = M0.1 k j) → M.2 = M0.2 → (∀ (M' : fmM) (tp' ii' : Int32) (v8' : Option Value), (∀ k j, k ≠ 26 → M'.1 k j = M0.1 k j) → M'.2 = M0.2 → M'.1 26 0 = lwR (knF a1 a2 a3 a4 a5) (cs.drop i) d (M.1 26) → pvEv Tx 1 qX1_outcome 191 [some (.ref 23), some (.int a1), some (.int a2), some (.int a3), some (.int a4), some (.int a5), some (.int tp'), some (.int ii'), v8'] [] M' Q) → pvEv Tx 1 qX1_outcome 6 [some (.ref 23), some (.int a1), some (.int a2), some (.int a3), some (.int a4), some (.int a5), some (.int tp), some (.int ii), v8] [] M Q := by
  intro m
  induction m using Nat.strongRecOn with
  | _ m ih =>
    intro M i d tp ii v8 hm hile hii htp hdle hdB hfr hfr2 hq
    refine pv_iload (pc := 6) (i := 7) rfl (fm_dec dtX1_outcome 4 rfl) ?_
    refine pv_aloadn (pc := 8) (n := 0) 0 rfl rfl (fm_dec dtX1_outcome 5 rfl) ?_
    refine pv_getI (k := 23) (j := 3) (ci := 1) (pc := 9) pfl_X1_24 (by decide) rfl (by decide) (fm_dec dtX1_outcome 6 rfl) ?_
    refine pv_icmp_ge (pc := 12) 191 (by decide) (fm_dec dtX1_outcome 7 rfl) (fun hc12 => ?_) (fun hc12 => ?_)
    · have hie : i = cs.length := (by rw [sc_le] at hc12; have h9 := hfr 23 3 (by decide); rw [h9] at hc12; omega)
      refine hq M tp ii _ hfr hfr2 ?_
      rw [List.drop_eq_nil_of_le (by omega)]
      rfl
    · refine pv_iload (pc := 15) (i := 6) rfl (fm_dec dtX1_outcome 8 rfl) ?_
      refine pv_bipush (pc := 17) (v := 24) (by decide) (fm_dec dtX1_outcome 9 rfl) ?_
      refine pv_icmp_ge (pc := 19) 191 (by decide) (fm_dec dtX1_outcome 10 rfl) (fun hc19 => by exfalso; rw [sc_le] at hc19; have h9 : (24 : Int32).toInt = 24 := (by decide); omega) (fun _ => ?_)
      refine pv_aloadn (pc := 22) (n := 0) 0 rfl rfl (fm_dec dtX1_outcome 11 rfl) ?_
      refine pv_getR (k := 23) (j := 0) (ci := 1) (pc := 23) 24 rfl (by decide) pfl_X1_9 (by decide) rfl (by decide) (fm_dec dtX1_outcome 12 rfl) ?_
      refine pv_iload (pc := 26) (i := 7) rfl (fm_dec dtX1_outcome 13 rfl) ?_
      refine pv_iald (k := 24) (n := 150) (pc := 28) (by decide) rfl rfl (ix_in hii (by rw [sc_le] at hc12; have h9 := hfr 23 3 (by decide); rw [h9] at hc12; omega)) (fm_dec dtX1_outcome 14 rfl) ?_
      refine pv_istore (pc := 29) (i := 8) (by decide) rfl (fm_dec dtX1_outcome 15 rfl) ?_
      dsimp only [List.set_cons_zero, List.set_cons_succ]
      have hil : i < cs.length := (by rw [sc_le] at hc12; have h9 := hfr 23 3 (by decide); rw [h9] at hc12; omega)
      have hi9 : ii.toNatClampNeg = i := i32_cl hii
      obtain ⟨c, hci⟩ : ∃ c, cs[i]? = some c := ⟨cs[i], List.getElem?_eq_getElem hil⟩
      have hdr : cs.drop i = c :: cs.drop (i + 1) := (by rw [List.drop_eq_getElem_cons hil]; congr 1; exact (List.getElem?_eq_some_iff.mp hci).2)
      have hx : (M.1 24 ii.toNatClampNeg).toInt = cdV c := (by rw [hi9, hfr 24 i (by decide)]; exact hcd i c hci)
      have hdB0 := hdB
      rw [hdr] at hdB
      simp only [dpB] at hdB
      by_cases hc2 : c.1 < 2
      · rw [if_pos hc2] at hdB
        split at hdB
        · rename_i hg
          refine pv_iload (pc := 31) (i := 8) rfl (fm_dec dtX1_outcome 16 rfl) ?_
          refine pv_bipush (pc := 33) (v := (-6)) (by decide) (fm_dec dtX1_outcome 17 rfl) ?_
          refine pv_icmp_gt (pc := 35) 80 (by decide) (fm_dec dtX1_outcome 18 rfl) (fun _ => ?_) (fun hc35 => by exfalso; rw [sc_lt] at hc35; rw [hx] at hc35; have h9 : (-6 : Int32).toInt = -6 := (by decide); apply hc35; unfold cdV; split; omega; split; omega; omega)
          have hc01 : c.1 = 0 ∨ c.1 = 1 := (by omega)
          rcases hc01 with hc0 | hc1
          · have hx0 : 0 ≤ (M.1 24 ii.toNatClampNeg).toInt := (by rw [hx]; unfold cdV; rw [if_pos hc0]; omega)
            have ev : Int32.ofInt (c.2 : Int) = M.1 24 ii.toNatClampNeg := i32_ext (by rw [hx]; unfold cdV; rw [if_pos hc0]; exact Int32.toInt_ofInt_of_le (by omega) (by omega))
            refine pv_iload (pc := 80) (i := 8) rfl (fm_dec dtX1_outcome 42 rfl) ?_
            refine pv_table (pc := 82) 173 (by decide) (tsw_x hx0) (fm_dec dtX1_outcome 43 rfl) ?_
            refine pv_aloadn (pc := 173) (n := 0) 0 rfl rfl (fm_dec dtX1_outcome 74 rfl) ?_
            refine pv_getR (k := 23) (j := 2) (ci := 1) (pc := 174) 26 rfl (by decide) pfl_X1_18 (by decide) rfl (by decide) (fm_dec dtX1_outcome 75 rfl) ?_
            refine pv_iload (pc := 177) (i := 6) rfl (fm_dec dtX1_outcome 76 rfl) ?_
            refine pv_iload (pc := 179) (i := 8) rfl (fm_dec dtX1_outcome 77 rfl) ?_
            refine pv_iast (k := 26) (n := 24) (pc := 181) (by decide) rfl rfl (ix_in htp (by omega)) (fm_dec dtX1_outcome 78 rfl) ?_
            refine pv_iincc (pc := 182) 6 1 (by decide) rfl (by decide) rfl (fm_dec dtX1_outcome 79 rfl) ?_
            dsimp only [List.set_cons_zero, List.set_cons_succ]
            refine pv_iincc (pc := 185) 7 1 (by decide) rfl (by decide) rfl (fm_dec dtX1_outcome 80 rfl) ?_
            dsimp only [List.set_cons_zero, List.set_cons_succ]
            refine pv_goto (pc := 188) 6 (by decide) (fm_dec dtX1_outcome 81 rfl) ?_
            rw [i32_cl htp]
            have eL : lwR (knF a1 a2 a3 a4 a5) (cs.drop i) d (M.1 26) = lwR (knF a1 a2 a3 a4 a5) (cs.drop (i + 1)) (d + 1) ((fmI M 26 d (M.1 24 ii.toNatClampNeg)).1 26) := (by rw [hdr, fmI_row]; simp only [lwR]; rw [if_pos hc2, if_pos hc0, ev])
            exact ih (cs.length - (i + 1)) (by omega) _ (i + 1) (d + 1) _ _ _ rfl hil (i32_p1 hii (by omega)) (i32_p1 htp (by omega)) (by omega) hdB (fun k j h => (by rw [fmI_k _ _ h]; exact hfr k j h)) hfr2 (fun M9 tp9 ii9 v9 g1 g2 g3 => hq M9 tp9 ii9 v9 g1 g2 (g3.trans eL.symm))
          · have hc5 : c.2 = 0 ∨ c.2 = 1 ∨ c.2 = 2 ∨ c.2 = 3 ∨ c.2 = 4 := (by omega)
            rcases hc5 with e5 | e5 | e5 | e5 | e5
            · have ex : M.1 24 ii.toNatClampNeg = (-1) := i32_ext (by rw [hx]; unfold cdV; rw [if_neg (by omega), if_pos hc1, e5]; decide)
              rw [ex]
              refine pv_iload (pc := 80) (i := 8) rfl (fm_dec dtX1_outcome 42 rfl) ?_
              refine pv_table (pc := 82) 116 (by decide) rfl (fm_dec dtX1_outcome 43 rfl) ?_
              refine pv_aloadn (pc := 116) (n := 0) 0 rfl rfl (fm_dec dtX1_outcome 44 rfl) ?_
              refine pv_getR (k := 23) (j := 2) (ci := 1) (pc := 117) 26 rfl (by decide) pfl_X1_18 (by decide) rfl (by decide) (fm_dec dtX1_outcome 45 rfl) ?_
              refine pv_iload (pc := 120) (i := 6) rfl (fm_dec dtX1_outcome 46 rfl) ?_
              refine pv_iloadn (pc := 122) (n := 1) 1 rfl rfl (fm_dec dtX1_outcome 47 rfl) ?_
              refine pv_iast (k := 26) (n := 24) (pc := 123) (by decide) rfl rfl (ix_in htp (by omega)) (fm_dec dtX1_outcome 48 rfl) ?_
              refine pv_goto (pc := 124) 182 (by decide) (fm_dec dtX1_outcome 49 rfl) ?_
              refine pv_iincc (pc := 182) 6 1 (by decide) rfl (by decide) rfl (fm_dec dtX1_outcome 79 rfl) ?_
              dsimp only [List.set_cons_zero, List.set_cons_succ]
              refine pv_iincc (pc := 185) 7 1 (by decide) rfl (by decide) rfl (fm_dec dtX1_outcome 80 rfl) ?_
              dsimp only [List.set_cons_zero, List.set_cons_succ]
              refine pv_goto (pc := 188) 6 (by decide) (fm_dec dtX1_outcome 81 rfl) ?_
              rw [i32_cl htp]
              have eL : lwR (knF a1 a2 a3 a4 a5) (cs.drop i) d (M.1 26) = lwR (knF a1 a2 a3 a4 a5) (cs.drop (i + 1)) (d + 1) ((fmI M 26 d a1).1 26) := (by rw [hdr, fmI_row]; simp only [lwR]; rw [if_pos hc2, if_neg (by omega), e5]; rfl)
              exact ih (cs.length - (i + 1)) (by omega) _ (i + 1) (d + 1) _ _ _ rfl hil (i32_p1 hii (by omega)) (i32_p1 htp (by omega)) (by omega) hdB (fun k j h => (by rw [fmI_k _ _ h]; exact hfr k j h)) hfr2 (fun M9 tp9 ii9 v9 g1 g2 g3 => hq M9 tp9 ii9 v9 g1 g2 (g3.trans eL.symm))
            · have ex : M.1 24 ii.toNatClampNeg = (-2) := i32_ext (by rw [hx]; unfold cdV; rw [if_neg (by omega), if_pos hc1, e5]; decide)
              rw [ex]
              refine pv_iload (pc := 80) (i := 8) rfl (fm_dec dtX1_outcome 42 rfl) ?_
              refine pv_table (pc := 82) 127 (by decide) rfl (fm_dec dtX1_outcome 43 rfl) ?_
              refine pv_aloadn (pc := 127) (n := 0) 0 rfl rfl (fm_dec dtX1_outcome 50 rfl) ?_
              refine pv_getR (k := 23) (j := 2) (ci := 1) (pc := 128) 26 rfl (by decide) pfl_X1_18 (by decide) rfl (by decide) (fm_dec dtX1_outcome 51 rfl) ?_
              refine pv_iload (pc := 131) (i := 6) rfl (fm_dec dtX1_outcome 52 rfl) ?_
              refine pv_iloadn (pc := 133) (n := 2) 2 rfl rfl (fm_dec dtX1_outcome 53 rfl) ?_
              refine pv_iast (k := 26) (n := 24) (pc := 134) (by decide) rfl rfl (ix_in htp (by omega)) (fm_dec dtX1_outcome 54 rfl) ?_
              refine pv_goto (pc := 135) 182 (by decide) (fm_dec dtX1_outcome 55 rfl) ?_
              refine pv_iincc (pc := 182) 6 1 (by decide) rfl (by decide) rfl (fm_dec dtX1_outcome 79 rfl) ?_
              dsimp only [List.set_cons_zero, List.set_cons_succ]
              refine pv_iincc (pc := 185) 7 1 (by decide) rfl (by decide) rfl (fm_dec dtX1_outcome 80 rfl) ?_
              dsimp only [List.set_cons_zero, List.set_cons_succ]
              refine pv_goto (pc := 188) 6 (by decide) (fm_dec dtX1_outcome 81 rfl) ?_
              rw [i32_cl htp]
              have eL : lwR (knF a1 a2 a3 a4 a5) (cs.drop i) d (M.1 26) = lwR (knF a1 a2 a3 a4 a5) (cs.drop (i + 1)) (d + 1) ((fmI M 26 d a2).1 26) := (by rw [hdr, fmI_row]; simp only [lwR]; rw [if_pos hc2, if_neg (by omega), e5]; rfl)
              exact ih (cs.length - (i + 1)) (by omega) _ (i + 1) (d + 1) _ _ _ rfl hil (i32_p1 hii (by omega)) (i32_p1 htp (by omega)) (by omega) hdB (fun k j h => (by rw [fmI_k _ _ h]; exact hfr k j h)) hfr2 (fun M9 tp9 ii9 v9 g1 g2 g3 => hq M9 tp9 ii9 v9 g1 g2 (g3.trans eL.symm))
            · have ex : M.1 24 ii.toNatClampNeg = (-3) := i32_ext (by rw [hx]; unfold cdV; rw [if_neg (by omega), if_pos hc1, e5]; decide)
              rw [ex]
              refine pv_iload (pc := 80) (i := 8) rfl (fm_dec dtX1_outcome 42 rfl) ?_
              refine pv_table (pc := 82) 138 (by decide) rfl (fm_dec dtX1_outcome 43 rfl) ?_
              refine pv_aloadn (pc := 138) (n := 0) 0 rfl rfl (fm_dec dtX1_outcome 56 rfl) ?_
              refine pv_getR (k := 23) (j := 2) (ci := 1) (pc := 139) 26 rfl (by decide) pfl_X1_18 (by decide) rfl (by decide) (fm_dec dtX1_outcome 57 rfl) ?_
              refine pv_iload (pc := 142) (i := 6) rfl (fm_dec dtX1_outcome 58 rfl) ?_
              refine pv_iloadn (pc := 144) (n := 3) 3 rfl rfl (fm_dec dtX1_outcome 59 rfl) ?_
              refine pv_iast (k := 26) (n := 24) (pc := 145) (by decide) rfl rfl (ix_in htp (by omega)) (fm_dec dtX1_outcome 60 rfl) ?_
              refine pv_goto (pc := 146) 182 (by decide) (fm_dec dtX1_outcome 61 rfl) ?_
              refine pv_iincc (pc := 182) 6 1 (by decide) rfl (by decide) rfl (fm_dec dtX1_outcome 79 rfl) ?_
              dsimp only [List.set_cons_zero, List.set_cons_succ]
              refine pv_iincc (pc := 185) 7 1 (by decide) rfl (by decide) rfl (fm_dec dtX1_outcome 80 rfl) ?_
              dsimp only [List.set_cons_zero, List.set_cons_succ]
              refine pv_goto (pc := 188) 6 (by decide) (fm_dec dtX1_outcome 81 rfl) ?_
              rw [i32_cl htp]
              have eL : lwR (knF a1 a2 a3 a4 a5) (cs.drop i) d (M.1 26) = lwR (knF a1 a2 a3 a4 a5) (cs.drop (i + 1)) (d + 1) ((fmI M 26 d a3).1 26) := (by rw [hdr, fmI_row]; simp only [lwR]; rw [if_pos hc2, if_neg (by omega), e5]; rfl)
              exact ih (cs.length - (i + 1)) (by omega) _ (i + 1) (d + 1) _ _ _ rfl hil (i32_p1 hii (by omega)) (i32_p1 htp (by omega)) (by omega) hdB (fun k j h => (by rw [fmI_k _ _ h]; exact hfr k j h)) hfr2 (fun M9 tp9 ii9 v9 g1 g2 g3 => hq M9 tp9 ii9 v9 g1 g2 (g3.trans eL.symm))
            · have ex : M.1 24 ii.toNatClampNeg = (-4) := i32_ext (by rw [hx]; unfold cdV; rw [if_neg (by omega), if_pos hc1, e5]; decide)
              rw [ex]
              refine pv_iload (pc := 80) (i := 8) rfl (fm_dec dtX1_outcome 42 rfl) ?_
              refine pv_table (pc := 82) 149 (by decide) rfl (fm_dec dtX1_outcome 43 rfl) ?_
              refine pv_aloadn (pc := 149) (n := 0) 0 rfl rfl (fm_dec dtX1_outcome 62 rfl) ?_
              refine pv_getR (k := 23) (j := 2) (ci := 1) (pc := 150) 26 rfl (by decide) pfl_X1_18 (by decide) rfl (by decide) (fm_dec dtX1_outcome 63 rfl) ?_
              refine pv_iload (pc := 153) (i := 6) rfl (fm_dec dtX1_outcome 64 rfl) ?_
              refine pv_iload (pc := 155) (i := 4) rfl (fm_dec dtX1_outcome 65 rfl) ?_
              refine pv_iast (k := 26) (n := 24) (pc := 157) (by decide) rfl rfl (ix_in htp (by omega)) (fm_dec dtX1_outcome 66 rfl) ?_
              refine pv_goto (pc := 158) 182 (by decide) (fm_dec dtX1_outcome 67 rfl) ?_
              refine pv_iincc (pc := 182) 6 1 (by decide) rfl (by decide) rfl (fm_dec dtX1_outcome 79 rfl) ?_
              dsimp only [List.set_cons_zero, List.set_cons_succ]
              refine pv_iincc (pc := 185) 7 1 (by decide) rfl (by decide) rfl (fm_dec dtX1_outcome 80 rfl) ?_
              dsimp only [List.set_cons_zero, List.set_cons_succ]
              refine pv_goto (pc := 188) 6 (by decide) (fm_dec dtX1_outcome 81 rfl) ?_
              rw [i32_cl htp]
              have eL : lwR (knF a1 a2 a3 a4 a5) (cs.drop i) d (M.1 26) = lwR (knF a1 a2 a3 a4 a5) (cs.drop (i + 1)) (d + 1) ((fmI M 26 d a4).1 26) := (by rw [hdr, fmI_row]; simp only [lwR]; rw [if_pos hc2, if_neg (by omega), e5]; rfl)
              exact ih (cs.length - (i + 1)) (by omega) _ (i + 1) (d + 1) _ _ _ rfl hil (i32_p1 hii (by omega)) (i32_p1 htp (by omega)) (by omega) hdB (fun k j h => (by rw [fmI_k _ _ h]; exact hfr k j h)) hfr2 (fun M9 tp9 ii9 v9 g1 g2 g3 => hq M9 tp9 ii9 v9 g1 g2 (g3.trans eL.symm))
            · have ex : M.1 24 ii.toNatClampNeg = (-5) := i32_ext (by rw [hx]; unfold cdV; rw [if_neg (by omega), if_pos hc1, e5]; decide)
              rw [ex]
              refine pv_iload (pc := 80) (i := 8) rfl (fm_dec dtX1_outcome 42 rfl) ?_
              refine pv_table (pc := 82) 161 (by decide) rfl (fm_dec dtX1_outcome 43 rfl) ?_
              refine pv_aloadn (pc := 161) (n := 0) 0 rfl rfl (fm_dec dtX1_outcome 68 rfl) ?_
              refine pv_getR (k := 23) (j := 2) (ci := 1) (pc := 162) 26 rfl (by decide) pfl_X1_18 (by decide) rfl (by decide) (fm_dec dtX1_outcome 69 rfl) ?_
              refine pv_iload (pc := 165) (i := 6) rfl (fm_dec dtX1_outcome 70 rfl) ?_
              refine pv_iload (pc := 167) (i := 5) rfl (fm_dec dtX1_outcome 71 rfl) ?_
              refine pv_iast (k := 26) (n := 24) (pc := 169) (by decide) rfl rfl (ix_in htp (by omega)) (fm_dec dtX1_outcome 72 rfl) ?_
              refine pv_goto (pc := 170) 182 (by decide) (fm_dec dtX1_outcome 73 rfl) ?_
              refine pv_iincc (pc := 182) 6 1 (by decide) rfl (by decide) rfl (fm_dec dtX1_outcome 79 rfl) ?_
              dsimp only [List.set_cons_zero, List.set_cons_succ]
              refine pv_iincc (pc := 185) 7 1 (by decide) rfl (by decide) rfl (fm_dec dtX1_outcome 80 rfl) ?_
              dsimp only [List.set_cons_zero, List.set_cons_succ]
              refine pv_goto (pc := 188) 6 (by decide) (fm_dec dtX1_outcome 81 rfl) ?_
              rw [i32_cl htp]
              have eL : lwR (knF a1 a2 a3 a4 a5) (cs.drop i) d (M.1 26) = lwR (knF a1 a2 a3 a4 a5) (cs.drop (i + 1)) (d + 1) ((fmI M 26 d a5).1 26) := (by rw [hdr, fmI_row]; simp only [lwR]; rw [if_pos hc2, if_neg (by omega), e5]; rfl)
              exact ih (cs.length - (i + 1)) (by omega) _ (i + 1) (d + 1) _ _ _ rfl hil (i32_p1 hii (by omega)) (i32_p1 htp (by omega)) (by omega) hdB (fun k j h => (by rw [fmI_k _ _ h]; exact hfr k j h)) hfr2 (fun M9 tp9 ii9 v9 g1 g2 g3 => hq M9 tp9 ii9 v9 g1 g2 (g3.trans eL.symm))
        · cases hdB
      · rw [if_neg hc2] at hdB
        split at hdB
        · rename_i hg
          have hx2 : (M.1 24 ii.toNatClampNeg).toInt = cdV (c.1, 0) := (by have e0 : ¬ c.1 = 0 := (by omega); have e1 : ¬ c.1 = 1 := (by omega); rw [hx]; unfold cdV; simp only [if_neg e0, if_neg e1])
          have hd1 : (tp + -1).toInt = ((d - 1 : Nat) : Int) := sub1 htp hg.1 (by omega)
          have hd2 : (tp + -1 - 1).toInt = ((d - 2 : Nat) : Int) := sub2 htp hg.1 (by omega)
          refine pv_iload (pc := 31) (i := 8) rfl (fm_dec dtX1_outcome 16 rfl) ?_
          refine pv_bipush (pc := 33) (v := (-6)) (by decide) (fm_dec dtX1_outcome 17 rfl) ?_
          refine pv_icmp_gt (pc := 35) 80 (by decide) (fm_dec dtX1_outcome 18 rfl) (fun hc35 => by exfalso; rw [sc_lt, hx2] at hc35; have h9 : (-6 : Int32).toInt = -6 := (by decide); revert hc35; unfold cdV; rw [if_neg (by omega), if_neg (by omega)]; split <;> omega) (fun _ => ?_)
          refine pv_iload (pc := 38) (i := 6) rfl (fm_dec dtX1_outcome 19 rfl) ?_
          refine pv_iconst (pc := 40) (v := 2) (by decide) (fm_dec dtX1_outcome 20 rfl) ?_
          refine pv_icmp_lt (pc := 41) 80 (by decide) (fm_dec dtX1_outcome 21 rfl) (fun hc41 => by exfalso; rw [sc_lt] at hc41; have h9 : (2 : Int32).toInt = 2 := (by decide); omega) (fun _ => ?_)
          refine pv_iincc (pc := 44) 6 (-1) (by decide) rfl (by decide) rfl (fm_dec dtX1_outcome 22 rfl) ?_
          dsimp only [List.set_cons_zero, List.set_cons_succ]
          refine pv_aloadn (pc := 47) (n := 0) 0 rfl rfl (fm_dec dtX1_outcome 23 rfl) ?_
          refine pv_getR (k := 23) (j := 2) (ci := 1) (pc := 48) 26 rfl (by decide) pfl_X1_18 (by decide) rfl (by decide) (fm_dec dtX1_outcome 24 rfl) ?_
          refine pv_iload (pc := 51) (i := 6) rfl (fm_dec dtX1_outcome 25 rfl) ?_
          refine pv_iconst (pc := 53) (v := 1) (by decide) (fm_dec dtX1_outcome 26 rfl) ?_
          refine pv_isub (pc := 54) (fm_dec dtX1_outcome 27 rfl) ?_
          refine pv_iload (pc := 55) (i := 8) rfl (fm_dec dtX1_outcome 28 rfl) ?_
          refine pv_aloadn (pc := 57) (n := 0) 0 rfl rfl (fm_dec dtX1_outcome 29 rfl) ?_
          refine pv_getR (k := 23) (j := 2) (ci := 1) (pc := 58) 26 rfl (by decide) pfl_X1_18 (by decide) rfl (by decide) (fm_dec dtX1_outcome 30 rfl) ?_
          refine pv_iload (pc := 61) (i := 6) rfl (fm_dec dtX1_outcome 31 rfl) ?_
          refine pv_iconst (pc := 63) (v := 1) (by decide) (fm_dec dtX1_outcome 32 rfl) ?_
          refine pv_isub (pc := 64) (fm_dec dtX1_outcome 33 rfl) ?_
          refine pv_iald (k := 26) (n := 24) (pc := 65) (by decide) rfl rfl (ix_in hd2 (by omega)) (fm_dec dtX1_outcome 34 rfl) ?_
          refine pv_aloadn (pc := 66) (n := 0) 0 rfl rfl (fm_dec dtX1_outcome 35 rfl) ?_
          refine pv_getR (k := 23) (j := 2) (ci := 1) (pc := 67) 26 rfl (by decide) pfl_X1_18 (by decide) rfl (by decide) (fm_dec dtX1_outcome 36 rfl) ?_
          refine pv_iload (pc := 70) (i := 6) rfl (fm_dec dtX1_outcome 37 rfl) ?_
          refine pv_iald (k := 26) (n := 24) (pc := 72) (by decide) rfl rfl (ix_in hd1 (by omega)) (fm_dec dtX1_outcome 38 rfl) ?_
          refine pv_iS3 (d' := 0) (pc := 73) pcs_X1_85 (Nat.le_of_ble_eq_true rfl) (by decide) (fm_dec dtX1_outcome 39 rfl) ?_
          refine c_joined (c := c.1) (by omega) hg.2 hx2 ?_
          refine pv_then1 ?_
          refine pv_iast (k := 26) (n := 24) (pc := 76) (by decide) rfl rfl (ix_in hd2 (by omega)) (fm_dec dtX1_outcome 40 rfl) ?_
          refine pv_goto (pc := 77) 185 (by decide) (fm_dec dtX1_outcome 41 rfl) ?_
          refine pv_iincc (pc := 185) 7 1 (by decide) rfl (by decide) rfl (fm_dec dtX1_outcome 80 rfl) ?_
          dsimp only [List.set_cons_zero, List.set_cons_succ]
          refine pv_goto (pc := 188) 6 (by decide) (fm_dec dtX1_outcome 81 rfl) ?_
          rw [i32_cl hd1, i32_cl hd2]
          have eL : lwR (knF a1 a2 a3 a4 a5) (cs.drop i) d (M.1 26) = lwR (knF a1 a2 a3 a4 a5) (cs.drop (i + 1)) (d - 1) ((fmI M 26 (d - 2) (opV c.1 (M.1 26 (d - 2)) (M.1 26 (d - 1)))).1 26) := (by rw [hdr, fmI_row]; simp only [lwR]; rw [if_neg hc2])
          exact ih (cs.length - (i + 1)) (by omega) _ (i + 1) (d - 1) _ _ _ rfl hil (i32_p1 hii (by omega)) hd1 (by omega) hdB (fun k j h => (by rw [fmI_k _ _ h]; exact hfr k j h)) hfr2 (fun M9 tp9 ii9 v9 g1 g2 g3 => hq M9 tp9 ii9 v9 g1 g2 (g3.trans eL.symm))
        · cases hdB
def outV (x : Int32) : Int32 := pvMx true 0 (pvMx false 64 x)
set_option maxRecDepth 20000 in
theorem c_xout {M : fmM} {Q : fmR → fmM → Prop} {cs : tC} {a1 a2 a3 a4 a5 : Int32} (hsz : (M.1 23 3).toInt = (cs.length : Int)) (h150 : cs.length ≤ 150) (hcd : ∀ i c, cs[i]? = some c → (M.1 24 i).toInt = cdV c) (hd : dpB 23 0 cs = some 1) (hq : ∀ M' : fmM, (∀ k j, k ≠ 26 → M'.1 k j = M.1 k j) → M'.2 = M.2 → Q (.inl (some (.int (outV (lwR (knF a1 a2 a3 a4 a5) cs 0 (M.1 26)))))) M') : pvGood Tx 1 qX1_outcome [.ref 23, .int a1, .int a2, .int a3, .int a4, .int a5] M Q := by
  refine pvGood_of (Nat.le_of_ble_eq_true rfl) ?_
  show pvEv Tx 1 qX1_outcome 0 [some (.ref 23), some (.int a1), some (.int a2), some (.int a3), some (.int a4), some (.int a5), none, none, none] [] M Q
  refine pv_iconst (pc := 0) (v := 0) (by decide) (fm_dec dtX1_outcome 0 rfl) ?_
  refine pv_istore (pc := 1) (i := 6) (by decide) rfl (fm_dec dtX1_outcome 1 rfl) ?_
  dsimp only [List.set_cons_zero, List.set_cons_succ]
  refine pv_iconst (pc := 3) (v := 0) (by decide) (fm_dec dtX1_outcome 2 rfl) ?_
  refine pv_istore (pc := 4) (i := 7) (by decide) rfl (fm_dec dtX1_outcome 3 rfl) ?_
  dsimp only [List.set_cons_zero, List.set_cons_succ]
  refine xo_loop hsz h150 hcd _ M 0 0 0 0 _ rfl (Nat.zero_le _) (by decide) (by decide) (by decide) hd (fun _ _ _ => rfl) rfl (fun M9 tp9 ii9 v9 g1 g2 g3 => ?_)
  rw [List.drop_zero] at g3
  refine pv_iconst (pc := 191) (v := 0) (by decide) (fm_dec dtX1_outcome 82 rfl) ?_
  refine pv_bipush (pc := 192) (v := 64) (by decide) (fm_dec dtX1_outcome 83 rfl) ?_
  refine pv_aloadn (pc := 194) (n := 0) 0 rfl rfl (fm_dec dtX1_outcome 84 rfl) ?_
  refine pv_getR (k := 23) (j := 2) (ci := 1) (pc := 195) 26 rfl (by decide) pfl_X1_18 (by decide) rfl (by decide) (fm_dec dtX1_outcome 85 rfl) ?_
  refine pv_iconst (pc := 198) (v := 0) (by decide) (fm_dec dtX1_outcome 86 rfl) ?_
  refine pv_iald (k := 26) (n := 24) (pc := 199) (by decide) rfl rfl (fm_inl (by decide)) (fm_dec dtX1_outcome 87 rfl) ?_
  refine pv_mm (pc := 200) pmm_X1_89 (by decide) (Nat.le_of_ble_eq_true rfl) (fm_dec dtX1_outcome 88 rfl) ?_
  refine pv_mm (pc := 203) pmm_X1_94 (by decide) (Nat.le_of_ble_eq_true rfl) (fm_dec dtX1_outcome 89 rfl) ?_
  exact pv_ireturn (pc := 206) rfl (fm_dec dtX1_outcome 90 rfl) (by rw [show M9.1 26 (0 : Int32).toNatClampNeg = M9.1 26 0 from rfl, g3]; exact hq M9 g1 g2)
end
