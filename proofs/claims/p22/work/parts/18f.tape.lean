-- THE TAPE, exactly
/-- a text of n bytes may be taken -/
def txP (n : Int32) (most fill : Int) : Prop := 0 ≤ n.toInt ∧ n.toInt ≤ most ∧ n.toInt ≤ fill
def opM (M : fmM) (n : Int32) : fmM := fmI (fmI (fmI (fmI (fmI M 1 2 n) 1 3 0) 1 1 0) 1 4 0) 1 5 (-1)
theorem mn_t {n x z : Int32} (h : n.toInt ≤ (pvMx false x z).toInt) : n.toInt ≤ x.toInt ∧ n.toInt ≤ z.toInt := by
  have h : n.toInt ≤ (if x.toInt ≤ z.toInt then x else z).toInt := h
  split at h <;> omega
theorem mn_f {n x z : Int32} (h : n.toInt ≤ x.toInt ∧ n.toInt ≤ z.toInt) : n.toInt ≤ (pvMx false x z).toInt := by
  show n.toInt ≤ (if x.toInt ≤ z.toInt then x else z).toInt
  split <;> omega
theorem inv_open {M : fmM} {n : Int32} (hI : scInv Tx invX M) (h0 : 0 ≤ n.toInt) (h6 : n.toInt ≤ 600) : scInv Tx invX (opM M n) := xInv.put (xInv.put (xInv.put (xInv.put (xInv.put hI ⟨h0, h6⟩) (by decide)) (by decide)) (by decide)) (by decide)
/-- what a text's call leaves of the tape -/
def txE (M : fmM) (n : Int32) (most : Int) (M' : fmM) : Prop := (txP n most (M.1 1 1).toInt ∧ M'.1 1 1 = 0) ∨ (¬ txP n most (M.1 1 1).toInt ∧ M'.1 1 1 = M.1 1 1 ∧ M'.1 2 = M.1 2)
def txG (M : fmM) (n : Int32) (most : Int) (M' : fmM) : Prop := (txP n most (M.1 0 1).toInt ∧ M'.1 0 1 = 0) ∨ (¬ txP n most (M.1 0 1).toInt ∧ M'.1 0 1 = M.1 0 1 ∧ M'.1 1 = M.1 1)
theorem tx_eq {M M' M2 M2' : fmM} {n : Int32} {most : Int} (h : M.1 1 1 = M2.1 0 1) (h1 : txE M n most M') (h2 : txG M2 n most M2') : M'.1 1 1 = M2'.1 0 1 := by
  unfold txE at h1
  unfold txG at h2
  rw [h] at h1
  rcases h1 with ⟨p, e⟩ | ⟨p, e, -⟩ <;> rcases h2 with ⟨q, e2⟩ | ⟨q, e2, -⟩
  · rw [e, e2]
  · exact absurd p q
  · exact absurd q p
  · rw [e, e2]
set_option maxRecDepth 20000 in
theorem c_open {M : fmM} {Q : fmR → fmM → Prop} {n : Int32} (hq : Q (.inl none) (opM M n)) : pvGood Tx 0 qX7_open [.ref 1, .int n] M Q := by
  refine pvGood_of (Nat.le_of_ble_eq_true rfl) ?_
  show pvEv Tx 0 qX7_open 0 [some (.ref 1), some (.int n)] [] M Q
  refine pv_aloadn (pc := 0) (n := 0) 0 rfl rfl (fm_dec dtX7_open 0 rfl) ?_
  refine pv_iloadn (pc := 1) (n := 1) 1 rfl rfl (fm_dec dtX7_open 1 rfl) ?_
  refine pv_putI (k := 1) (j := 2) (ci := 7) (pc := 2) pfl_X7_22 (by decide) rfl (by decide) (fm_dec dtX7_open 2 rfl) ?_
  refine pv_aloadn (pc := 5) (n := 0) 0 rfl rfl (fm_dec dtX7_open 3 rfl) ?_
  refine pv_iconst (pc := 6) (v := 0) (by decide) (fm_dec dtX7_open 4 rfl) ?_
  refine pv_putI (k := 1) (j := 3) (ci := 7) (pc := 7) pfl_X7_25 (by decide) rfl (by decide) (fm_dec dtX7_open 5 rfl) ?_
  refine pv_aloadn (pc := 10) (n := 0) 0 rfl rfl (fm_dec dtX7_open 6 rfl) ?_
  refine pv_iconst (pc := 11) (v := 0) (by decide) (fm_dec dtX7_open 7 rfl) ?_
  refine pv_putI (k := 1) (j := 1) (ci := 7) (pc := 12) pfl_X7_19 (by decide) rfl (by decide) (fm_dec dtX7_open 8 rfl) ?_
  refine pv_aloadn (pc := 15) (n := 0) 0 rfl rfl (fm_dec dtX7_open 9 rfl) ?_
  refine pv_iconst (pc := 16) (v := 0) (by decide) (fm_dec dtX7_open 10 rfl) ?_
  refine pv_putI (k := 1) (j := 4) (ci := 7) (pc := 17) pfl_X7_28 (by decide) rfl (by decide) (fm_dec dtX7_open 11 rfl) ?_
  refine pv_aloadn (pc := 20) (n := 0) 0 rfl rfl (fm_dec dtX7_open 12 rfl) ?_
  refine pv_iconst (pc := 21) (v := (-1)) (by decide) (fm_dec dtX7_open 13 rfl) ?_
  refine pv_putI (k := 1) (j := 5) (ci := 7) (pc := 22) pfl_X7_15 (by decide) rfl (by decide) (fm_dec dtX7_open 14 rfl) ?_
  exact pv_return (pc := 25) rfl (fm_dec dtX7_open 15 rfl) hq
set_option maxRecDepth 20000 in
theorem c_openT {M : fmM} {Q : fmR → fmM → Prop} {n mo : Int32} (ht : txP n mo.toInt (M.1 1 1).toInt → Q (.inl none) (opM M n)) (hf : ¬ txP n mo.toInt (M.1 1 1).toInt → Q (.inr fmIAE) (fmI M 0 16 (M.1 0 16 + 1))) : pvGood Tx 1 qX10_openText [.ref 0, .int n, .int mo] M Q := by
  refine pvGood_of (Nat.le_of_ble_eq_true rfl) ?_
  show pvEv Tx 1 qX10_openText 0 [some (.ref 0), some (.int n), some (.int mo)] [] M Q
  refine pv_aloadn (pc := 0) (n := 0) 0 rfl rfl (fm_dec dtX10_openText 0 rfl) ?_
  refine pv_iloadn (pc := 1) (n := 1) 1 rfl rfl (fm_dec dtX10_openText 1 rfl) ?_
  refine pv_iconst (pc := 2) (v := 0) (by decide) (fm_dec dtX10_openText 2 rfl) ?_
  refine pv_iloadn (pc := 3) (n := 2) 2 rfl rfl (fm_dec dtX10_openText 3 rfl) ?_
  refine pv_aloadn (pc := 4) (n := 0) 0 rfl rfl (fm_dec dtX10_openText 4 rfl) ?_
  refine pv_getR (k := 0) (j := 0) (ci := 10) (pc := 5) 1 rfl (by decide) pfl_X10_12 (by decide) rfl (by decide) (fm_dec dtX10_openText 5 rfl) ?_
  refine pv_getI (k := 1) (j := 1) (ci := 7) (pc := 8) pfl_X10_100 (by decide) rfl (by decide) (fm_dec dtX10_openText 6 rfl) ?_
  refine pv_mm (pc := 11) pmm_X10_352 (by decide) (Nat.le_of_ble_eq_true rfl) (fm_dec dtX10_openText 7 rfl) ?_
  refine pv_invV3 (k := 0) (d' := 0) (pc := 14) pcv_X10_169 (by decide) rfl (Nat.le_of_ble_eq_true rfl) (by decide) (fm_dec dtX10_openText 8 rfl) ?_
  refine c_needW (fun h14a h14b => ?_) (fun h14 => ?_)
  · refine pv_then0 ?_
    refine pv_aloadn (pc := 17) (n := 0) 0 rfl rfl (fm_dec dtX10_openText 9 rfl) ?_
    refine pv_getR (k := 0) (j := 0) (ci := 10) (pc := 18) 1 rfl (by decide) pfl_X10_12 (by decide) rfl (by decide) (fm_dec dtX10_openText 10 rfl) ?_
    refine pv_iloadn (pc := 21) (n := 1) 1 rfl rfl (fm_dec dtX10_openText 11 rfl) ?_
    refine pv_invV1 (k := 1) (d' := 0) (pc := 22) pcv_X10_381 (by decide) rfl (Nat.le_of_ble_eq_true rfl) (by decide) (fm_dec dtX10_openText 12 rfl) ?_
    refine c_open ?_
    refine pv_then0 ?_
    exact pv_return (pc := 25) rfl (fm_dec dtX10_openText 13 rfl) (ht ⟨h14a, (mn_t h14b).1, (mn_t h14b).2⟩)
  · refine pv_thenX ?_
    exact hf (fun h9 => h14 ⟨h9.1, mn_f h9.2⟩)
theorem s_read8 {M : fmM} {Q : fmR → fmM → Prop}  (hI : scInv Tx invX M) (q0 : ∀ (n : Int32) (M' : fmM), (0 ≤ n.toInt ∧ n.toInt ≤ 1) → scInv Tx invX M' → scFr [(1, 3, 3), (13, 9, 6), (14, 0, 8), (15, 0, 8), (16, 0, 8), (17, 0, 8), (18, 0, 8), (19, 0, 8), (20, 0, 24), (21, 0, 24), (22, 0, 24)] M M' → Q (.inl (some (.int n))) M') : pvGood Tx 7 qX8_read [.ref 13, .ref 1] M Q := (hh_X8_read_0 M [] [.ref 13, .ref 1] scEk.n0 ⟨⟨13, by simp, rfl⟩, ⟨1, by simp, rfl⟩, trivial⟩ (fun f hf => by cases hf) hI).imp (fun r M' h => by
  obtain ⟨⟨o, ho, hr, hf9, hm⟩, h1, h2⟩ := h
  rcases List.mem_cons.mp ho with rfl | ho
  · obtain ⟨n, rfl, c1, c2⟩ := hr; exact q0 n M' ⟨c1, c2⟩ h1 h2
  · cases ho)
theorem s_copy8 {M : fmM} {Q : fmR → fmM → Prop}  (hI : scInv Tx invX M) (q0 : ∀ M' : fmM, scInv Tx invX M' → scFr [(3, 9, 6), (4, 0, 8), (5, 0, 8), (6, 0, 8), (7, 0, 8), (8, 0, 8), (9, 0, 8), (10, 0, 24), (11, 0, 24), (12, 0, 24)] M M' → Q (.inl none) M') : pvGood Tx 0 qX8_copyFrom [.ref 3, .ref 13] M Q := (hh_X8_copyFrom_0 M [] [.ref 3, .ref 13] scEk.n0 ⟨⟨3, by simp, rfl⟩, ⟨13, by simp, rfl⟩, trivial⟩ (fun f hf => by cases hf) hI).imp (fun r M' h => by
  obtain ⟨⟨o, ho, hr, hf9, hm⟩, h1, h2⟩ := h
  rcases List.mem_cons.mp ho with rfl | ho
  · have hr : r = .inl none := hr; subst hr; exact q0 M' h1 h2
  · cases ho)
theorem s_clear1 {M : fmM} {Q : fmR → fmM → Prop}  (hI : scInv Tx invX M) (q0 : ∀ M' : fmM, scInv Tx invX M' → scFr [(23, 3, 1), (24, 0, 3)] M M' → Q (.inl none) M') : pvGood Tx 0 qX1_clear [.ref 23] M Q := (hh_X1_clear_0 M [] [.ref 23] scEk.n0 ⟨⟨23, by simp, rfl⟩, trivial⟩ (fun f hf => by cases hf) hI).imp (fun r M' h => by
  obtain ⟨⟨o, ho, hr, hf9, hm⟩, h1, h2⟩ := h
  rcases List.mem_cons.mp ho with rfl | ho
  · have hr : r = .inl none := hr; subst hr; exact q0 M' h1 h2
  · cases ho)
theorem s_clear2 {M : fmM} {Q : fmR → fmM → Prop}  (hI : scInv Tx invX M) (q0 : ∀ M' : fmM, scInv Tx invX M' → scFr [(27, 0, 3)] M M' → Q (.inl none) M') : pvGood Tx 0 qX2_clear [.ref 27] M Q := (hh_X2_clear_0 M [] [.ref 27] scEk.n0 ⟨⟨27, by simp, rfl⟩, trivial⟩ (fun f hf => by cases hf) hI).imp (fun r M' h => by
  obtain ⟨⟨o, ho, hr, hf9, hm⟩, h1, h2⟩ := h
  rcases List.mem_cons.mp ho with rfl | ho
  · have hr : r = .inl none := hr; subst hr; exact q0 M' h1 h2
  · cases ho)
theorem s_begin6 {M : fmM} {Q : fmR → fmM → Prop}  (hI : scInv Tx invX M) (q0 : ∀ M' : fmM, scInv Tx invX M' → scFr [(47, 1, 6), (48, 0, 8)] M M' → Q (.inl none) M') : pvGood Tx 0 qX6_begin [.ref 47, .ref 3] M Q := (hh_X6_begin_0 M [] [.ref 47, .ref 3] scEk.n0 ⟨⟨47, by simp, rfl⟩, ⟨3, by simp, rfl⟩, trivial⟩ (fun f hf => by cases hf) hI).imp (fun r M' h => by
  obtain ⟨⟨o, ho, hr, hf9, hm⟩, h1, h2⟩ := h
  rcases List.mem_cons.mp ho with rfl | ho
  · have hr : r = .inl none := hr; subst hr; exact q0 M' h1 h2
  · cases ho)
theorem s_read1 {M : fmM} {Q : fmR → fmM → Prop}  (hI : scInv Tx invX M) (q0 : ∀ (n : Int32) (M' : fmM), (0 ≤ n.toInt ∧ n.toInt ≤ 1) → scInv Tx invX M' → scFr [(1, 3, 3), (23, 3, 2), (24, 0, 150), (25, 0, 150)] M M' → Q (.inl (some (.int n))) M') : pvGood Tx 33 qX1_read [.ref 23, .ref 1] M Q := (hh_X1_read_0 M [] [.ref 23, .ref 1] scEk.n0 ⟨⟨23, by simp, rfl⟩, ⟨1, by simp, rfl⟩, trivial⟩ (fun f hf => by cases hf) hI).imp (fun r M' h => by
  obtain ⟨⟨o, ho, hr, hf9, hm⟩, h1, h2⟩ := h
  rcases List.mem_cons.mp ho with rfl | ho
  · obtain ⟨n, rfl, c1, c2⟩ := hr; exact q0 n M' ⟨c1, c2⟩ h1 h2
  · cases ho)
theorem s_read2 {M : fmM} {Q : fmR → fmM → Prop}  (hI : scInv Tx invX M) (q0 : ∀ (n : Int32) (M' : fmM), (0 ≤ n.toInt ∧ n.toInt ≤ 1) → scInv Tx invX M' → scFr [(1, 3, 3), (27, 0, 3)] M M' → Q (.inl (some (.int n))) M') : pvGood Tx 3 qX2_read [.ref 27, .ref 1] M Q := (hh_X2_read_0 M [] [.ref 27, .ref 1] scEk.n0 ⟨⟨27, by simp, rfl⟩, ⟨1, by simp, rfl⟩, trivial⟩ (fun f hf => by cases hf) hI).imp (fun r M' h => by
  obtain ⟨⟨o, ho, hr, hf9, hm⟩, h1, h2⟩ := h
  rcases List.mem_cons.mp ho with rfl | ho
  · obtain ⟨n, rfl, c1, c2⟩ := hr; exact q0 n M' ⟨c1, c2⟩ h1 h2
  · cases ho)
set_option maxRecDepth 20000 in
theorem c_odrawer {M : fmM} {Q : fmR → fmM → Prop} {nn : Int32} (hI : scInv Tx invX M) (hq : ∀ (r : fmR) (M' : fmM), txE M nn 600 M' → Q r M') : pvGood Tx 40 qX10_drawer [.ref 0, .int nn] M Q := by
  refine pvGood_of (Nat.le_of_ble_eq_true rfl) ?_
  show pvEv Tx 40 qX10_drawer 0 [some (.ref 0), some (.int nn)] [] M Q
  refine pv_aloadn (pc := 0) (n := 0) 0 rfl rfl (fm_dec dtX10_drawer 0 rfl) ?_
  refine pv_iloadn (pc := 1) (n := 1) 1 rfl rfl (fm_dec dtX10_drawer 1 rfl) ?_
  refine pv_sipush (pc := 2) (v := 600) (by decide) (fm_dec dtX10_drawer 2 rfl) ?_
  refine pv_invV2 (k := 0) (d' := 1) (pc := 5) pcv_X10_108 (by decide) rfl (Nat.le_of_ble_eq_true rfl) (by decide) (fm_dec dtX10_drawer 3 rfl) ?_
  refine c_openT (fun h5 => ?_) (fun h5 => ?_)
  · refine pv_then0 ?_
    have hI5 := inv_open (n := nn) hI h5.1 h5.2.1
    refine pv_aloadn (pc := 8) (n := 0) 0 rfl rfl (fm_dec dtX10_drawer 4 rfl) ?_
    refine pv_getR (k := 0) (j := 2) (ci := 10) (pc := 9) 13 rfl (by decide) pfl_X10_23 (by decide) rfl (by decide) (fm_dec dtX10_drawer 5 rfl) ?_
    refine pv_aloadn (pc := 12) (n := 0) 0 rfl rfl (fm_dec dtX10_drawer 6 rfl) ?_
    refine pv_getR (k := 0) (j := 0) (ci := 10) (pc := 13) 1 rfl (by decide) pfl_X10_12 (by decide) rfl (by decide) (fm_dec dtX10_drawer 7 rfl) ?_
    refine pv_invV1 (k := 13) (d' := 7) (pc := 16) pcv_X10_112 (by decide) rfl (Nat.le_of_ble_eq_true rfl) (by decide) (fm_dec dtX10_drawer 8 rfl) ?_
    refine s_read8 hI5 (fun n16 M16 b16 hI16 f16 => ?_)
    refine pv_then1 ?_
    refine pv_if_ne (pc := 19) 33 (by decide) (fm_dec dtX10_drawer 9 rfl) (fun hc19 => ?_) (fun hc19 => ?_)
    · refine pv_aloadn (pc := 33) (n := 0) 0 rfl rfl (fm_dec dtX10_drawer 16 rfl) ?_
      refine pv_getR (k := 0) (j := 1) (ci := 10) (pc := 34) 3 rfl (by decide) pfl_X10_19 (by decide) rfl (by decide) (fm_dec dtX10_drawer 17 rfl) ?_
      refine pv_aloadn (pc := 37) (n := 0) 0 rfl rfl (fm_dec dtX10_drawer 18 rfl) ?_
      refine pv_getR (k := 0) (j := 2) (ci := 10) (pc := 38) 13 rfl (by decide) pfl_X10_23 (by decide) rfl (by decide) (fm_dec dtX10_drawer 19 rfl) ?_
      refine pv_invV1 (k := 3) (d' := 0) (pc := 41) pcv_X10_119 (by decide) rfl (Nat.le_of_ble_eq_true rfl) (by decide) (fm_dec dtX10_drawer 20 rfl) ?_
      refine s_copy8 hI16 (fun M41 hI41 f41 => ?_)
      refine pv_then0 ?_
      refine pv_aloadn (pc := 44) (n := 0) 0 rfl rfl (fm_dec dtX10_drawer 21 rfl) ?_
      refine pv_getR (k := 0) (j := 3) (ci := 10) (pc := 45) 23 rfl (by decide) pfl_X10_29 (by decide) rfl (by decide) (fm_dec dtX10_drawer 22 rfl) ?_
      refine pv_invV0 (k := 23) (d' := 0) (pc := 48) pcv_X10_122 (by decide) rfl (Nat.le_of_ble_eq_true rfl) (by decide) (fm_dec dtX10_drawer 23 rfl) ?_
      refine s_clear1 hI41 (fun M48 hI48 f48 => ?_)
      refine pv_then0 ?_
      refine pv_aloadn (pc := 51) (n := 0) 0 rfl rfl (fm_dec dtX10_drawer 24 rfl) ?_
      refine pv_getR (k := 0) (j := 4) (ci := 10) (pc := 52) 27 rfl (by decide) pfl_X10_36 (by decide) rfl (by decide) (fm_dec dtX10_drawer 25 rfl) ?_
      refine pv_invV0 (k := 27) (d' := 0) (pc := 55) pcv_X10_125 (by decide) rfl (Nat.le_of_ble_eq_true rfl) (by decide) (fm_dec dtX10_drawer 26 rfl) ?_
      refine s_clear2 hI48 (fun M55 hI55 f55 => ?_)
      refine pv_then0 ?_
      refine pv_aloadn (pc := 58) (n := 0) 0 rfl rfl (fm_dec dtX10_drawer 27 rfl) ?_
      refine pv_getR (k := 0) (j := 9) (ci := 10) (pc := 59) 46 rfl (by decide) pfl_X10_75 (by decide) rfl (by decide) (fm_dec dtX10_drawer 28 rfl) ?_
      refine pv_getR (k := 46) (j := 0) (ci := 5) (pc := 62) 47 rfl (by decide) pfl_X10_90 (by decide) rfl (by decide) (fm_dec dtX10_drawer 29 rfl) ?_
      refine pv_aloadn (pc := 65) (n := 0) 0 rfl rfl (fm_dec dtX10_drawer 30 rfl) ?_
      refine pv_getR (k := 0) (j := 1) (ci := 10) (pc := 66) 3 rfl (by decide) pfl_X10_19 (by decide) rfl (by decide) (fm_dec dtX10_drawer 31 rfl) ?_
      refine pv_invV1 (k := 47) (d' := 0) (pc := 69) pcv_X10_94 (by decide) rfl (Nat.le_of_ble_eq_true rfl) (by decide) (fm_dec dtX10_drawer 32 rfl) ?_
      refine s_begin6 hI55 (fun M69 hI69 f69 => ?_)
      refine pv_then0 ?_
      refine pv_aloadn (pc := 72) (n := 0) 0 rfl rfl (fm_dec dtX10_drawer 33 rfl) ?_
      refine pv_getR (k := 0) (j := 9) (ci := 10) (pc := 73) 46 rfl (by decide) pfl_X10_75 (by decide) rfl (by decide) (fm_dec dtX10_drawer 34 rfl) ?_
      refine pv_iconst (pc := 76) (v := 0) (by decide) (fm_dec dtX10_drawer 35 rfl) ?_
      refine pv_putI (k := 46) (j := 2) (ci := 5) (pc := 77) pfl_X10_126 (by decide) rfl (by decide) (fm_dec dtX10_drawer 36 rfl) ?_
      refine pv_aloadn (pc := 80) (n := 0) 0 rfl rfl (fm_dec dtX10_drawer 37 rfl) ?_
      refine pv_iconst (pc := 81) (v := 0) (by decide) (fm_dec dtX10_drawer 38 rfl) ?_
      refine pv_putI (k := 0) (j := 13) (ci := 10) (pc := 82) pfl_X10_129 (by decide) rfl (by decide) (fm_dec dtX10_drawer 39 rfl) ?_
      refine pv_aloadn (pc := 85) (n := 0) 0 rfl rfl (fm_dec dtX10_drawer 40 rfl) ?_
      refine pv_iconst (pc := 86) (v := 0) (by decide) (fm_dec dtX10_drawer 41 rfl) ?_
      refine pv_putI (k := 0) (j := 14) (ci := 10) (pc := 87) pfl_X10_132 (by decide) rfl (by decide) (fm_dec dtX10_drawer 42 rfl) ?_
      refine pv_aloadn (pc := 90) (n := 0) 0 rfl rfl (fm_dec dtX10_drawer 43 rfl) ?_
      refine pv_getR (k := 0) (j := 7) (ci := 10) (pc := 91) 34 rfl (by decide) pfl_X10_61 (by decide) rfl (by decide) (fm_dec dtX10_drawer 44 rfl) ?_
      refine pv_invV0 (k := 34) (d' := 0) (pc := 94) pcv_X10_135 (by decide) rfl (Nat.le_of_ble_eq_true rfl) (by decide) (fm_dec dtX10_drawer 45 rfl) ?_
      refine s_forget (xInv.put (xInv.put (xInv.put hI69 (by decide)) (by decide)) (scq_t 0)) (fun M94 hI94 f94 => ?_)
      refine pv_then0 ?_
      refine pv_aloadn (pc := 97) (n := 0) 0 rfl rfl (fm_dec dtX10_drawer 46 rfl) ?_
      refine pv_getR (k := 0) (j := 1) (ci := 10) (pc := 98) 3 rfl (by decide) pfl_X10_19 (by decide) rfl (by decide) (fm_dec dtX10_drawer 47 rfl) ?_
      refine pv_getI (k := 3) (j := 9) (ci := 8) (pc := 101) pfl_X10_138 (by decide) rfl (by decide) (fm_dec dtX10_drawer 48 rfl) ?_
      exact pv_ireturn (pc := 104) rfl (fm_dec dtX10_drawer 49 rfl) (hq _ _ (Or.inl ⟨h5, (f94 1 1 rfl).1.trans ((f69 1 1 rfl).1.trans ((f55 1 1 rfl).1.trans ((f48 1 1 rfl).1.trans ((f41 1 1 rfl).1.trans ((f16 1 1 rfl).1.trans rfl)))))⟩))
    · refine pv_aloadn (pc := 22) (n := 0) 0 rfl rfl (fm_dec dtX10_drawer 10 rfl) ?_
      refine pv_getR (k := 0) (j := 0) (ci := 10) (pc := 23) 1 rfl (by decide) pfl_X10_12 (by decide) rfl (by decide) (fm_dec dtX10_drawer 11 rfl) ?_
      refine pv_getI (k := 1) (j := 4) (ci := 7) (pc := 26) pfl_X10_116 (by decide) rfl (by decide) (fm_dec dtX10_drawer 12 rfl) ?_
      refine pv_bipush (pc := 29) (v := 10) (by decide) (fm_dec dtX10_drawer 13 rfl) ?_
      refine pv_isub (pc := 31) (fm_dec dtX10_drawer 14 rfl) ?_
      exact pv_ireturn (pc := 32) rfl (fm_dec dtX10_drawer 15 rfl) (hq _ _ (Or.inl ⟨h5, ((f16 1 1 rfl).1.trans rfl)⟩))
  · refine pv_thenX ?_
    exact hq _ _ (Or.inr ⟨h5, rfl, rfl⟩)
set_option maxRecDepth 20000 in
theorem c_olaw {M : fmM} {Q : fmR → fmM → Prop} {nn : Int32} (hI : scInv Tx invX M) (hq : ∀ (r : fmR) (M' : fmM), txE M nn 150 M' → Q r M') : pvGood Tx 40 qX10_law [.ref 0, .int nn] M Q := by
  refine pvGood_of (Nat.le_of_ble_eq_true rfl) ?_
  show pvEv Tx 40 qX10_law 0 [some (.ref 0), some (.int nn)] [] M Q
  refine pv_aloadn (pc := 0) (n := 0) 0 rfl rfl (fm_dec dtX10_law 0 rfl) ?_
  refine pv_iloadn (pc := 1) (n := 1) 1 rfl rfl (fm_dec dtX10_law 1 rfl) ?_
  refine pv_sipush (pc := 2) (v := 150) (by decide) (fm_dec dtX10_law 2 rfl) ?_
  refine pv_invV2 (k := 0) (d' := 1) (pc := 5) pcv_X10_108 (by decide) rfl (Nat.le_of_ble_eq_true rfl) (by decide) (fm_dec dtX10_law 3 rfl) ?_
  refine c_openT (fun h5 => ?_) (fun h5 => ?_)
  · refine pv_then0 ?_
    have hI5 := inv_open (n := nn) hI h5.1 (by have h9 : nn.toInt ≤ 150 := h5.2.1; omega)
    refine pv_aloadn (pc := 8) (n := 0) 0 rfl rfl (fm_dec dtX10_law 4 rfl) ?_
    refine pv_getR (k := 0) (j := 3) (ci := 10) (pc := 9) 23 rfl (by decide) pfl_X10_29 (by decide) rfl (by decide) (fm_dec dtX10_law 5 rfl) ?_
    refine pv_aloadn (pc := 12) (n := 0) 0 rfl rfl (fm_dec dtX10_law 6 rfl) ?_
    refine pv_getR (k := 0) (j := 0) (ci := 10) (pc := 13) 1 rfl (by decide) pfl_X10_12 (by decide) rfl (by decide) (fm_dec dtX10_law 7 rfl) ?_
    refine pv_invV1 (k := 23) (d' := 33) (pc := 16) pcv_X10_141 (by decide) rfl (Nat.le_of_ble_eq_true rfl) (by decide) (fm_dec dtX10_law 8 rfl) ?_
    refine s_read1 hI5 (fun n16 M16 b16 hI16 f16 => ?_)
    refine pv_then1 ?_
    refine pv_if_ne (pc := 19) 33 (by decide) (fm_dec dtX10_law 9 rfl) (fun hc19 => ?_) (fun hc19 => ?_)
    · refine pv_aloadn (pc := 33) (n := 0) 0 rfl rfl (fm_dec dtX10_law 16 rfl) ?_
      refine pv_getR (k := 0) (j := 7) (ci := 10) (pc := 34) 34 rfl (by decide) pfl_X10_61 (by decide) rfl (by decide) (fm_dec dtX10_law 17 rfl) ?_
      refine pv_invV0 (k := 34) (d' := 0) (pc := 37) pcv_X10_135 (by decide) rfl (Nat.le_of_ble_eq_true rfl) (by decide) (fm_dec dtX10_law 18 rfl) ?_
      refine s_forget hI16 (fun M37 hI37 f37 => ?_)
      refine pv_then0 ?_
      refine pv_iconst (pc := 40) (v := 1) (by decide) (fm_dec dtX10_law 19 rfl) ?_
      exact pv_ireturn (pc := 41) rfl (fm_dec dtX10_law 20 rfl) (hq _ _ (Or.inl ⟨h5, (f37 1 1 rfl).1.trans ((f16 1 1 rfl).1.trans rfl)⟩))
    · refine pv_aloadn (pc := 22) (n := 0) 0 rfl rfl (fm_dec dtX10_law 10 rfl) ?_
      refine pv_getR (k := 0) (j := 0) (ci := 10) (pc := 23) 1 rfl (by decide) pfl_X10_12 (by decide) rfl (by decide) (fm_dec dtX10_law 11 rfl) ?_
      refine pv_getI (k := 1) (j := 4) (ci := 7) (pc := 26) pfl_X10_116 (by decide) rfl (by decide) (fm_dec dtX10_law 12 rfl) ?_
      refine pv_bipush (pc := 29) (v := 10) (by decide) (fm_dec dtX10_law 13 rfl) ?_
      refine pv_isub (pc := 31) (fm_dec dtX10_law 14 rfl) ?_
      exact pv_ireturn (pc := 32) rfl (fm_dec dtX10_law 15 rfl) (hq _ _ (Or.inl ⟨h5, ((f16 1 1 rfl).1.trans rfl)⟩))
  · refine pv_thenX ?_
    exact hq _ _ (Or.inr ⟨h5, rfl, rfl⟩)
set_option maxRecDepth 20000 in
theorem c_opage {M : fmM} {Q : fmR → fmM → Prop} {nn : Int32} (hI : scInv Tx invX M) (hq : ∀ (r : fmR) (M' : fmM), txE M nn 60 M' → Q r M') : pvGood Tx 40 qX10_page [.ref 0, .int nn] M Q := by
  refine pvGood_of (Nat.le_of_ble_eq_true rfl) ?_
  show pvEv Tx 40 qX10_page 0 [some (.ref 0), some (.int nn)] [] M Q
  refine pv_aloadn (pc := 0) (n := 0) 0 rfl rfl (fm_dec dtX10_page 0 rfl) ?_
  refine pv_iloadn (pc := 1) (n := 1) 1 rfl rfl (fm_dec dtX10_page 1 rfl) ?_
  refine pv_bipush (pc := 2) (v := 60) (by decide) (fm_dec dtX10_page 2 rfl) ?_
  refine pv_invV2 (k := 0) (d' := 1) (pc := 4) pcv_X10_108 (by decide) rfl (Nat.le_of_ble_eq_true rfl) (by decide) (fm_dec dtX10_page 3 rfl) ?_
  refine c_openT (fun h4 => ?_) (fun h4 => ?_)
  · refine pv_then0 ?_
    have h5 := h4
    have hI5 := inv_open (n := nn) hI h5.1 (by have h9 : nn.toInt ≤ 60 := h5.2.1; omega)
    refine pv_aloadn (pc := 7) (n := 0) 0 rfl rfl (fm_dec dtX10_page 4 rfl) ?_
    refine pv_getR (k := 0) (j := 4) (ci := 10) (pc := 8) 27 rfl (by decide) pfl_X10_36 (by decide) rfl (by decide) (fm_dec dtX10_page 5 rfl) ?_
    refine pv_aloadn (pc := 11) (n := 0) 0 rfl rfl (fm_dec dtX10_page 6 rfl) ?_
    refine pv_getR (k := 0) (j := 0) (ci := 10) (pc := 12) 1 rfl (by decide) pfl_X10_12 (by decide) rfl (by decide) (fm_dec dtX10_page 7 rfl) ?_
    refine pv_invV1 (k := 27) (d' := 3) (pc := 15) pcv_X10_161 (by decide) rfl (Nat.le_of_ble_eq_true rfl) (by decide) (fm_dec dtX10_page 8 rfl) ?_
    refine s_read2 hI5 (fun n15 M15 b15 hI15 f15 => ?_)
    refine pv_then1 ?_
    refine pv_if_ne (pc := 18) 32 (by decide) (fm_dec dtX10_page 9 rfl) (fun hc18 => ?_) (fun hc18 => ?_)
    · refine pv_aloadn (pc := 32) (n := 0) 0 rfl rfl (fm_dec dtX10_page 16 rfl) ?_
      refine pv_getR (k := 0) (j := 4) (ci := 10) (pc := 33) 27 rfl (by decide) pfl_X10_36 (by decide) rfl (by decide) (fm_dec dtX10_page 17 rfl) ?_
      refine pv_getI (k := 27) (j := 0) (ci := 2) (pc := 36) pfl_X10_162 (by decide) rfl (by decide) (fm_dec dtX10_page 18 rfl) ?_
      exact pv_ireturn (pc := 39) rfl (fm_dec dtX10_page 19 rfl) (hq _ _ (Or.inl ⟨h5, ((f15 1 1 rfl).1.trans rfl)⟩))
    · refine pv_aloadn (pc := 21) (n := 0) 0 rfl rfl (fm_dec dtX10_page 10 rfl) ?_
      refine pv_getR (k := 0) (j := 0) (ci := 10) (pc := 22) 1 rfl (by decide) pfl_X10_12 (by decide) rfl (by decide) (fm_dec dtX10_page 11 rfl) ?_
      refine pv_getI (k := 1) (j := 4) (ci := 7) (pc := 25) pfl_X10_116 (by decide) rfl (by decide) (fm_dec dtX10_page 12 rfl) ?_
      refine pv_bipush (pc := 28) (v := 10) (by decide) (fm_dec dtX10_page 13 rfl) ?_
      refine pv_isub (pc := 30) (fm_dec dtX10_page 14 rfl) ?_
      exact pv_ireturn (pc := 31) rfl (fm_dec dtX10_page 15 rfl) (hq _ _ (Or.inl ⟨h5, ((f15 1 1 rfl).1.trans rfl)⟩))
  · refine pv_thenX ?_
    exact hq _ _ (Or.inr ⟨h4, rfl, rfl⟩)
set_option maxRecDepth 20000 in
theorem c_owork {M : fmM} {Q : fmR → fmM → Prop} {nn : Int32} (hI : scInv Tx invX M) (hq : ∀ (r : fmR) (M' : fmM), txE M nn 150 M' → Q r M') : pvGood Tx 213 qX10_work [.ref 0, .int nn] M Q := by
  refine pvGood_of (Nat.le_of_ble_eq_true rfl) ?_
  show pvEv Tx 213 qX10_work 0 [some (.ref 0), some (.int nn)] [] M Q
  refine pv_aloadn (pc := 0) (n := 0) 0 rfl rfl (fm_dec dtX10_work 0 rfl) ?_
  refine pv_iloadn (pc := 1) (n := 1) 1 rfl rfl (fm_dec dtX10_work 1 rfl) ?_
  refine pv_sipush (pc := 2) (v := 150) (by decide) (fm_dec dtX10_work 2 rfl) ?_
  refine pv_invV2 (k := 0) (d' := 1) (pc := 5) pcv_X10_108 (by decide) rfl (Nat.le_of_ble_eq_true rfl) (by decide) (fm_dec dtX10_work 3 rfl) ?_
  refine c_openT (fun h5 => ?_) (fun h5 => ?_)
  · refine pv_then0 ?_
    have hI5 := inv_open (n := nn) hI h5.1 (by have h9 : nn.toInt ≤ 150 := h5.2.1; omega)
    refine pv_aloadn (pc := 8) (n := 0) 0 rfl rfl (fm_dec dtX10_work 4 rfl) ?_
    refine pv_getR (k := 0) (j := 9) (ci := 10) (pc := 9) 46 rfl (by decide) pfl_X10_75 (by decide) rfl (by decide) (fm_dec dtX10_work 5 rfl) ?_
    refine pv_getI (k := 46) (j := 2) (ci := 5) (pc := 12) pfl_X10_126 (by decide) rfl (by decide) (fm_dec dtX10_work 6 rfl) ?_
    refine pv_bipush (pc := 15) (v := 16) (by decide) (fm_dec dtX10_work 7 rfl) ?_
    refine pv_icmp_lt (pc := 17) 23 (by decide) (fm_dec dtX10_work 8 rfl) (fun hc17 => ?_) (fun hc17 => ?_)
    · refine pv_aloadn (pc := 23) (n := 0) 0 rfl rfl (fm_dec dtX10_work 11 rfl) ?_
      refine pv_getR (k := 0) (j := 5) (ci := 10) (pc := 24) 28 rfl (by decide) pfl_X10_43 (by decide) rfl (by decide) (fm_dec dtX10_work 12 rfl) ?_
      refine pv_aloadn (pc := 27) (n := 0) 0 rfl rfl (fm_dec dtX10_work 13 rfl) ?_
      refine pv_getR (k := 0) (j := 0) (ci := 10) (pc := 28) 1 rfl (by decide) pfl_X10_12 (by decide) rfl (by decide) (fm_dec dtX10_work 14 rfl) ?_
      refine pv_aloadn (pc := 31) (n := 0) 0 rfl rfl (fm_dec dtX10_work 15 rfl) ?_
      refine pv_getR (k := 0) (j := 1) (ci := 10) (pc := 32) 3 rfl (by decide) pfl_X10_19 (by decide) rfl (by decide) (fm_dec dtX10_work 16 rfl) ?_
      refine pv_getI (k := 3) (j := 9) (ci := 8) (pc := 35) pfl_X10_138 (by decide) rfl (by decide) (fm_dec dtX10_work 17 rfl) ?_
      refine pv_invV2 (k := 28) (d' := 27) (pc := 38) pcv_X10_142 (by decide) rfl (Nat.le_of_ble_eq_true rfl) (by decide) (fm_dec dtX10_work 18 rfl) ?_
      refine c_xread hI5 (hI5.1 3 9 (by decide)) (fun M38 z hI38 f38 h4 hz hz2 hS => ?_) (fun M38 hI38 f38 => ?_)  
      · refine pv_then1 ?_
        refine pv_if_ne (pc := 41) 55 (by decide) (fm_dec dtX10_work 19 rfl) (fun _ => ?_) (fun hc41 => by exfalso; revert hc41; decide)
        refine pv_aloadn (pc := 55) (n := 0) 0 rfl rfl (fm_dec dtX10_work 26 rfl) ?_
        refine pv_getR (k := 0) (j := 9) (ci := 10) (pc := 56) 46 rfl (by decide) pfl_X10_75 (by decide) rfl (by decide) (fm_dec dtX10_work 27 rfl) ?_
        refine pv_invV0 (k := 46) (d' := 1) (pc := 59) pcv_X10_145 (by decide) rfl (Nat.le_of_ble_eq_true rfl) (by decide) (fm_dec dtX10_work 28 rfl) ?_
        refine s_keepx hI38 (fun M59 hI59 f59 => ?_)
        refine pv_then0 ?_
        have hQ9 : xQ M59 z 0 := ⟨hz2, fun i a b => (hS i a b).up (Nat.le_refl _) (fun k hk => (f59 k i (kpW_k (by omega))).1), hI59, (by rw [(f59 28 4 (kpW_k (by decide))).1]; exact h4), by decide⟩
        refine pv_aloadn (pc := 62) (n := 0) 0 rfl rfl (fm_dec dtX10_work 29 rfl) ?_
        refine pv_getR (k := 0) (j := 5) (ci := 10) (pc := 63) 28 rfl (by decide) pfl_X10_43 (by decide) rfl (by decide) (fm_dec dtX10_work 30 rfl) ?_
        refine pv_aloadn (pc := 66) (n := 0) 0 rfl rfl (fm_dec dtX10_work 31 rfl) ?_
        refine pv_getR (k := 0) (j := 6) (ci := 10) (pc := 67) 32 rfl (by decide) pfl_X10_52 (by decide) rfl (by decide) (fm_dec dtX10_work 32 rfl) ?_
        refine pv_aloadn (pc := 70) (n := 0) 0 rfl rfl (fm_dec dtX10_work 33 rfl) ?_
        refine pv_getR (k := 0) (j := 9) (ci := 10) (pc := 71) 46 rfl (by decide) pfl_X10_75 (by decide) rfl (by decide) (fm_dec dtX10_work 34 rfl) ?_
        refine pv_getR (k := 46) (j := 0) (ci := 5) (pc := 74) 47 rfl (by decide) pfl_X10_90 (by decide) rfl (by decide) (fm_dec dtX10_work 35 rfl) ?_
        refine pv_iconst (pc := 77) (v := 0) (by decide) (fm_dec dtX10_work 36 rfl) ?_
        refine pv_aloadn (pc := 78) (n := 0) 0 rfl rfl (fm_dec dtX10_work 37 rfl) ?_
        refine pv_getR (k := 0) (j := 5) (ci := 10) (pc := 79) 28 rfl (by decide) pfl_X10_43 (by decide) rfl (by decide) (fm_dec dtX10_work 38 rfl) ?_
        refine pv_getI (k := 28) (j := 3) (ci := 9) (pc := 82) pfl_X10_148 (by decide) rfl (by decide) (fm_dec dtX10_work 39 rfl) ?_
        refine pv_iconst (pc := 85) (v := 0) (by decide) (fm_dec dtX10_work 40 rfl) ?_
        refine pv_invV5 (k := 28) (d' := (12 + 200)) (pc := 86) pcv_X10_151 (by decide) rfl (Nat.le_of_ble_eq_true rfl) (by decide) (fm_dec dtX10_work 41 rfl) ?_
        refine xp_G (xp_P 200) M59 _ z 0 0 z _ 0 0 hQ9 (by omega) (by decide) (by rw [(f59 28 3 (kpW_k (by decide))).1]; exact hz) (Nat.le_refl _) (fun M86 g86 hI86 f86 hg86 _ _ => ?_) 
        refine pv_then0 ?_
        refine pv_aloadn (pc := 89) (n := 0) 0 rfl rfl (fm_dec dtX10_work 42 rfl) ?_
        refine pv_aloadn (pc := 90) (n := 0) 0 rfl rfl (fm_dec dtX10_work 43 rfl) ?_
        refine pv_getR (k := 0) (j := 5) (ci := 10) (pc := 91) 28 rfl (by decide) pfl_X10_43 (by decide) rfl (by decide) (fm_dec dtX10_work 44 rfl) ?_
        refine pv_getI (k := 28) (j := 6) (ci := 9) (pc := 94) pfl_X10_155 (by decide) rfl (by decide) (fm_dec dtX10_work 45 rfl) ?_
        refine pv_putI (k := 0) (j := 14) (ci := 10) (pc := 97) pfl_X10_132 (by decide) rfl (by decide) (fm_dec dtX10_work 46 rfl) ?_
        refine pv_aloadn (pc := 100) (n := 0) 0 rfl rfl (fm_dec dtX10_work 47 rfl) ?_
        refine pv_getR (k := 0) (j := 7) (ci := 10) (pc := 101) 34 rfl (by decide) pfl_X10_61 (by decide) rfl (by decide) (fm_dec dtX10_work 48 rfl) ?_
        refine pv_invV0 (k := 34) (d' := 0) (pc := 104) pcv_X10_135 (by decide) rfl (Nat.le_of_ble_eq_true rfl) (by decide) (fm_dec dtX10_work 49 rfl) ?_
        refine s_forget (xInv.put hI86 (scq_t _)) (fun M104 hI104 f104 => ?_)
        refine pv_then0 ?_
        refine pv_aloadn (pc := 107) (n := 0) 0 rfl rfl (fm_dec dtX10_work 50 rfl) ?_
        refine pv_getR (k := 0) (j := 5) (ci := 10) (pc := 108) 28 rfl (by decide) pfl_X10_43 (by decide) rfl (by decide) (fm_dec dtX10_work 51 rfl) ?_
        refine pv_getI (k := 28) (j := 5) (ci := 9) (pc := 111) pfl_X10_158 (by decide) rfl (by decide) (fm_dec dtX10_work 52 rfl) ?_
        exact pv_ireturn (pc := 114) rfl (fm_dec dtX10_work 53 rfl) (hq _ _ (Or.inl ⟨h5, (f104 1 1 rfl).1.trans ((f86 1 1 rfl).1.trans ((f59 1 1 (kpW_k (by decide))).1.trans ((f38 1 1 rfl).1.trans rfl)))⟩))
      · refine pv_then1 ?_
        refine pv_if_ne (pc := 41) 55 (by decide) (fm_dec dtX10_work 19 rfl) (fun hc41 => by exfalso; revert hc41; decide) (fun _ => ?_)
        refine pv_aloadn (pc := 44) (n := 0) 0 rfl rfl (fm_dec dtX10_work 20 rfl) ?_
        refine pv_getR (k := 0) (j := 0) (ci := 10) (pc := 45) 1 rfl (by decide) pfl_X10_12 (by decide) rfl (by decide) (fm_dec dtX10_work 21 rfl) ?_
        refine pv_getI (k := 1) (j := 4) (ci := 7) (pc := 48) pfl_X10_116 (by decide) rfl (by decide) (fm_dec dtX10_work 22 rfl) ?_
        refine pv_bipush (pc := 51) (v := 10) (by decide) (fm_dec dtX10_work 23 rfl) ?_
        refine pv_isub (pc := 53) (fm_dec dtX10_work 24 rfl) ?_
        exact pv_ireturn (pc := 54) rfl (fm_dec dtX10_work 25 rfl) (hq _ _ (Or.inl ⟨h5, ((f38 1 1 rfl).1.trans rfl)⟩))
    · refine pv_bipush (pc := 20) (v := (-20)) (by decide) (fm_dec dtX10_work 9 rfl) ?_
      exact pv_ireturn (pc := 22) rfl (fm_dec dtX10_work 10 rfl) (hq _ _ (Or.inl ⟨h5, rfl⟩))
  · refine pv_thenX ?_
    exact hq _ _ (Or.inr ⟨h5, rfl, rfl⟩)
theorem tape6 {M : fmM} (hI : scInv Tm invM M) : (M.1 0 1).toInt ≤ 600 := (hI.1 0 1 (by decide)).2
theorem c_gdrawer {M : fmM} {Q : fmR → fmM → Prop} {nn : Int32} (hI : scInv Tm invM M) (hq : ∀ (r : fmR) (M' : fmM), txG M nn 600 M' → Q r M') : pvGood Tm 6 qX11_drawer [.ref 0, .int nn] M Q := by
  have h6 := tape6 hI
  refine c_drawer (inv_fed hI) h6 (fun hn => hq _ _ (Or.inr ⟨fun h => hn ⟨h.1, h.2.2⟩, rfl, rfl⟩)) (fun n0 M1 M2 D r e1 e2 hs _ hD h _ => hq _ _ (Or.inl ⟨⟨by omega, by omega, by omega⟩, ?_⟩)) (fun n0 k a M1 M2 r e1 e2 hs _ hka h _ => hq _ _ (Or.inl ⟨⟨by omega, by omega, by omega⟩, ?_⟩))
  · obtain ⟨h3, Mx, hF, -, -, -, -, d2, -⟩ := h
    rw [d2 1 (by decide) (by decide) (by decide) (by decide) (by decide), fmI_j _ _ (by decide), hF.2.1 1 (by decide) (by decide) (by decide) (by decide)]
    exact hs.2.2.2.2.1
  · obtain ⟨h1, Mx, hF, rfl⟩ := h
    rw [fmI_j _ _ (by decide), hF.2.1 1 (by decide) (by decide) (by decide) (by decide)]
    exact hs.2.2.2.2.1
theorem c_glaw {M : fmM} {Q : fmR → fmM → Prop} {nn : Int32} (hI : scInv Tm invM M) (hq : ∀ (r : fmR) (M' : fmM), txG M nn 150 M' → Q r M') : pvGood Tm 27 qX11_law [.ref 0, .int nn] M Q := c_law (inv_fed hI) (fun hn => hq _ _ (Or.inr ⟨fun h => hn ⟨h.1, h.2.2, h.2.1⟩, rfl, rfl⟩)) (fun n0 cs M' e1 e2 e3 _ hd h => hq _ _ (Or.inl ⟨⟨by omega, by omega, by omega⟩, h.1.2⟩)) (fun n0 k a r M' e1 e2 e3 _ _ _ h => hq _ _ (Or.inl ⟨⟨by omega, by omega, by omega⟩, h.1.2⟩))
theorem c_gpage {M : fmM} {Q : fmR → fmM → Prop} {nn : Int32} (hI : scInv Tm invM M) (hq : ∀ (r : fmR) (M' : fmM), txG M nn 60 M' → Q r M') : pvGood Tm 3 qX11_page [.ref 0, .int nn] M Q := by
  refine c_page (inv_fed hI) (fun hn => hq _ _ (Or.inr ⟨fun h => hn ⟨h.1, h.2.2, h.2.1⟩, rfl, rfl⟩)) (fun n0 M1 M2 ls r e1 e2 e3 hs _ h _ => hq _ _ (Or.inl ⟨⟨by omega, by omega, by omega⟩, ?_⟩)) (fun n0 k a M1 M2 r e1 e2 e3 hs _ hka h _ => hq _ _ (Or.inl ⟨⟨by omega, by omega, by omega⟩, ?_⟩))
  · obtain ⟨h1, h2, h3, h4, h5, h5b, h6, h7, h8⟩ := h
    exact (h7 1 (by decide) (by decide) (by decide) (by decide) (by decide)).trans hs.2.2.2.2.1
  · obtain ⟨h1, h2, h3, h6, h7, h8⟩ := h
    exact (h7 1 (by decide) (by decide) (by decide) (by decide) (by decide)).trans hs.2.2.2.2.1
set_option maxRecDepth 20000 in
theorem wk_f0 {Q : fmR → fmM → Prop} {M : fmM} {nn : Int32} {ss : tS} {l w : Nat} (hf : M.1 0 5 = 0) (hI : scInv Tm invM M) (hw : (M.1 0 32).toInt = w) (hw16 : w < 16) (hR : stRep M 0 ss) (hO : ssOk l 0 ss) (hn : ss.length ≤ 80) (hl : l ≤ 8) (h4 : (M.1 4 0).toInt = l) (h26 : (M.1 0 26).toInt = (ss.length : Int)) (hq : ∀ (n : Int32) (M' : fmM), scInv Tm invM M' → M'.1 0 1 = M.1 0 1 → Q (.inl (some (.int n))) M') : pvEv Tm 213 qX11_work 101 [some (.ref 0), some (.int nn)] [] M Q := by
  refine pv_aloadn (pc := 101) (n := 0) 0 rfl rfl (fm_dec dtX11_work 53 rfl) ?_
  refine pv_getI (k := 0) (j := 5) (ci := 11) (pc := 102) pfl_X11_117 (by decide) rfl (by decide) (fm_dec dtX11_work 54 rfl) ?_
  refine pv_if_eq (pc := 105) 113 (by decide) (fm_dec dtX11_work 55 rfl) (fun _ => ?_) (fun hc105 => by exfalso; exact hc105 hf)
  refine pv_aloadn (pc := 113) (n := 0) 0 rfl rfl (fm_dec dtX11_work 59 rfl) ?_
  refine pv_iconst (pc := 114) (v := (-1)) (by decide) (fm_dec dtX11_work 60 rfl) ?_
  refine pv_putI (k := 0) (j := 3) (ci := 11) (pc := 115) pfl_X11_9 (by decide) rfl (by decide) (fm_dec dtX11_work 61 rfl) ?_
  refine pv_aloadn (pc := 118) (n := 0) 0 rfl rfl (fm_dec dtX11_work 62 rfl) ?_
  refine pv_getR (k := 0) (j := 27) (ci := 11) (pc := 119) 7 rfl (by decide) pfl_X11_61 (by decide) rfl (by decide) (fm_dec dtX11_work 63 rfl) ?_
  refine pv_aloadn (pc := 122) (n := 0) 0 rfl rfl (fm_dec dtX11_work 64 rfl) ?_
  refine pv_getR (k := 0) (j := 29) (ci := 11) (pc := 123) 25 rfl (by decide) pfl_X11_67 (by decide) rfl (by decide) (fm_dec dtX11_work 65 rfl) ?_
  refine pv_aloadn (pc := 126) (n := 0) 0 rfl rfl (fm_dec dtX11_work 66 rfl) ?_
  refine pv_getI (k := 0) (j := 32) (ci := 11) (pc := 127) pfl_X11_200 (by decide) rfl (by decide) (fm_dec dtX11_work 67 rfl) ?_
  refine pv_aald (k := 25) (n := 16) (r := (503 + w)) (pc := 130) (by decide) (Or.inr (Or.inr rfl)) rfl (rw_before.inb hw hw16) (rw_before.at hw hw16) (rw_before.2.2.2 _ hw16).2.1 (fm_dec dtX11_work 68 rfl) ?_
  refine pv_iS2 (d' := 0) (pc := 131) pcs_X11_323 (Nat.le_of_ble_eq_true rfl) (by omega) (fm_dec dtX11_work 69 rfl) ?_
  refine s_keep hw16 (hI.put (k := 0) (j := 3) (x := -1) (by decide) rfl) (fun M131 hI131 f131 => ?_) 
  refine pv_then0 ?_
  refine pv_aloadn (pc := 134) (n := 0) 0 rfl rfl (fm_dec dtX11_work 70 rfl) ?_
  refine pv_dup (pc := 135) rfl (fm_dec dtX11_work 71 rfl) ?_
  refine pv_getI (k := 0) (j := 32) (ci := 11) (pc := 136) pfl_X11_200 (by decide) rfl (by decide) (fm_dec dtX11_work 72 rfl) ?_
  refine pv_iconst (pc := 139) (v := 1) (by decide) (fm_dec dtX11_work 73 rfl) ?_
  refine pv_iadd (pc := 140) (fm_dec dtX11_work 74 rfl) ?_
  refine pv_putI (k := 0) (j := 32) (ci := 11) (pc := 141) pfl_X11_200 (by decide) rfl (by decide) (fm_dec dtX11_work 75 rfl) ?_
  refine pv_aloadn (pc := 144) (n := 0) 0 rfl rfl (fm_dec dtX11_work 76 rfl) ?_
  refine pv_iconst (pc := 145) (v := 0) (by decide) (fm_dec dtX11_work 77 rfl) ?_
  refine pv_putI (k := 0) (j := 36) (ci := 11) (pc := 146) pfl_X11_310 (by decide) rfl (by decide) (fm_dec dtX11_work 78 rfl) ?_
  refine pv_aloadn (pc := 149) (n := 0) 0 rfl rfl (fm_dec dtX11_work 79 rfl) ?_
  refine pv_iconst (pc := 150) (v := 0) (by decide) (fm_dec dtX11_work 80 rfl) ?_
  refine pv_putI (k := 0) (j := 37) (ci := 11) (pc := 151) pfl_X11_320 (by decide) rfl (by decide) (fm_dec dtX11_work 81 rfl) ?_
  refine pv_aloadn (pc := 154) (n := 0) 0 rfl rfl (fm_dec dtX11_work 82 rfl) ?_
  refine pv_iconst (pc := 155) (v := 0) (by decide) (fm_dec dtX11_work 83 rfl) ?_
  refine pv_putI (k := 0) (j := 33) (ci := 11) (pc := 156) pfl_X11_203 (by decide) rfl (by decide) (fm_dec dtX11_work 84 rfl) ?_
  have h32 : M131.1 0 32 = M.1 0 32 := (f131 0 32 rfl).1
  have hI5 : scInv Tm invM (wkM M131) := (by unfold wkM; refine inv_c0g (inv_c0g (inv_c0g (hI131.put (k := 0) (j := 32) ?_ rfl) (Or.inr (Or.inl rfl))) (Or.inr (Or.inr rfl))) (Or.inl rfl); rw [h32]; have h9 := i32_p1 hw (by omega); exact ⟨by show (0 : Int) ≤ _; omega, by show _ ≤ (16 : Int); omega⟩)
  have ek : ∀ k j, k ≠ 0 → k < 503 → (wkM M131).1 k j = M.1 k j := fun k j h0 h1 => (by unfold wkM; rw [fmI_k _ _ h0, fmI_k _ _ h0, fmI_k _ _ h0, fmI_k _ _ h0, (f131 k j (cpW_k h1)).1, fmI_k _ _ h0])
  have e26 : (wkM M131).1 0 26 = M.1 0 26 := (by unfold wkM; rw [fmI_j _ _ (by decide), fmI_j _ _ (by decide), fmI_j _ _ (by decide), fmI_j _ _ (by decide), (f131 0 26 rfl).1, fmI_j _ _ (by decide)])
  have hG5 : gSt (wkM M131) ss.length l 0 := gSt_of (hR.of (by omega) (fun k j a b => ek k j (by omega) b)) hO hn hl (by rw [ek 4 0 (by decide) (by decide)]; exact h4) hI5 rfl
  refine pv_aloadn (pc := 159) (n := 0) 0 rfl rfl (fm_dec dtX11_work 85 rfl) ?_
  refine pv_iconst (pc := 160) (v := 0) (by decide) (fm_dec dtX11_work 86 rfl) ?_
  refine pv_aloadn (pc := 161) (n := 0) 0 rfl rfl (fm_dec dtX11_work 87 rfl) ?_
  refine pv_getI (k := 0) (j := 26) (ci := 11) (pc := 162) pfl_X11_250 (by decide) rfl (by decide) (fm_dec dtX11_work 88 rfl) ?_
  refine pv_invV2 (k := 0) (d' := (12 + 200)) (pc := 165) pcv_X11_313 (by decide) rfl (Nat.le_of_ble_eq_true rfl) (by omega) (fm_dec dtX11_work 89 rfl) ?_
  refine gs_G (gs_P 200) _ _ ss.length l 0 0 ss.length 0 _ hG5 (by omega) (by decide) ((congrArg Int32.toInt e26).trans h26) (Nat.le_refl _) (fun M165 g165 hI165 f165 hg165 _ _ => ?_) 
  refine pv_then0 ?_
  refine pv_aloadn (pc := 168) (n := 0) 0 rfl rfl (fm_dec dtX11_work 90 rfl) ?_
  refine pv_getI (k := 0) (j := 37) (ci := 11) (pc := 169) pfl_X11_320 (by decide) rfl (by decide) (fm_dec dtX11_work 91 rfl) ?_
  exact pv_ireturn (pc := 172) rfl (fm_dec dtX11_work 92 rfl) (hq _ M165 hI165 (((f165 0 1 rfl).1).trans ((f131 0 1 rfl).1)))
set_option maxRecDepth 20000 in
theorem c_gwork {M : fmM} {Q : fmR → fmM → Prop} {nn : Int32} (hI : scInv Tm invM M) (hq : ∀ (r : fmR) (M' : fmM), txG M nn 150 M' → Q r M') : pvGood Tm 213 qX11_work [.ref 0, .int nn] M Q := by
  refine pvGood_of (Nat.le_of_ble_eq_true rfl) ?_
  show pvEv Tm 213 qX11_work 0 [some (.ref 0), some (.int nn)] [] M Q
  obtain ⟨l, h4, hl⟩ := told8 hI
  obtain ⟨w, hw, hw16⟩ := works16 hI
  have hI0 := hI.p00 (x := 0) (Or.inl rfl)
  have hfed := inv_fed hI
  refine pv_aloadn (pc := 0) (n := 0) 0 rfl rfl (fm_dec dtX11_work 0 rfl) ?_
  refine pv_iconst (pc := 1) (v := 0) (by decide) (fm_dec dtX11_work 1 rfl) ?_
  refine pv_putI (k := 0) (j := 0) (ci := 11) (pc := 2) pfl_X11_101 (by decide) rfl (by decide) (fm_dec dtX11_work 2 rfl) ?_
  refine pv_aloadn (pc := 5) (n := 0) 0 rfl rfl (fm_dec dtX11_work 3 rfl) ?_
  refine pv_iloadn (pc := 6) (n := 1) 1 rfl rfl (fm_dec dtX11_work 4 rfl) ?_
  refine pv_iconst (pc := 7) (v := 0) (by decide) (fm_dec dtX11_work 5 rfl) ?_
  refine pv_aloadn (pc := 8) (n := 0) 0 rfl rfl (fm_dec dtX11_work 6 rfl) ?_
  refine pv_getI (k := 0) (j := 1) (ci := 11) (pc := 9) pfl_X11_104 (by decide) rfl (by decide) (fm_dec dtX11_work 7 rfl) ?_
  refine pv_iS3 (d' := 0) (pc := 12) pcs_X11_135 (Nat.le_of_ble_eq_true rfl) (by decide) (fm_dec dtX11_work 8 rfl) ?_
  refine c_in (fun h12a h12b => ?_) (fun h12 => ?_)
  · refine pv_then1 ?_
    refine pv_if_eq (pc := 15) 25 (by decide) (fm_dec dtX11_work 9 rfl) (fun hc15 => by exfalso; revert hc15; decide) (fun _ => ?_)
    refine pv_iloadn (pc := 18) (n := 1) 1 rfl rfl (fm_dec dtX11_work 10 rfl) ?_
    refine pv_sipush (pc := 19) (v := 150) (by decide) (fm_dec dtX11_work 11 rfl) ?_
    refine pv_icmp_le (pc := 22) 29 (by decide) (fm_dec dtX11_work 12 rfl) (fun hc22 => ?_) (fun hc22 => ?_)
    · refine pv_iconst (pc := 29) (v := 0) (by decide) (fm_dec dtX11_work 15 rfl) ?_
      refine pv_iconst (pc := 30) (v := 1) (by decide) (fm_dec dtX11_work 16 rfl) ?_
      refine pv_iconst (pc := 31) (v := 1) (by decide) (fm_dec dtX11_work 17 rfl) ?_
      refine pv_invV3 (k := 0) (d' := 0) (pc := 32) pcv_X11_177 (by decide) rfl (Nat.le_of_ble_eq_true rfl) (by decide) (fm_dec dtX11_work 18 rfl) ?_
      refine c_badF1 rfl ?_
      refine pv_then1 ?_
      refine pv_if_eq (pc := 35) 40 (by decide) (fm_dec dtX11_work 19 rfl) (fun _ => ?_) (fun hc35 => by exfalso; revert hc35; decide)
      refine pv_aloadn (pc := 40) (n := 0) 0 rfl rfl (fm_dec dtX11_work 22 rfl) ?_
      refine pv_getI (k := 0) (j := 32) (ci := 11) (pc := 41) pfl_X11_200 (by decide) rfl (by decide) (fm_dec dtX11_work 23 rfl) ?_
      refine pv_bipush (pc := 44) (v := 16) (by decide) (fm_dec dtX11_work 24 rfl) ?_
      refine pv_icmp_ne (pc := 46) 62 (by decide) (fm_dec dtX11_work 25 rfl) (fun hc46 => ?_) (fun hc46 => ?_)
      · obtain ⟨n0, hn0⟩ : ∃ n0 : Nat, nn.toInt = n0 := ⟨nn.toInt.toNat, by have h9 : (0 : Int32).toInt = 0 := (by decide); omega⟩
        have hn150 : n0 ≤ 150 := (by have h9 := hc22; rw [sc_le] at h9; have h8 : (150 : Int32).toInt = 150 := (by decide); omega)
        have hn6 : n0 ≤ 600 := (by omega)
        refine pv_aloadn (pc := 62) (n := 0) 0 rfl rfl (fm_dec dtX11_work 34 rfl) ?_
        refine pv_iloadn (pc := 63) (n := 1) 1 rfl rfl (fm_dec dtX11_work 35 rfl) ?_
        refine pv_invV1 (k := 0) (d' := 2) (pc := 64) pcv_X11_181 (by decide) rfl (Nat.le_of_ble_eq_true rfl) (by omega) (fm_dec dtX11_work 36 rfl) ?_
        refine c_starts (n := n0) (M := fmI M 0 0 0) hfed hn6 hn0 (fun M64 h64 => ?_) 
        refine pv_then0 ?_
        refine pv_aloadn (pc := 67) (n := 0) 0 rfl rfl (fm_dec dtX11_work 37 rfl) ?_
        refine pv_iconst (pc := 68) (v := 0) (by decide) (fm_dec dtX11_work 38 rfl) ?_
        refine pv_putI (k := 0) (j := 26) (ci := 11) (pc := 69) pfl_X11_250 (by decide) rfl (by decide) (fm_dec dtX11_work 39 rfl) ?_
        have hI64 := inv_st hI h64
        have hok9 := rT_ok (n := n0) hfed hn6
        have hs0 : sk (rT M n0) 0 ≤ n0 := sp_le tB_1 hok9 (Nat.zero_le _)
        have hIs : scInv Tm invM (fmI M64 0 26 0) := hI64.put (scq_t 0) rfl
        have h4s : ((fmI M64 0 26 0).1 4 0).toInt = l := (by rw [fmI_k _ _ (by decide), st_k h64 (by decide)]; exact h4)
        have hP : srPre (fmI M64 0 26 0) (rT M n0) n0 (sk (rT M n0) 0) 0 0 l := ⟨h64.1.of rfl rfl rfl, h64.2.1, (by show (M64.1 0 8).toInt = _; rw [h64.2.2.1]; decide), by decide, (by rw [fmI_s]; decide), by omega, hn150, h4s, hl⟩
        have hbd := fun e he => wkL_bad hok9 hn150 700 0 (sk (rT M n0) 0) e hs0 (by omega) he (l := l)
        refine wk_loop (l := l) 700 0 _ _ hP (fun a h9 => by have h8 := (hbd _ h9).1.2; exact absurd h8 (show ¬ 9 ≤ 3 by decide)) (fun M2 ss q e h => ?_) (fun M2 k a e hB => ?_)
        · have g := wkL_ok hok9 700 0 _ ss hs0 e
          refine wk_f0 (l := l) (w := w) h.2.1 (inv_sr hIs h.2.2.2.2.2) (by rw [h.2.2.2.2.2.2.1 32 (by decide) (by decide) (by decide) (by decide) (by decide), fmI_j _ _ (by decide), st_j h64 (by decide)]; exact hw) (by have h9 : ¬ w = 16 := (fun h9 => hc46 (i32_ext (hw.trans (by rw [h9]; decide)))); omega) h.2.2.2.2.1 g.1 (by omega) hl (by rw [h.2.2.2.2.2.1 4 0 (by decide) (by omega)]; exact h4s) (by rw [h.2.2.2.1]; congr 1; omega) (fun n M9 _ h9 => hq _ _ (Or.inl ⟨⟨by omega, by omega, by exact h12b⟩, h9.trans ((h.2.2.2.2.2.2.1 1 (by decide) (by decide) (by decide) (by decide) (by decide)).trans ((fmI_j _ _ (by decide)).trans h64.2.2.2.2.1))⟩))
        · have hk := hbd _ e
          exact wk_e1 hB.nz (hq _ _ (Or.inl ⟨⟨by omega, by omega, by exact h12b⟩, (hB.2.2.2.2.2.1 1 (by decide) (by decide) (by decide) (by decide) (by decide)).trans ((fmI_j _ _ (by decide)).trans h64.2.2.2.2.1)⟩))
      · refine pv_aloadn (pc := 49) (n := 0) 0 rfl rfl (fm_dec dtX11_work 26 rfl) ?_
        refine pv_iconst (pc := 50) (v := 0) (by decide) (fm_dec dtX11_work 27 rfl) ?_
        refine pv_putI (k := 0) (j := 1) (ci := 11) (pc := 51) pfl_X11_104 (by decide) rfl (by decide) (fm_dec dtX11_work 28 rfl) ?_
        refine pv_aloadn (pc := 54) (n := 0) 0 rfl rfl (fm_dec dtX11_work 29 rfl) ?_
        refine pv_iconst (pc := 55) (v := (-1)) (by decide) (fm_dec dtX11_work 30 rfl) ?_
        refine pv_putI (k := 0) (j := 3) (ci := 11) (pc := 56) pfl_X11_9 (by decide) rfl (by decide) (fm_dec dtX11_work 31 rfl) ?_
        refine pv_bipush (pc := 59) (v := (-20)) (by decide) (fm_dec dtX11_work 32 rfl) ?_
        exact pv_ireturn (pc := 61) rfl (fm_dec dtX11_work 33 rfl) (hq _ _ (Or.inl ⟨⟨h12a, (by have h8 := hc22; rw [sc_le] at h8; have h7 : (150 : Int32).toInt = 150 := (by decide); omega), h12b⟩, rfl⟩))
    · refine pv_iconst (pc := 25) (v := 1) (by decide) (fm_dec dtX11_work 13 rfl) ?_
      refine pv_goto (pc := 26) 30 (by decide) (fm_dec dtX11_work 14 rfl) ?_
      refine pv_iconst (pc := 30) (v := 1) (by decide) (fm_dec dtX11_work 16 rfl) ?_
      refine pv_iconst (pc := 31) (v := 1) (by decide) (fm_dec dtX11_work 17 rfl) ?_
      refine pv_invV3 (k := 0) (d' := 0) (pc := 32) pcv_X11_177 (by decide) rfl (Nat.le_of_ble_eq_true rfl) (by decide) (fm_dec dtX11_work 18 rfl) ?_
      refine c_badT1 rfl (by decide) ?_
      refine pv_then1 ?_
      refine pv_if_eq (pc := 35) 40 (by decide) (fm_dec dtX11_work 19 rfl) (fun hc35 => by exfalso; revert hc35; decide) (fun _ => ?_)
      refine pv_iconst (pc := 38) (v := 0) (by decide) (fm_dec dtX11_work 20 rfl) ?_
      exact pv_ireturn (pc := 39) rfl (fm_dec dtX11_work 21 rfl) (hq _ _ (Or.inr ⟨(by intro h9; first | (have h8 := hc22; rw [sc_le] at h8; have h7 : (150 : Int32).toInt = 150 := (by decide); have h6 := h9.2.1; omega) | exact h12 ⟨(show (0 : Int32).toInt ≤ _ from h9.1), h9.2.2⟩), rfl, rfl⟩))
  · refine pv_then1 ?_
    refine pv_if_eq (pc := 15) 25 (by decide) (fm_dec dtX11_work 9 rfl) (fun _ => ?_) (fun hc15 => by exfalso; revert hc15; decide)
    refine pv_iconst (pc := 25) (v := 1) (by decide) (fm_dec dtX11_work 13 rfl) ?_
    refine pv_goto (pc := 26) 30 (by decide) (fm_dec dtX11_work 14 rfl) ?_
    refine pv_iconst (pc := 30) (v := 1) (by decide) (fm_dec dtX11_work 16 rfl) ?_
    refine pv_iconst (pc := 31) (v := 1) (by decide) (fm_dec dtX11_work 17 rfl) ?_
    refine pv_invV3 (k := 0) (d' := 0) (pc := 32) pcv_X11_177 (by decide) rfl (Nat.le_of_ble_eq_true rfl) (by decide) (fm_dec dtX11_work 18 rfl) ?_
    refine c_badT1 rfl (by decide) ?_
    refine pv_then1 ?_
    refine pv_if_eq (pc := 35) 40 (by decide) (fm_dec dtX11_work 19 rfl) (fun hc35 => by exfalso; revert hc35; decide) (fun _ => ?_)
    refine pv_iconst (pc := 38) (v := 0) (by decide) (fm_dec dtX11_work 20 rfl) ?_
    exact pv_ireturn (pc := 39) rfl (fm_dec dtX11_work 21 rfl) (hq _ _ (Or.inr ⟨(by intro h9; first | (have h8 := hc22; rw [sc_le] at h8; have h7 : (150 : Int32).toInt = 150 := (by decide); have h6 := h9.2.1; omega) | exact h12 ⟨(show (0 : Int32).toInt ≤ _ from h9.1), h9.2.2⟩), rfl, rfl⟩))
def xb (x s : Int32) : Int32 := vp_nar .byte (x >>> (s &&& 31)).toInt8.toInt32
def ptM (M : fmM) (f : Nat) (b : Int32) : fmM := fmI (fmI M 2 f b) 1 1 (M.1 1 1 + 1)
def puM (M : fmM) (f : Nat) (x : Int32) : fmM := ptM (ptM (ptM (ptM M f (xb x 24)) (f + 1) (xb x 16)) (f + 2) (xb x 8)) (f + 3) (xb x 0)
theorem pt_f {M : fmM} {f : Nat} {b : Int32} (h : (M.1 1 1).toInt = (f : Int)) (hf : f < 600) : ((ptM M f b).1 1 1).toInt = ((f + 1 : Nat) : Int) := by
  unfold ptM
  rw [fmI_s]
  exact i32_p1 h (by omega)
theorem pu_f {M : fmM} {f : Nat} {x : Int32} (h : (M.1 1 1).toInt = (f : Int)) (hf : f + 4 ≤ 600) : ((puM M f x).1 1 1).toInt = ((f + 4 : Nat) : Int) := pt_f (pt_f (pt_f (pt_f h (by omega)) (by omega)) (by omega)) (by omega)
set_option maxRecDepth 20000 in
theorem pt_24 {Q : fmR → fmM → Prop} {M : fmM} {x : Int32} {f : Nat} (hf : (M.1 1 1).toInt = (f : Int)) (h6 : f < 600) (k : pvEv Tx 0 qX7_put 3 [some (.ref 1), some (.int x), some (.int 16)] [] (ptM M f (xb x 24)) Q) : pvEv Tx 0 qX7_put 3 [some (.ref 1), some (.int x), some (.int 24)] [] M Q := by
  refine pv_iloadn (pc := 3) (n := 2) 2 rfl rfl (fm_dec dtX7_put 2 rfl) ?_
  refine pv_if_lt (pc := 4) 46 (by decide) (fm_dec dtX7_put 3 rfl) (fun hc4 => by exfalso; revert hc4; decide) (fun _ => ?_)
  refine pv_aloadn (pc := 7) (n := 0) 0 rfl rfl (fm_dec dtX7_put 4 rfl) ?_
  refine pv_getI (k := 1) (j := 1) (ci := 7) (pc := 8) pfl_X7_19 (by decide) rfl (by decide) (fm_dec dtX7_put 5 rfl) ?_
  refine pv_sipush (pc := 11) (v := 600) (by decide) (fm_dec dtX7_put 6 rfl) ?_
  refine pv_icmp_ge (pc := 14) 46 (by decide) (fm_dec dtX7_put 7 rfl) (fun hc14 => by exfalso; rw [sc_le] at hc14; have h9 : (600 : Int32).toInt = 600 := (by decide); omega) (fun _ => ?_)
  refine pv_aloadn (pc := 17) (n := 0) 0 rfl rfl (fm_dec dtX7_put 8 rfl) ?_
  refine pv_getR (k := 1) (j := 0) (ci := 7) (pc := 18) 2 rfl (by decide) pfl_X7_9 (by decide) rfl (by decide) (fm_dec dtX7_put 9 rfl) ?_
  refine pv_aloadn (pc := 21) (n := 0) 0 rfl rfl (fm_dec dtX7_put 10 rfl) ?_
  refine pv_getI (k := 1) (j := 1) (ci := 7) (pc := 22) pfl_X7_19 (by decide) rfl (by decide) (fm_dec dtX7_put 11 rfl) ?_
  refine pv_iloadn (pc := 25) (n := 1) 1 rfl rfl (fm_dec dtX7_put 12 rfl) ?_
  refine pv_iloadn (pc := 26) (n := 2) 2 rfl rfl (fm_dec dtX7_put 13 rfl) ?_
  refine pv_ishr (pc := 27) (fm_dec dtX7_put 14 rfl) ?_
  refine pv_i2b (pc := 28) (fm_dec dtX7_put 15 rfl) ?_
  refine pv_bast (k := 2) (n := 600) (pc := 29) (by decide) rfl rfl (ix_in hf h6) (fm_dec dtX7_put 16 rfl) ?_
  rw [i32_cl hf]
  refine pv_aloadn (pc := 30) (n := 0) 0 rfl rfl (fm_dec dtX7_put 17 rfl) ?_
  refine pv_dup (pc := 31) rfl (fm_dec dtX7_put 18 rfl) ?_
  refine pv_getI (k := 1) (j := 1) (ci := 7) (pc := 32) pfl_X7_19 (by decide) rfl (by decide) (fm_dec dtX7_put 19 rfl) ?_
  refine pv_iconst (pc := 35) (v := 1) (by decide) (fm_dec dtX7_put 20 rfl) ?_
  refine pv_iadd (pc := 36) (fm_dec dtX7_put 21 rfl) ?_
  refine pv_putI (k := 1) (j := 1) (ci := 7) (pc := 37) pfl_X7_19 (by decide) rfl (by decide) (fm_dec dtX7_put 22 rfl) ?_
  refine pv_iincc (pc := 40) 2 (-8) (by decide) rfl (by decide) rfl (fm_dec dtX7_put 23 rfl) ?_
  dsimp only [List.set_cons_zero, List.set_cons_succ]
  rw [show (24 : Int32) + (-8) = 16 by decide]
  refine pv_goto (pc := 43) 3 (by decide) (fm_dec dtX7_put 24 rfl) ?_
  exact k
set_option maxRecDepth 20000 in
theorem pt_16 {Q : fmR → fmM → Prop} {M : fmM} {x : Int32} {f : Nat} (hf : (M.1 1 1).toInt = (f : Int)) (h6 : f < 600) (k : pvEv Tx 0 qX7_put 3 [some (.ref 1), some (.int x), some (.int 8)] [] (ptM M f (xb x 16)) Q) : pvEv Tx 0 qX7_put 3 [some (.ref 1), some (.int x), some (.int 16)] [] M Q := by
  refine pv_iloadn (pc := 3) (n := 2) 2 rfl rfl (fm_dec dtX7_put 2 rfl) ?_
  refine pv_if_lt (pc := 4) 46 (by decide) (fm_dec dtX7_put 3 rfl) (fun hc4 => by exfalso; revert hc4; decide) (fun _ => ?_)
  refine pv_aloadn (pc := 7) (n := 0) 0 rfl rfl (fm_dec dtX7_put 4 rfl) ?_
  refine pv_getI (k := 1) (j := 1) (ci := 7) (pc := 8) pfl_X7_19 (by decide) rfl (by decide) (fm_dec dtX7_put 5 rfl) ?_
  refine pv_sipush (pc := 11) (v := 600) (by decide) (fm_dec dtX7_put 6 rfl) ?_
  refine pv_icmp_ge (pc := 14) 46 (by decide) (fm_dec dtX7_put 7 rfl) (fun hc14 => by exfalso; rw [sc_le] at hc14; have h9 : (600 : Int32).toInt = 600 := (by decide); omega) (fun _ => ?_)
  refine pv_aloadn (pc := 17) (n := 0) 0 rfl rfl (fm_dec dtX7_put 8 rfl) ?_
  refine pv_getR (k := 1) (j := 0) (ci := 7) (pc := 18) 2 rfl (by decide) pfl_X7_9 (by decide) rfl (by decide) (fm_dec dtX7_put 9 rfl) ?_
  refine pv_aloadn (pc := 21) (n := 0) 0 rfl rfl (fm_dec dtX7_put 10 rfl) ?_
  refine pv_getI (k := 1) (j := 1) (ci := 7) (pc := 22) pfl_X7_19 (by decide) rfl (by decide) (fm_dec dtX7_put 11 rfl) ?_
  refine pv_iloadn (pc := 25) (n := 1) 1 rfl rfl (fm_dec dtX7_put 12 rfl) ?_
  refine pv_iloadn (pc := 26) (n := 2) 2 rfl rfl (fm_dec dtX7_put 13 rfl) ?_
  refine pv_ishr (pc := 27) (fm_dec dtX7_put 14 rfl) ?_
  refine pv_i2b (pc := 28) (fm_dec dtX7_put 15 rfl) ?_
  refine pv_bast (k := 2) (n := 600) (pc := 29) (by decide) rfl rfl (ix_in hf h6) (fm_dec dtX7_put 16 rfl) ?_
  rw [i32_cl hf]
  refine pv_aloadn (pc := 30) (n := 0) 0 rfl rfl (fm_dec dtX7_put 17 rfl) ?_
  refine pv_dup (pc := 31) rfl (fm_dec dtX7_put 18 rfl) ?_
  refine pv_getI (k := 1) (j := 1) (ci := 7) (pc := 32) pfl_X7_19 (by decide) rfl (by decide) (fm_dec dtX7_put 19 rfl) ?_
  refine pv_iconst (pc := 35) (v := 1) (by decide) (fm_dec dtX7_put 20 rfl) ?_
  refine pv_iadd (pc := 36) (fm_dec dtX7_put 21 rfl) ?_
  refine pv_putI (k := 1) (j := 1) (ci := 7) (pc := 37) pfl_X7_19 (by decide) rfl (by decide) (fm_dec dtX7_put 22 rfl) ?_
  refine pv_iincc (pc := 40) 2 (-8) (by decide) rfl (by decide) rfl (fm_dec dtX7_put 23 rfl) ?_
  dsimp only [List.set_cons_zero, List.set_cons_succ]
  rw [show (16 : Int32) + (-8) = 8 by decide]
  refine pv_goto (pc := 43) 3 (by decide) (fm_dec dtX7_put 24 rfl) ?_
  exact k
set_option maxRecDepth 20000 in
theorem pt_8 {Q : fmR → fmM → Prop} {M : fmM} {x : Int32} {f : Nat} (hf : (M.1 1 1).toInt = (f : Int)) (h6 : f < 600) (k : pvEv Tx 0 qX7_put 3 [some (.ref 1), some (.int x), some (.int 0)] [] (ptM M f (xb x 8)) Q) : pvEv Tx 0 qX7_put 3 [some (.ref 1), some (.int x), some (.int 8)] [] M Q := by
  refine pv_iloadn (pc := 3) (n := 2) 2 rfl rfl (fm_dec dtX7_put 2 rfl) ?_
  refine pv_if_lt (pc := 4) 46 (by decide) (fm_dec dtX7_put 3 rfl) (fun hc4 => by exfalso; revert hc4; decide) (fun _ => ?_)
  refine pv_aloadn (pc := 7) (n := 0) 0 rfl rfl (fm_dec dtX7_put 4 rfl) ?_
  refine pv_getI (k := 1) (j := 1) (ci := 7) (pc := 8) pfl_X7_19 (by decide) rfl (by decide) (fm_dec dtX7_put 5 rfl) ?_
  refine pv_sipush (pc := 11) (v := 600) (by decide) (fm_dec dtX7_put 6 rfl) ?_
  refine pv_icmp_ge (pc := 14) 46 (by decide) (fm_dec dtX7_put 7 rfl) (fun hc14 => by exfalso; rw [sc_le] at hc14; have h9 : (600 : Int32).toInt = 600 := (by decide); omega) (fun _ => ?_)
  refine pv_aloadn (pc := 17) (n := 0) 0 rfl rfl (fm_dec dtX7_put 8 rfl) ?_
  refine pv_getR (k := 1) (j := 0) (ci := 7) (pc := 18) 2 rfl (by decide) pfl_X7_9 (by decide) rfl (by decide) (fm_dec dtX7_put 9 rfl) ?_
  refine pv_aloadn (pc := 21) (n := 0) 0 rfl rfl (fm_dec dtX7_put 10 rfl) ?_
  refine pv_getI (k := 1) (j := 1) (ci := 7) (pc := 22) pfl_X7_19 (by decide) rfl (by decide) (fm_dec dtX7_put 11 rfl) ?_
  refine pv_iloadn (pc := 25) (n := 1) 1 rfl rfl (fm_dec dtX7_put 12 rfl) ?_
  refine pv_iloadn (pc := 26) (n := 2) 2 rfl rfl (fm_dec dtX7_put 13 rfl) ?_
  refine pv_ishr (pc := 27) (fm_dec dtX7_put 14 rfl) ?_
  refine pv_i2b (pc := 28) (fm_dec dtX7_put 15 rfl) ?_
  refine pv_bast (k := 2) (n := 600) (pc := 29) (by decide) rfl rfl (ix_in hf h6) (fm_dec dtX7_put 16 rfl) ?_
  rw [i32_cl hf]
  refine pv_aloadn (pc := 30) (n := 0) 0 rfl rfl (fm_dec dtX7_put 17 rfl) ?_
  refine pv_dup (pc := 31) rfl (fm_dec dtX7_put 18 rfl) ?_
  refine pv_getI (k := 1) (j := 1) (ci := 7) (pc := 32) pfl_X7_19 (by decide) rfl (by decide) (fm_dec dtX7_put 19 rfl) ?_
  refine pv_iconst (pc := 35) (v := 1) (by decide) (fm_dec dtX7_put 20 rfl) ?_
  refine pv_iadd (pc := 36) (fm_dec dtX7_put 21 rfl) ?_
  refine pv_putI (k := 1) (j := 1) (ci := 7) (pc := 37) pfl_X7_19 (by decide) rfl (by decide) (fm_dec dtX7_put 22 rfl) ?_
  refine pv_iincc (pc := 40) 2 (-8) (by decide) rfl (by decide) rfl (fm_dec dtX7_put 23 rfl) ?_
  dsimp only [List.set_cons_zero, List.set_cons_succ]
  rw [show (8 : Int32) + (-8) = 0 by decide]
  refine pv_goto (pc := 43) 3 (by decide) (fm_dec dtX7_put 24 rfl) ?_
  exact k
set_option maxRecDepth 20000 in
theorem pt_0 {Q : fmR → fmM → Prop} {M : fmM} {x : Int32} {f : Nat} (hf : (M.1 1 1).toInt = (f : Int)) (h6 : f < 600) (k : pvEv Tx 0 qX7_put 3 [some (.ref 1), some (.int x), some (.int (-8))] [] (ptM M f (xb x 0)) Q) : pvEv Tx 0 qX7_put 3 [some (.ref 1), some (.int x), some (.int 0)] [] M Q := by
  refine pv_iloadn (pc := 3) (n := 2) 2 rfl rfl (fm_dec dtX7_put 2 rfl) ?_
  refine pv_if_lt (pc := 4) 46 (by decide) (fm_dec dtX7_put 3 rfl) (fun hc4 => by exfalso; revert hc4; decide) (fun _ => ?_)
  refine pv_aloadn (pc := 7) (n := 0) 0 rfl rfl (fm_dec dtX7_put 4 rfl) ?_
  refine pv_getI (k := 1) (j := 1) (ci := 7) (pc := 8) pfl_X7_19 (by decide) rfl (by decide) (fm_dec dtX7_put 5 rfl) ?_
  refine pv_sipush (pc := 11) (v := 600) (by decide) (fm_dec dtX7_put 6 rfl) ?_
  refine pv_icmp_ge (pc := 14) 46 (by decide) (fm_dec dtX7_put 7 rfl) (fun hc14 => by exfalso; rw [sc_le] at hc14; have h9 : (600 : Int32).toInt = 600 := (by decide); omega) (fun _ => ?_)
  refine pv_aloadn (pc := 17) (n := 0) 0 rfl rfl (fm_dec dtX7_put 8 rfl) ?_
  refine pv_getR (k := 1) (j := 0) (ci := 7) (pc := 18) 2 rfl (by decide) pfl_X7_9 (by decide) rfl (by decide) (fm_dec dtX7_put 9 rfl) ?_
  refine pv_aloadn (pc := 21) (n := 0) 0 rfl rfl (fm_dec dtX7_put 10 rfl) ?_
  refine pv_getI (k := 1) (j := 1) (ci := 7) (pc := 22) pfl_X7_19 (by decide) rfl (by decide) (fm_dec dtX7_put 11 rfl) ?_
  refine pv_iloadn (pc := 25) (n := 1) 1 rfl rfl (fm_dec dtX7_put 12 rfl) ?_
  refine pv_iloadn (pc := 26) (n := 2) 2 rfl rfl (fm_dec dtX7_put 13 rfl) ?_
  refine pv_ishr (pc := 27) (fm_dec dtX7_put 14 rfl) ?_
  refine pv_i2b (pc := 28) (fm_dec dtX7_put 15 rfl) ?_
  refine pv_bast (k := 2) (n := 600) (pc := 29) (by decide) rfl rfl (ix_in hf h6) (fm_dec dtX7_put 16 rfl) ?_
  rw [i32_cl hf]
  refine pv_aloadn (pc := 30) (n := 0) 0 rfl rfl (fm_dec dtX7_put 17 rfl) ?_
  refine pv_dup (pc := 31) rfl (fm_dec dtX7_put 18 rfl) ?_
  refine pv_getI (k := 1) (j := 1) (ci := 7) (pc := 32) pfl_X7_19 (by decide) rfl (by decide) (fm_dec dtX7_put 19 rfl) ?_
  refine pv_iconst (pc := 35) (v := 1) (by decide) (fm_dec dtX7_put 20 rfl) ?_
  refine pv_iadd (pc := 36) (fm_dec dtX7_put 21 rfl) ?_
  refine pv_putI (k := 1) (j := 1) (ci := 7) (pc := 37) pfl_X7_19 (by decide) rfl (by decide) (fm_dec dtX7_put 22 rfl) ?_
  refine pv_iincc (pc := 40) 2 (-8) (by decide) rfl (by decide) rfl (fm_dec dtX7_put 23 rfl) ?_
  dsimp only [List.set_cons_zero, List.set_cons_succ]
  rw [show (0 : Int32) + (-8) = (-8) by decide]
  refine pv_goto (pc := 43) 3 (by decide) (fm_dec dtX7_put 24 rfl) ?_
  exact k
set_option maxRecDepth 20000 in
theorem c_put {M : fmM} {Q : fmR → fmM → Prop} {x : Int32} {f : Nat} (hf : (M.1 1 1).toInt = (f : Int)) (h6 : f + 4 ≤ 600) (hq : Q (.inl none) (puM M f x)) : pvGood Tx 0 qX7_put [.ref 1, .int x] M Q := by
  refine pvGood_of (Nat.le_of_ble_eq_true rfl) ?_
  show pvEv Tx 0 qX7_put 0 [some (.ref 1), some (.int x), none] [] M Q
  refine pv_bipush (pc := 0) (v := 24) (by decide) (fm_dec dtX7_put 0 rfl) ?_
  refine pv_istoren (pc := 2) (n := 2) 2 rfl (by decide) rfl (fm_dec dtX7_put 1 rfl) ?_
  dsimp only [List.set_cons_zero, List.set_cons_succ]
  refine pt_24 hf (by omega) ?_
  have h1 := pt_f (b := xb x 24) hf (by omega)
  refine pt_16 h1 (by omega) ?_
  have h2 := pt_f (b := xb x 16) h1 (by omega)
  refine pt_8 h2 (by omega) ?_
  have h3 := pt_f (b := xb x 8) h2 (by omega)
  refine pt_0 h3 (by omega) ?_
  refine pv_iloadn (pc := 3) (n := 2) 2 rfl rfl (fm_dec dtX7_put 2 rfl) ?_
  refine pv_if_lt (pc := 4) 46 (by decide) (fm_dec dtX7_put 3 rfl) (fun _ => ?_) (fun hc4 => by exfalso; revert hc4; decide)
  exact pv_return (pc := 46) rfl (fm_dec dtX7_put 25 rfl) hq
set_option maxRecDepth 20000 in
theorem c_xfeed {M : fmM} {Q : fmR → fmM → Prop} {a b c d e : Int32} {f : Nat} (hf : (M.1 1 1).toInt = (f : Int)) (h600 : f ≤ 600) (hn : 600 < f + 20 → Q (.inl (some (.int (-1)))) M) (hq : f + 20 ≤ 600 → Q (.inl (some (.int ((puM (puM (puM (puM (puM M f a) (f + 4) b) (f + 4 + 4) c) (f + 4 + 4 + 4) d) (f + 4 + 4 + 4 + 4) e).1 1 1)))) (puM (puM (puM (puM (puM M f a) (f + 4) b) (f + 4 + 4) c) (f + 4 + 4 + 4) d) (f + 4 + 4 + 4 + 4) e)) : pvGood Tx 1 qX10_feed [.ref 0, .int a, .int b, .int c, .int d, .int e] M Q := by
  refine pvGood_of (Nat.le_of_ble_eq_true rfl) ?_
  show pvEv Tx 1 qX10_feed 0 [some (.ref 0), some (.int a), some (.int b), some (.int c), some (.int d), some (.int e)] [] M Q
  have e20 : (M.1 1 1 + 20).toInt = (f : Int) + 20 := (by have h7 : (20 : Int32).toInt = 20 := (by decide); rw [sc_add (by omega) (by omega)]; omega)
  refine pv_aloadn (pc := 0) (n := 0) 0 rfl rfl (fm_dec dtX10_feed 0 rfl) ?_
  refine pv_getR (k := 0) (j := 0) (ci := 10) (pc := 1) 1 rfl (by decide) pfl_X10_12 (by decide) rfl (by decide) (fm_dec dtX10_feed 1 rfl) ?_
  refine pv_getI (k := 1) (j := 1) (ci := 7) (pc := 4) pfl_X10_100 (by decide) rfl (by decide) (fm_dec dtX10_feed 2 rfl) ?_
  refine pv_bipush (pc := 7) (v := 20) (by decide) (fm_dec dtX10_feed 3 rfl) ?_
  refine pv_iadd (pc := 9) (fm_dec dtX10_feed 4 rfl) ?_
  refine pv_sipush (pc := 10) (v := 600) (by decide) (fm_dec dtX10_feed 5 rfl) ?_
  refine pv_icmp_le (pc := 13) 18 (by decide) (fm_dec dtX10_feed 6 rfl) (fun hc13 => ?_) (fun hc13 => ?_)
  · have h20 : f + 20 ≤ 600 := (by rw [sc_le] at hc13; have h8 : (600 : Int32).toInt = 600 := (by decide); have h7 : (20 : Int32).toInt = 20 := (by decide); omega)
    refine pv_aloadn (pc := 18) (n := 0) 0 rfl rfl (fm_dec dtX10_feed 9 rfl) ?_
    refine pv_getR (k := 0) (j := 0) (ci := 10) (pc := 19) 1 rfl (by decide) pfl_X10_12 (by decide) rfl (by decide) (fm_dec dtX10_feed 10 rfl) ?_
    refine pv_iloadn (pc := 22) (n := 1) 1 rfl rfl (fm_dec dtX10_feed 11 rfl) ?_
    refine pv_invV1 (k := 1) (d' := 0) (pc := 23) pcv_X10_104 (by decide) rfl (Nat.le_of_ble_eq_true rfl) (by decide) (fm_dec dtX10_feed 12 rfl) ?_
    refine c_put hf (by omega) ?_
    refine pv_then0 ?_
    have g1 := pu_f (x := a) hf (by omega)
    refine pv_aloadn (pc := 26) (n := 0) 0 rfl rfl (fm_dec dtX10_feed 13 rfl) ?_
    refine pv_getR (k := 0) (j := 0) (ci := 10) (pc := 27) 1 rfl (by decide) pfl_X10_12 (by decide) rfl (by decide) (fm_dec dtX10_feed 14 rfl) ?_
    refine pv_iloadn (pc := 30) (n := 2) 2 rfl rfl (fm_dec dtX10_feed 15 rfl) ?_
    refine pv_invV1 (k := 1) (d' := 0) (pc := 31) pcv_X10_104 (by decide) rfl (Nat.le_of_ble_eq_true rfl) (by decide) (fm_dec dtX10_feed 16 rfl) ?_
    refine c_put g1 (by omega) ?_
    refine pv_then0 ?_
    have g2 := pu_f (x := b) g1 (by omega)
    refine pv_aloadn (pc := 34) (n := 0) 0 rfl rfl (fm_dec dtX10_feed 17 rfl) ?_
    refine pv_getR (k := 0) (j := 0) (ci := 10) (pc := 35) 1 rfl (by decide) pfl_X10_12 (by decide) rfl (by decide) (fm_dec dtX10_feed 18 rfl) ?_
    refine pv_iloadn (pc := 38) (n := 3) 3 rfl rfl (fm_dec dtX10_feed 19 rfl) ?_
    refine pv_invV1 (k := 1) (d' := 0) (pc := 39) pcv_X10_104 (by decide) rfl (Nat.le_of_ble_eq_true rfl) (by decide) (fm_dec dtX10_feed 20 rfl) ?_
    refine c_put g2 (by omega) ?_
    refine pv_then0 ?_
    have g3 := pu_f (x := c) g2 (by omega)
    refine pv_aloadn (pc := 42) (n := 0) 0 rfl rfl (fm_dec dtX10_feed 21 rfl) ?_
    refine pv_getR (k := 0) (j := 0) (ci := 10) (pc := 43) 1 rfl (by decide) pfl_X10_12 (by decide) rfl (by decide) (fm_dec dtX10_feed 22 rfl) ?_
    refine pv_iload (pc := 46) (i := 4) rfl (fm_dec dtX10_feed 23 rfl) ?_
    refine pv_invV1 (k := 1) (d' := 0) (pc := 48) pcv_X10_104 (by decide) rfl (Nat.le_of_ble_eq_true rfl) (by decide) (fm_dec dtX10_feed 24 rfl) ?_
    refine c_put g3 (by omega) ?_
    refine pv_then0 ?_
    have g4 := pu_f (x := d) g3 (by omega)
    refine pv_aloadn (pc := 51) (n := 0) 0 rfl rfl (fm_dec dtX10_feed 25 rfl) ?_
    refine pv_getR (k := 0) (j := 0) (ci := 10) (pc := 52) 1 rfl (by decide) pfl_X10_12 (by decide) rfl (by decide) (fm_dec dtX10_feed 26 rfl) ?_
    refine pv_iload (pc := 55) (i := 5) rfl (fm_dec dtX10_feed 27 rfl) ?_
    refine pv_invV1 (k := 1) (d' := 0) (pc := 57) pcv_X10_104 (by decide) rfl (Nat.le_of_ble_eq_true rfl) (by decide) (fm_dec dtX10_feed 28 rfl) ?_
    refine c_put g4 (by omega) ?_
    refine pv_then0 ?_
    have g5 := pu_f (x := e) g4 (by omega)
    refine pv_aloadn (pc := 60) (n := 0) 0 rfl rfl (fm_dec dtX10_feed 29 rfl) ?_
    refine pv_getR (k := 0) (j := 0) (ci := 10) (pc := 61) 1 rfl (by decide) pfl_X10_12 (by decide) rfl (by decide) (fm_dec dtX10_feed 30 rfl) ?_
    refine pv_getI (k := 1) (j := 1) (ci := 7) (pc := 64) pfl_X10_100 (by decide) rfl (by decide) (fm_dec dtX10_feed 31 rfl) ?_
    exact pv_ireturn (pc := 67) rfl (fm_dec dtX10_feed 32 rfl) (hq h20)
  · refine pv_iconst (pc := 16) (v := (-1)) (by decide) (fm_dec dtX10_feed 7 rfl) ?_
    exact pv_ireturn (pc := 17) rfl (fm_dec dtX10_feed 8 rfl) (hn (by rw [sc_le] at hc13; have h8 : (600 : Int32).toInt = 600 := (by decide); have h7 : (20 : Int32).toInt = 20 := (by decide); omega))
def fdS (a b c d e k : Int32) : Int32 := if 4 ≤ k then (if 8 ≤ k then (if 12 ≤ k then (if 16 ≤ k then e else d) else c) else b) else a
def fdB (a b c d e k : Int32) : Int32 := fdS a b c d e k >>> ((24 - 8 * (k - k / 4 * 4)) &&& 31) &&& 255
def feM (M : fmM) (f : Nat) (b : Int32) : fmM := fmI (fmI M 1 f b) 0 1 (M.1 0 1 + 1)
/-- bytes k to 20 are fed from place f on -/
def feR (M M' : fmM) (f k : Nat) (B : Nat → Int32) : Prop := (M'.1 0 1).toInt = ((f + 20 : Nat) : Int) ∧ (∀ i, k ≤ i → i < 20 → M'.1 1 (f + i) = B i) ∧ (∀ q j, ¬ (q = 0 ∧ j = 1) → ¬ (q = 1 ∧ f + k ≤ j ∧ j < f + 20) → M'.1 q j = M.1 q j) ∧ M'.2 = M.2
theorem feR.step {M M' : fmM} {f k : Nat} {B : Nat → Int32} (hk : k < 20) (h : feR (feM M (f + k) (B k)) M' f (k + 1) B) : feR M M' f k B := by
  obtain ⟨h1, h2, h3, h4⟩ := h
  refine ⟨h1, fun i hi h20 => ?_, fun q j n1 n2 => ?_, h4⟩
  · by_cases e : i = k
    · subst e
      rw [h3 1 (f + i) (by omega) (by omega)]
      unfold feM
      rw [fmI_k _ _ (by decide), fmI_s]
    · exact h2 i (by omega) h20
  · rw [h3 q j n1 (by omega)]
    unfold feM
    rw [fmI_at, if_neg n1, fmI_at, if_neg (by omega)]
set_option maxRecDepth 20000 in
theorem fe_loop {Q : fmR → fmM → Prop} {a b c d e : Int32} {f : Nat} (h20 : f + 20 ≤ 600) : ∀ (m k : Nat) (M : fmM) (v7 : Option Value), (M.1 0 1).toInt = ((f + k : Nat) : Int) → k + m = 20 → (∀ (M' : fmM) (x6 v7 : Option Value), feR M M' f k (fun i => fdB a b c d e (nI i)) → pvEv Tm 0 qX11_feed 120 [some (.ref 0), some (.int a), some (.int b), some (.int c), some (.int d), some (.int e), x6, v7] [] M' Q) → pvEv Tm 0 qX11_feed 23 [some (.ref 0), some (.int a), some (.int b), some (.int c), some (.int d), some (.int e), some (.int (nI k)), v7] [] M Q := by
  intro m
  induction m with
  | zero =>
    intro k M v7 hf hk hq
    refine pv_iload (pc := 23) (i := 6) rfl (fm_dec dtX11_feed 13 rfl) ?_
    refine pv_bipush (pc := 25) (v := 20) (by decide) (fm_dec dtX11_feed 14 rfl) ?_
    refine pv_icmp_ge (pc := 27) 120 (by decide) (fm_dec dtX11_feed 15 rfl) (fun _ => ?_) (fun hc27 => by exfalso; apply hc27; rw [sc_le]; have h8 : (20 : Int32).toInt = 20 := (by decide); have h7 : (nI k).toInt = (k : Int) := nI_toInt (by omega); omega)
    exact hq M _ _ ⟨by rw [hf]; congr 1; omega, fun i h1 h2 => by omega, fun _ _ _ _ => rfl, rfl⟩
  | succ m ih =>
    intro k M v7 hf hk hq
    refine pv_iload (pc := 23) (i := 6) rfl (fm_dec dtX11_feed 13 rfl) ?_
    refine pv_bipush (pc := 25) (v := 20) (by decide) (fm_dec dtX11_feed 14 rfl) ?_
    refine pv_icmp_ge (pc := 27) 120 (by decide) (fm_dec dtX11_feed 15 rfl) (fun hc27 => by exfalso; rw [sc_le] at hc27; have h8 : (20 : Int32).toInt = 20 := (by decide); have h7 : (nI k).toInt = (k : Int) := nI_toInt (by omega); omega) (fun _ => ?_)
    refine pv_iload (pc := 30) (i := 6) rfl (fm_dec dtX11_feed 16 rfl) ?_
    refine pv_iconst (pc := 32) (v := 4) (by decide) (fm_dec dtX11_feed 17 rfl) ?_
    refine pv_icmp_ge (pc := 33) 40 (by decide) (fm_dec dtX11_feed 18 rfl) (fun hc33 => ?_) (fun hc33 => ?_)
    · refine pv_iload (pc := 40) (i := 6) rfl (fm_dec dtX11_feed 21 rfl) ?_
      refine pv_bipush (pc := 42) (v := 8) (by decide) (fm_dec dtX11_feed 22 rfl) ?_
      refine pv_icmp_ge (pc := 44) 51 (by decide) (fm_dec dtX11_feed 23 rfl) (fun hc44 => ?_) (fun hc44 => ?_)
      · refine pv_iload (pc := 51) (i := 6) rfl (fm_dec dtX11_feed 26 rfl) ?_
        refine pv_bipush (pc := 53) (v := 12) (by decide) (fm_dec dtX11_feed 27 rfl) ?_
        refine pv_icmp_ge (pc := 55) 62 (by decide) (fm_dec dtX11_feed 28 rfl) (fun hc55 => ?_) (fun hc55 => ?_)
        · refine pv_iload (pc := 62) (i := 6) rfl (fm_dec dtX11_feed 31 rfl) ?_
          refine pv_bipush (pc := 64) (v := 16) (by decide) (fm_dec dtX11_feed 32 rfl) ?_
          refine pv_icmp_ge (pc := 66) 74 (by decide) (fm_dec dtX11_feed 33 rfl) (fun hc66 => ?_) (fun hc66 => ?_)
          · refine pv_iload (pc := 74) (i := 5) rfl (fm_dec dtX11_feed 36 rfl) ?_
            refine pv_istore (pc := 76) (i := 7) (by decide) rfl (fm_dec dtX11_feed 37 rfl) ?_
            dsimp only [List.set_cons_zero, List.set_cons_succ]
            refine pv_aloadn (pc := 78) (n := 0) 0 rfl rfl (fm_dec dtX11_feed 38 rfl) ?_
            refine pv_getR (k := 0) (j := 9) (ci := 11) (pc := 79) 1 rfl (by decide) pfl_X11_13 (by decide) rfl (by decide) (fm_dec dtX11_feed 39 rfl) ?_
            refine pv_aloadn (pc := 82) (n := 0) 0 rfl rfl (fm_dec dtX11_feed 40 rfl) ?_
            refine pv_getI (k := 0) (j := 1) (ci := 11) (pc := 83) pfl_X11_104 (by decide) rfl (by decide) (fm_dec dtX11_feed 41 rfl) ?_
            refine pv_iload (pc := 86) (i := 7) rfl (fm_dec dtX11_feed 42 rfl) ?_
            refine pv_bipush (pc := 88) (v := 24) (by decide) (fm_dec dtX11_feed 43 rfl) ?_
            refine pv_bipush (pc := 90) (v := 8) (by decide) (fm_dec dtX11_feed 44 rfl) ?_
            refine pv_iload (pc := 92) (i := 6) rfl (fm_dec dtX11_feed 45 rfl) ?_
            refine pv_iconst (pc := 94) (v := 4) (by decide) (fm_dec dtX11_feed 46 rfl) ?_
            refine pv_irem (pc := 95) (by decide) (fm_dec dtX11_feed 47 rfl) ?_
            refine pv_imul (pc := 96) (fm_dec dtX11_feed 48 rfl) ?_
            refine pv_isub (pc := 97) (fm_dec dtX11_feed 49 rfl) ?_
            refine pv_ishr (pc := 98) (fm_dec dtX11_feed 50 rfl) ?_
            refine pv_sipush (pc := 99) (v := 255) (by decide) (fm_dec dtX11_feed 51 rfl) ?_
            refine pv_iand (pc := 102) (fm_dec dtX11_feed 52 rfl) ?_
            refine pv_iast (k := 1) (n := 600) (pc := 103) (by decide) rfl rfl (ix_in hf (by omega)) (fm_dec dtX11_feed 53 rfl) ?_
            refine pv_aloadn (pc := 104) (n := 0) 0 rfl rfl (fm_dec dtX11_feed 54 rfl) ?_
            refine pv_dup (pc := 105) rfl (fm_dec dtX11_feed 55 rfl) ?_
            refine pv_getI (k := 0) (j := 1) (ci := 11) (pc := 106) pfl_X11_104 (by decide) rfl (by decide) (fm_dec dtX11_feed 56 rfl) ?_
            refine pv_iconst (pc := 109) (v := 1) (by decide) (fm_dec dtX11_feed 57 rfl) ?_
            refine pv_iadd (pc := 110) (fm_dec dtX11_feed 58 rfl) ?_
            refine pv_putI (k := 0) (j := 1) (ci := 11) (pc := 111) pfl_X11_104 (by decide) rfl (by decide) (fm_dec dtX11_feed 59 rfl) ?_
            refine pv_iincc (pc := 114) 6 1 (by decide) rfl (by decide) rfl (fm_dec dtX11_feed 60 rfl) ?_
            dsimp only [List.set_cons_zero, List.set_cons_succ]
            refine pv_goto (pc := 117) 23 (by decide) (fm_dec dtX11_feed 61 rfl) ?_
            rw [i32_cl hf]
            have eB : fdB a b c d e (nI k) = e >>> ((24 - 8 * (nI k - nI k / 4 * 4)) &&& 31) &&& 255 := (by unfold fdB fdS; rw [if_pos hc33, if_pos hc44, if_pos hc55, if_pos hc66])
            rw [nI_succ1, ← eB]
            exact ih (k + 1) (feM M (f + k) (fdB a b c d e (nI k))) _ (by unfold feM; rw [fmI_s]; exact i32_p1 (p := f + k) hf (by omega)) (by omega) (fun M9 x9 w9 h9 => hq M9 x9 w9 (feR.step (by omega) h9))
          · refine pv_iload (pc := 69) (i := 4) rfl (fm_dec dtX11_feed 34 rfl) ?_
            refine pv_goto (pc := 71) 76 (by decide) (fm_dec dtX11_feed 35 rfl) ?_
            refine pv_istore (pc := 76) (i := 7) (by decide) rfl (fm_dec dtX11_feed 37 rfl) ?_
            dsimp only [List.set_cons_zero, List.set_cons_succ]
            refine pv_aloadn (pc := 78) (n := 0) 0 rfl rfl (fm_dec dtX11_feed 38 rfl) ?_
            refine pv_getR (k := 0) (j := 9) (ci := 11) (pc := 79) 1 rfl (by decide) pfl_X11_13 (by decide) rfl (by decide) (fm_dec dtX11_feed 39 rfl) ?_
            refine pv_aloadn (pc := 82) (n := 0) 0 rfl rfl (fm_dec dtX11_feed 40 rfl) ?_
            refine pv_getI (k := 0) (j := 1) (ci := 11) (pc := 83) pfl_X11_104 (by decide) rfl (by decide) (fm_dec dtX11_feed 41 rfl) ?_
            refine pv_iload (pc := 86) (i := 7) rfl (fm_dec dtX11_feed 42 rfl) ?_
            refine pv_bipush (pc := 88) (v := 24) (by decide) (fm_dec dtX11_feed 43 rfl) ?_
            refine pv_bipush (pc := 90) (v := 8) (by decide) (fm_dec dtX11_feed 44 rfl) ?_
            refine pv_iload (pc := 92) (i := 6) rfl (fm_dec dtX11_feed 45 rfl) ?_
            refine pv_iconst (pc := 94) (v := 4) (by decide) (fm_dec dtX11_feed 46 rfl) ?_
            refine pv_irem (pc := 95) (by decide) (fm_dec dtX11_feed 47 rfl) ?_
            refine pv_imul (pc := 96) (fm_dec dtX11_feed 48 rfl) ?_
            refine pv_isub (pc := 97) (fm_dec dtX11_feed 49 rfl) ?_
            refine pv_ishr (pc := 98) (fm_dec dtX11_feed 50 rfl) ?_
            refine pv_sipush (pc := 99) (v := 255) (by decide) (fm_dec dtX11_feed 51 rfl) ?_
            refine pv_iand (pc := 102) (fm_dec dtX11_feed 52 rfl) ?_
            refine pv_iast (k := 1) (n := 600) (pc := 103) (by decide) rfl rfl (ix_in hf (by omega)) (fm_dec dtX11_feed 53 rfl) ?_
            refine pv_aloadn (pc := 104) (n := 0) 0 rfl rfl (fm_dec dtX11_feed 54 rfl) ?_
            refine pv_dup (pc := 105) rfl (fm_dec dtX11_feed 55 rfl) ?_
            refine pv_getI (k := 0) (j := 1) (ci := 11) (pc := 106) pfl_X11_104 (by decide) rfl (by decide) (fm_dec dtX11_feed 56 rfl) ?_
            refine pv_iconst (pc := 109) (v := 1) (by decide) (fm_dec dtX11_feed 57 rfl) ?_
            refine pv_iadd (pc := 110) (fm_dec dtX11_feed 58 rfl) ?_
            refine pv_putI (k := 0) (j := 1) (ci := 11) (pc := 111) pfl_X11_104 (by decide) rfl (by decide) (fm_dec dtX11_feed 59 rfl) ?_
            refine pv_iincc (pc := 114) 6 1 (by decide) rfl (by decide) rfl (fm_dec dtX11_feed 60 rfl) ?_
            dsimp only [List.set_cons_zero, List.set_cons_succ]
            refine pv_goto (pc := 117) 23 (by decide) (fm_dec dtX11_feed 61 rfl) ?_
            rw [i32_cl hf]
            have eB : fdB a b c d e (nI k) = d >>> ((24 - 8 * (nI k - nI k / 4 * 4)) &&& 31) &&& 255 := (by unfold fdB fdS; rw [if_pos hc33, if_pos hc44, if_pos hc55, if_neg hc66])
            rw [nI_succ1, ← eB]
            exact ih (k + 1) (feM M (f + k) (fdB a b c d e (nI k))) _ (by unfold feM; rw [fmI_s]; exact i32_p1 (p := f + k) hf (by omega)) (by omega) (fun M9 x9 w9 h9 => hq M9 x9 w9 (feR.step (by omega) h9))
        · refine pv_iloadn (pc := 58) (n := 3) 3 rfl rfl (fm_dec dtX11_feed 29 rfl) ?_
          refine pv_goto (pc := 59) 76 (by decide) (fm_dec dtX11_feed 30 rfl) ?_
          refine pv_istore (pc := 76) (i := 7) (by decide) rfl (fm_dec dtX11_feed 37 rfl) ?_
          dsimp only [List.set_cons_zero, List.set_cons_succ]
          refine pv_aloadn (pc := 78) (n := 0) 0 rfl rfl (fm_dec dtX11_feed 38 rfl) ?_
          refine pv_getR (k := 0) (j := 9) (ci := 11) (pc := 79) 1 rfl (by decide) pfl_X11_13 (by decide) rfl (by decide) (fm_dec dtX11_feed 39 rfl) ?_
          refine pv_aloadn (pc := 82) (n := 0) 0 rfl rfl (fm_dec dtX11_feed 40 rfl) ?_
          refine pv_getI (k := 0) (j := 1) (ci := 11) (pc := 83) pfl_X11_104 (by decide) rfl (by decide) (fm_dec dtX11_feed 41 rfl) ?_
          refine pv_iload (pc := 86) (i := 7) rfl (fm_dec dtX11_feed 42 rfl) ?_
          refine pv_bipush (pc := 88) (v := 24) (by decide) (fm_dec dtX11_feed 43 rfl) ?_
          refine pv_bipush (pc := 90) (v := 8) (by decide) (fm_dec dtX11_feed 44 rfl) ?_
          refine pv_iload (pc := 92) (i := 6) rfl (fm_dec dtX11_feed 45 rfl) ?_
          refine pv_iconst (pc := 94) (v := 4) (by decide) (fm_dec dtX11_feed 46 rfl) ?_
          refine pv_irem (pc := 95) (by decide) (fm_dec dtX11_feed 47 rfl) ?_
          refine pv_imul (pc := 96) (fm_dec dtX11_feed 48 rfl) ?_
          refine pv_isub (pc := 97) (fm_dec dtX11_feed 49 rfl) ?_
          refine pv_ishr (pc := 98) (fm_dec dtX11_feed 50 rfl) ?_
          refine pv_sipush (pc := 99) (v := 255) (by decide) (fm_dec dtX11_feed 51 rfl) ?_
          refine pv_iand (pc := 102) (fm_dec dtX11_feed 52 rfl) ?_
          refine pv_iast (k := 1) (n := 600) (pc := 103) (by decide) rfl rfl (ix_in hf (by omega)) (fm_dec dtX11_feed 53 rfl) ?_
          refine pv_aloadn (pc := 104) (n := 0) 0 rfl rfl (fm_dec dtX11_feed 54 rfl) ?_
          refine pv_dup (pc := 105) rfl (fm_dec dtX11_feed 55 rfl) ?_
          refine pv_getI (k := 0) (j := 1) (ci := 11) (pc := 106) pfl_X11_104 (by decide) rfl (by decide) (fm_dec dtX11_feed 56 rfl) ?_
          refine pv_iconst (pc := 109) (v := 1) (by decide) (fm_dec dtX11_feed 57 rfl) ?_
          refine pv_iadd (pc := 110) (fm_dec dtX11_feed 58 rfl) ?_
          refine pv_putI (k := 0) (j := 1) (ci := 11) (pc := 111) pfl_X11_104 (by decide) rfl (by decide) (fm_dec dtX11_feed 59 rfl) ?_
          refine pv_iincc (pc := 114) 6 1 (by decide) rfl (by decide) rfl (fm_dec dtX11_feed 60 rfl) ?_
          dsimp only [List.set_cons_zero, List.set_cons_succ]
          refine pv_goto (pc := 117) 23 (by decide) (fm_dec dtX11_feed 61 rfl) ?_
          rw [i32_cl hf]
          have eB : fdB a b c d e (nI k) = c >>> ((24 - 8 * (nI k - nI k / 4 * 4)) &&& 31) &&& 255 := (by unfold fdB fdS; rw [if_pos hc33, if_pos hc44, if_neg hc55])
          rw [nI_succ1, ← eB]
          exact ih (k + 1) (feM M (f + k) (fdB a b c d e (nI k))) _ (by unfold feM; rw [fmI_s]; exact i32_p1 (p := f + k) hf (by omega)) (by omega) (fun M9 x9 w9 h9 => hq M9 x9 w9 (feR.step (by omega) h9))
      · refine pv_iloadn (pc := 47) (n := 2) 2 rfl rfl (fm_dec dtX11_feed 24 rfl) ?_
        refine pv_goto (pc := 48) 76 (by decide) (fm_dec dtX11_feed 25 rfl) ?_
        refine pv_istore (pc := 76) (i := 7) (by decide) rfl (fm_dec dtX11_feed 37 rfl) ?_
        dsimp only [List.set_cons_zero, List.set_cons_succ]
        refine pv_aloadn (pc := 78) (n := 0) 0 rfl rfl (fm_dec dtX11_feed 38 rfl) ?_
        refine pv_getR (k := 0) (j := 9) (ci := 11) (pc := 79) 1 rfl (by decide) pfl_X11_13 (by decide) rfl (by decide) (fm_dec dtX11_feed 39 rfl) ?_
        refine pv_aloadn (pc := 82) (n := 0) 0 rfl rfl (fm_dec dtX11_feed 40 rfl) ?_
        refine pv_getI (k := 0) (j := 1) (ci := 11) (pc := 83) pfl_X11_104 (by decide) rfl (by decide) (fm_dec dtX11_feed 41 rfl) ?_
        refine pv_iload (pc := 86) (i := 7) rfl (fm_dec dtX11_feed 42 rfl) ?_
        refine pv_bipush (pc := 88) (v := 24) (by decide) (fm_dec dtX11_feed 43 rfl) ?_
        refine pv_bipush (pc := 90) (v := 8) (by decide) (fm_dec dtX11_feed 44 rfl) ?_
        refine pv_iload (pc := 92) (i := 6) rfl (fm_dec dtX11_feed 45 rfl) ?_
        refine pv_iconst (pc := 94) (v := 4) (by decide) (fm_dec dtX11_feed 46 rfl) ?_
        refine pv_irem (pc := 95) (by decide) (fm_dec dtX11_feed 47 rfl) ?_
        refine pv_imul (pc := 96) (fm_dec dtX11_feed 48 rfl) ?_
        refine pv_isub (pc := 97) (fm_dec dtX11_feed 49 rfl) ?_
        refine pv_ishr (pc := 98) (fm_dec dtX11_feed 50 rfl) ?_
        refine pv_sipush (pc := 99) (v := 255) (by decide) (fm_dec dtX11_feed 51 rfl) ?_
        refine pv_iand (pc := 102) (fm_dec dtX11_feed 52 rfl) ?_
        refine pv_iast (k := 1) (n := 600) (pc := 103) (by decide) rfl rfl (ix_in hf (by omega)) (fm_dec dtX11_feed 53 rfl) ?_
        refine pv_aloadn (pc := 104) (n := 0) 0 rfl rfl (fm_dec dtX11_feed 54 rfl) ?_
        refine pv_dup (pc := 105) rfl (fm_dec dtX11_feed 55 rfl) ?_
        refine pv_getI (k := 0) (j := 1) (ci := 11) (pc := 106) pfl_X11_104 (by decide) rfl (by decide) (fm_dec dtX11_feed 56 rfl) ?_
        refine pv_iconst (pc := 109) (v := 1) (by decide) (fm_dec dtX11_feed 57 rfl) ?_
        refine pv_iadd (pc := 110) (fm_dec dtX11_feed 58 rfl) ?_
        refine pv_putI (k := 0) (j := 1) (ci := 11) (pc := 111) pfl_X11_104 (by decide) rfl (by decide) (fm_dec dtX11_feed 59 rfl) ?_
        refine pv_iincc (pc := 114) 6 1 (by decide) rfl (by decide) rfl (fm_dec dtX11_feed 60 rfl) ?_
        dsimp only [List.set_cons_zero, List.set_cons_succ]
        refine pv_goto (pc := 117) 23 (by decide) (fm_dec dtX11_feed 61 rfl) ?_
        rw [i32_cl hf]
        have eB : fdB a b c d e (nI k) = b >>> ((24 - 8 * (nI k - nI k / 4 * 4)) &&& 31) &&& 255 := (by unfold fdB fdS; rw [if_pos hc33, if_neg hc44])
        rw [nI_succ1, ← eB]
        exact ih (k + 1) (feM M (f + k) (fdB a b c d e (nI k))) _ (by unfold feM; rw [fmI_s]; exact i32_p1 (p := f + k) hf (by omega)) (by omega) (fun M9 x9 w9 h9 => hq M9 x9 w9 (feR.step (by omega) h9))
    · refine pv_iloadn (pc := 36) (n := 1) 1 rfl rfl (fm_dec dtX11_feed 19 rfl) ?_
      refine pv_goto (pc := 37) 76 (by decide) (fm_dec dtX11_feed 20 rfl) ?_
      refine pv_istore (pc := 76) (i := 7) (by decide) rfl (fm_dec dtX11_feed 37 rfl) ?_
      dsimp only [List.set_cons_zero, List.set_cons_succ]
      refine pv_aloadn (pc := 78) (n := 0) 0 rfl rfl (fm_dec dtX11_feed 38 rfl) ?_
      refine pv_getR (k := 0) (j := 9) (ci := 11) (pc := 79) 1 rfl (by decide) pfl_X11_13 (by decide) rfl (by decide) (fm_dec dtX11_feed 39 rfl) ?_
      refine pv_aloadn (pc := 82) (n := 0) 0 rfl rfl (fm_dec dtX11_feed 40 rfl) ?_
      refine pv_getI (k := 0) (j := 1) (ci := 11) (pc := 83) pfl_X11_104 (by decide) rfl (by decide) (fm_dec dtX11_feed 41 rfl) ?_
      refine pv_iload (pc := 86) (i := 7) rfl (fm_dec dtX11_feed 42 rfl) ?_
      refine pv_bipush (pc := 88) (v := 24) (by decide) (fm_dec dtX11_feed 43 rfl) ?_
      refine pv_bipush (pc := 90) (v := 8) (by decide) (fm_dec dtX11_feed 44 rfl) ?_
      refine pv_iload (pc := 92) (i := 6) rfl (fm_dec dtX11_feed 45 rfl) ?_
      refine pv_iconst (pc := 94) (v := 4) (by decide) (fm_dec dtX11_feed 46 rfl) ?_
      refine pv_irem (pc := 95) (by decide) (fm_dec dtX11_feed 47 rfl) ?_
      refine pv_imul (pc := 96) (fm_dec dtX11_feed 48 rfl) ?_
      refine pv_isub (pc := 97) (fm_dec dtX11_feed 49 rfl) ?_
      refine pv_ishr (pc := 98) (fm_dec dtX11_feed 50 rfl) ?_
      refine pv_sipush (pc := 99) (v := 255) (by decide) (fm_dec dtX11_feed 51 rfl) ?_
      refine pv_iand (pc := 102) (fm_dec dtX11_feed 52 rfl) ?_
      refine pv_iast (k := 1) (n := 600) (pc := 103) (by decide) rfl rfl (ix_in hf (by omega)) (fm_dec dtX11_feed 53 rfl) ?_
      refine pv_aloadn (pc := 104) (n := 0) 0 rfl rfl (fm_dec dtX11_feed 54 rfl) ?_
      refine pv_dup (pc := 105) rfl (fm_dec dtX11_feed 55 rfl) ?_
      refine pv_getI (k := 0) (j := 1) (ci := 11) (pc := 106) pfl_X11_104 (by decide) rfl (by decide) (fm_dec dtX11_feed 56 rfl) ?_
      refine pv_iconst (pc := 109) (v := 1) (by decide) (fm_dec dtX11_feed 57 rfl) ?_
      refine pv_iadd (pc := 110) (fm_dec dtX11_feed 58 rfl) ?_
      refine pv_putI (k := 0) (j := 1) (ci := 11) (pc := 111) pfl_X11_104 (by decide) rfl (by decide) (fm_dec dtX11_feed 59 rfl) ?_
      refine pv_iincc (pc := 114) 6 1 (by decide) rfl (by decide) rfl (fm_dec dtX11_feed 60 rfl) ?_
      dsimp only [List.set_cons_zero, List.set_cons_succ]
      refine pv_goto (pc := 117) 23 (by decide) (fm_dec dtX11_feed 61 rfl) ?_
      rw [i32_cl hf]
      have eB : fdB a b c d e (nI k) = a >>> ((24 - 8 * (nI k - nI k / 4 * 4)) &&& 31) &&& 255 := (by unfold fdB fdS; rw [if_neg hc33])
      rw [nI_succ1, ← eB]
      exact ih (k + 1) (feM M (f + k) (fdB a b c d e (nI k))) _ (by unfold feM; rw [fmI_s]; exact i32_p1 (p := f + k) hf (by omega)) (by omega) (fun M9 x9 w9 h9 => hq M9 x9 w9 (feR.step (by omega) h9))
set_option maxRecDepth 20000 in
theorem c_mfeed {M : fmM} {Q : fmR → fmM → Prop} {a b c d e : Int32} {f : Nat} (hf : (M.1 0 1).toInt = (f : Int)) (h600 : f ≤ 600) (hn : 600 < f + 20 → Q (.inl (some (.int (-1)))) (fmI M 0 0 0)) (hq : f + 20 ≤ 600 → ∀ M' : fmM, feR (fmI M 0 0 0) M' f 0 (fun i => fdB a b c d e (nI i)) → Q (.inl (some (.int (M'.1 0 1)))) M') : pvGood Tm 0 qX11_feed [.ref 0, .int a, .int b, .int c, .int d, .int e] M Q := by
  refine pvGood_of (Nat.le_of_ble_eq_true rfl) ?_
  show pvEv Tm 0 qX11_feed 0 [some (.ref 0), some (.int a), some (.int b), some (.int c), some (.int d), some (.int e), none, none] [] M Q
  have e20 : ((fmI M 0 0 0).1 0 1 + 20).toInt = (f : Int) + 20 := (by have h7 : (20 : Int32).toInt = 20 := (by decide); have h6 : ((fmI M 0 0 0).1 0 1).toInt = (f : Int) := hf; rw [sc_add (by omega) (by omega)]; omega)
  refine pv_aloadn (pc := 0) (n := 0) 0 rfl rfl (fm_dec dtX11_feed 0 rfl) ?_
  refine pv_iconst (pc := 1) (v := 0) (by decide) (fm_dec dtX11_feed 1 rfl) ?_
  refine pv_putI (k := 0) (j := 0) (ci := 11) (pc := 2) pfl_X11_101 (by decide) rfl (by decide) (fm_dec dtX11_feed 2 rfl) ?_
  refine pv_aloadn (pc := 5) (n := 0) 0 rfl rfl (fm_dec dtX11_feed 3 rfl) ?_
  refine pv_getI (k := 0) (j := 1) (ci := 11) (pc := 6) pfl_X11_104 (by decide) rfl (by decide) (fm_dec dtX11_feed 4 rfl) ?_
  refine pv_bipush (pc := 9) (v := 20) (by decide) (fm_dec dtX11_feed 5 rfl) ?_
  refine pv_iadd (pc := 11) (fm_dec dtX11_feed 6 rfl) ?_
  refine pv_sipush (pc := 12) (v := 600) (by decide) (fm_dec dtX11_feed 7 rfl) ?_
  refine pv_icmp_le (pc := 15) 20 (by decide) (fm_dec dtX11_feed 8 rfl) (fun hc15 => ?_) (fun hc15 => ?_)
  · have h20 : f + 20 ≤ 600 := (by rw [sc_le] at hc15; have h8 : (600 : Int32).toInt = 600 := (by decide); have h7 : (20 : Int32).toInt = 20 := (by decide); omega)
    refine pv_iconst (pc := 20) (v := 0) (by decide) (fm_dec dtX11_feed 11 rfl) ?_
    refine pv_istore (pc := 21) (i := 6) (by decide) rfl (fm_dec dtX11_feed 12 rfl) ?_
    dsimp only [List.set_cons_zero, List.set_cons_succ]
    refine fe_loop h20 20 0 (fmI M 0 0 0) _ hf (by decide) (fun M' x6 v7 h9 => ?_)
    refine pv_aloadn (pc := 120) (n := 0) 0 rfl rfl (fm_dec dtX11_feed 62 rfl) ?_
    refine pv_getI (k := 0) (j := 1) (ci := 11) (pc := 121) pfl_X11_104 (by decide) rfl (by decide) (fm_dec dtX11_feed 63 rfl) ?_
    exact pv_ireturn (pc := 124) rfl (fm_dec dtX11_feed 64 rfl) (hq h20 M' h9)
  · refine pv_iconst (pc := 18) (v := (-1)) (by decide) (fm_dec dtX11_feed 9 rfl) ?_
    exact pv_ireturn (pc := 19) rfl (fm_dec dtX11_feed 10 rfl) (hn (by rw [sc_le] at hc15; have h8 : (600 : Int32).toInt = 600 := (by decide); have h7 : (20 : Int32).toInt = 20 := (by decide); omega))
