-- P 18a
section
-- THE STEPS, safe
set_option maxRecDepth 20000 in
theorem xt_work2 {M : fmM} {Q : fmR → fmM → Prop} {nn : Int32} (hI : scInv Tx invX M) (hq : ∀ (r : fmR) (M' : fmM), rkI true false r → scInv Tx invX M' → Q r M') : pvGood Tx 213 qX10_work [.ref 0, .int nn] M Q := by
  refine pvGood_of (Nat.le_of_ble_eq_true rfl) ?_
  show pvEv Tx 213 qX10_work 0 [some (.ref 0), some (.int nn)] [] M Q
  refine pv_aloadn (pc := 0) (n := 0) 0 rfl rfl (fm_dec dtX10_work 0 rfl) ?_
  refine pv_iloadn (pc := 1) (n := 1) 1 rfl rfl (fm_dec dtX10_work 1 rfl) ?_
  refine pv_sipush (pc := 2) (v := 150) (by decide) (fm_dec dtX10_work 2 rfl) ?_
  refine pv_invV2 (k := 0) (d' := 1) (pc := 5) pcv_X10_108 (by decide) rfl (Nat.le_of_ble_eq_true rfl) (by omega) (fm_dec dtX10_work 3 rfl) ?_
  refine s_open (scq_t nn) (scq_t 150) hI (fun M5 hI5 f5 => ?_) (fun M5 hI5 f5 => ?_)
  · refine pv_then0 ?_
    refine pv_aloadn (pc := 8) (n := 0) 0 rfl rfl (fm_dec dtX10_work 4 rfl) ?_
    refine pv_getR (k := 0) (j := 9) (ci := 10) (pc := 9) 46 rfl (by decide) pfl_X10_75 (by decide) rfl (by decide) (fm_dec dtX10_work 5 rfl) ?_
    refine pv_getI (k := 46) (j := 2) (ci := 5) (pc := 12) pfl_X10_126 (by decide) rfl (by decide) (fm_dec dtX10_work 6 rfl) ?_
    refine pv_bipush (pc := 15) (v := 16) (by decide) (fm_dec dtX10_work 7 rfl) ?_
    refine pv_icmp_lt (pc := 17) 23 (by decide) (fm_dec dtX10_work 8 rfl) (fun hc17 => ?_) (fun hc17 => ?_)
    · refine pv_aloadn (pc := 23) (n := 0) 0 rfl rfl (fm_dec dtX10_work 11 rfl) ?_
      refine pv_getR (k := 0) (j := 5) (ci := 10) (pc := 24) 28 rfl (by decide) pfl_X10_43 (by decide) rfl (by decide) (fm_dec dtX10_work 12 rfl) ?_
      refine pv_aloadn (pc := 27) (n := 0) 0 rfl rfl (fm_dec dtX10_work 13 rfl) ?_
      refine pv_getR (k := 0) (j := 0) (ci := 10) (pc := 28) 1 rfl (by decide) pfl_X10_12 (by decide) rfl (by decide) (fm_dec dtX10_work 14 rfl) ?_
      refine pv_aloadn (pc := 31) (n := 0) 0 rfl rfl (fm_dec dtX10_work 15 rfl) ?_
      refine pv_getR (k := 0) (j := 1) (ci := 10) (pc := 32) 3 rfl (by decide) pfl_X10_19 (by decide) rfl (by decide) (fm_dec dtX10_work 16 rfl) ?_
      refine pv_getI (k := 3) (j := 9) (ci := 8) (pc := 35) pfl_X10_138 (by decide) rfl (by decide) (fm_dec dtX10_work 17 rfl) ?_
      refine pv_invV2 (k := 28) (d' := 27) (pc := 38) pcv_X10_142 (by decide) rfl (Nat.le_of_ble_eq_true rfl) (by omega) (fm_dec dtX10_work 18 rfl) ?_
      refine c_xread hI5 (hI5.1 3 9 (by decide)) (fun M38 z hI38 f38 h4 hz hz2 hS => ?_) (fun M38 hI38 f38 => ?_)  
      · refine pv_then1 ?_
        refine pv_if_ne (pc := 41) 55 (by decide) (fm_dec dtX10_work 19 rfl) (fun _ => ?_) (fun hc41 => by exfalso; revert hc41; decide)
        refine pv_aloadn (pc := 55) (n := 0) 0 rfl rfl (fm_dec dtX10_work 26 rfl) ?_
        refine pv_getR (k := 0) (j := 9) (ci := 10) (pc := 56) 46 rfl (by decide) pfl_X10_75 (by decide) rfl (by decide) (fm_dec dtX10_work 27 rfl) ?_
        refine pv_invV0 (k := 46) (d' := 1) (pc := 59) pcv_X10_145 (by decide) rfl (Nat.le_of_ble_eq_true rfl) (by omega) (fm_dec dtX10_work 28 rfl) ?_
        refine s_keepx hI38 (fun M59 hI59 f59 => ?_)
        refine pv_then0 ?_
        have hQ9 : xQ M59 z 0 := ⟨hz2, fun i a b => (hS i a b).up (Nat.le_refl _) (fun k hk => (f59 k i (kpW_k (by omega))).1), hI59, (by rw [(f59 28 4 (kpW_k (by decide))).1]; exact h4), by decide⟩
        refine pv_aloadn (pc := 62) (n := 0) 0 rfl rfl (fm_dec dtX10_work 29 rfl) ?_
        refine pv_getR (k := 0) (j := 5) (ci := 10) (pc := 63) 28 rfl (by decide) pfl_X10_43 (by decide) rfl (by decide) (fm_dec dtX10_work 30 rfl) ?_
        refine pv_aloadn (pc := 66) (n := 0) 0 rfl rfl (fm_dec dtX10_work 31 rfl) ?_
        refine pv_getR (k := 0) (j := 6) (ci := 10) (pc := 67) 32 rfl (by decide) pfl_X10_52 (by decide) rfl (by decide) (fm_dec dtX10_work 32 rfl) ?_
        refine pv_aloadn (pc := 70) (n := 0) 0 rfl rfl (fm_dec dtX10_work 33 rfl) ?_
        refine pv_getR (k := 0) (j := 9) (ci := 10) (pc := 71) 46 rfl (by decide) pfl_X10_75 (by decide) rfl (by decide) (fm_dec dtX10_work 34 rfl) ?_
        refine pv_getR (k := 46) (j := 0) (ci := 5) (pc := 74) 47 rfl (by decide) pfl_X10_90 (by decide) rfl (by decide) (fm_dec dtX10_work 35 rfl) ?_
        refine pv_iconst (pc := 77) (v := 0) (by decide) (fm_dec dtX10_work 36 rfl) ?_
        refine pv_aloadn (pc := 78) (n := 0) 0 rfl rfl (fm_dec dtX10_work 37 rfl) ?_
        refine pv_getR (k := 0) (j := 5) (ci := 10) (pc := 79) 28 rfl (by decide) pfl_X10_43 (by decide) rfl (by decide) (fm_dec dtX10_work 38 rfl) ?_
        refine pv_getI (k := 28) (j := 3) (ci := 9) (pc := 82) pfl_X10_148 (by decide) rfl (by decide) (fm_dec dtX10_work 39 rfl) ?_
        refine pv_iconst (pc := 85) (v := 0) (by decide) (fm_dec dtX10_work 40 rfl) ?_
        refine pv_invV5 (k := 28) (d' := (12 + 200)) (pc := 86) pcv_X10_151 (by decide) rfl (Nat.le_of_ble_eq_true rfl) (by omega) (fm_dec dtX10_work 41 rfl) ?_
        refine xp_G (xp_P 200) M59 _ z 0 0 z _ 0 0 hQ9 (by omega) (by decide) (by rw [(f59 28 3 (kpW_k (by decide))).1]; exact hz) (Nat.le_refl _) (fun M86 g86 hI86 f86 hg86 _ _ => ?_) 
        refine pv_then0 ?_
        refine pv_aloadn (pc := 89) (n := 0) 0 rfl rfl (fm_dec dtX10_work 42 rfl) ?_
        refine pv_aloadn (pc := 90) (n := 0) 0 rfl rfl (fm_dec dtX10_work 43 rfl) ?_
        refine pv_getR (k := 0) (j := 5) (ci := 10) (pc := 91) 28 rfl (by decide) pfl_X10_43 (by decide) rfl (by decide) (fm_dec dtX10_work 44 rfl) ?_
        refine pv_getI (k := 28) (j := 6) (ci := 9) (pc := 94) pfl_X10_155 (by decide) rfl (by decide) (fm_dec dtX10_work 45 rfl) ?_
        refine pv_putI (k := 0) (j := 14) (ci := 10) (pc := 97) pfl_X10_132 (by decide) rfl (by decide) (fm_dec dtX10_work 46 rfl) ?_
        refine pv_aloadn (pc := 100) (n := 0) 0 rfl rfl (fm_dec dtX10_work 47 rfl) ?_
        refine pv_getR (k := 0) (j := 7) (ci := 10) (pc := 101) 34 rfl (by decide) pfl_X10_61 (by decide) rfl (by decide) (fm_dec dtX10_work 48 rfl) ?_
        refine pv_invV0 (k := 34) (d' := 0) (pc := 104) pcv_X10_135 (by decide) rfl (Nat.le_of_ble_eq_true rfl) (by omega) (fm_dec dtX10_work 49 rfl) ?_
        refine s_forget (xInv.put hI86 (scq_t _)) (fun M104 hI104 f104 => ?_)
        refine pv_then0 ?_
        refine pv_aloadn (pc := 107) (n := 0) 0 rfl rfl (fm_dec dtX10_work 50 rfl) ?_
        refine pv_getR (k := 0) (j := 5) (ci := 10) (pc := 108) 28 rfl (by decide) pfl_X10_43 (by decide) rfl (by decide) (fm_dec dtX10_work 51 rfl) ?_
        refine pv_getI (k := 28) (j := 5) (ci := 9) (pc := 111) pfl_X10_158 (by decide) rfl (by decide) (fm_dec dtX10_work 52 rfl) ?_
        exact pv_ireturn (pc := 114) rfl (fm_dec dtX10_work 53 rfl) (hq _ _ (Or.inl ⟨_, rfl⟩) hI104)
      · refine pv_then1 ?_
        refine pv_if_ne (pc := 41) 55 (by decide) (fm_dec dtX10_work 19 rfl) (fun hc41 => by exfalso; revert hc41; decide) (fun _ => ?_)
        refine pv_aloadn (pc := 44) (n := 0) 0 rfl rfl (fm_dec dtX10_work 20 rfl) ?_
        refine pv_getR (k := 0) (j := 0) (ci := 10) (pc := 45) 1 rfl (by decide) pfl_X10_12 (by decide) rfl (by decide) (fm_dec dtX10_work 21 rfl) ?_
        refine pv_getI (k := 1) (j := 4) (ci := 7) (pc := 48) pfl_X10_116 (by decide) rfl (by decide) (fm_dec dtX10_work 22 rfl) ?_
        refine pv_bipush (pc := 51) (v := 10) (by decide) (fm_dec dtX10_work 23 rfl) ?_
        refine pv_isub (pc := 53) (fm_dec dtX10_work 24 rfl) ?_
        exact pv_ireturn (pc := 54) rfl (fm_dec dtX10_work 25 rfl) (hq _ _ (Or.inl ⟨_, rfl⟩) hI38)
    · refine pv_bipush (pc := 20) (v := (-20)) (by decide) (fm_dec dtX10_work 9 rfl) ?_
      exact pv_ireturn (pc := 22) rfl (fm_dec dtX10_work 10 rfl) (hq _ _ (Or.inl ⟨_, rfl⟩) hI5)
  · refine pv_thenX ?_
    exact hq _ _ (Or.inr (Or.inl ⟨rfl, rfl⟩)) hI5
theorem wsx_feed {M : fmM} {Q : fmR → fmM → Prop} {x1 : Int32} (bx1 : (-2147483648) ≤ x1.toInt ∧ x1.toInt ≤ 2147483647) {x2 : Int32} (bx2 : (-2147483648) ≤ x2.toInt ∧ x2.toInt ≤ 2147483647) {x3 : Int32} (bx3 : (-2147483648) ≤ x3.toInt ∧ x3.toInt ≤ 2147483647) {x4 : Int32} (bx4 : (-2147483648) ≤ x4.toInt ∧ x4.toInt ≤ 2147483647) {x5 : Int32} (bx5 : (-2147483648) ≤ x5.toInt ∧ x5.toInt ≤ 2147483647) (hI : scInv Tx invX M) (q0 : ∀ (n : Int32) (M' : fmM), ((-1) ≤ n.toInt ∧ n.toInt ≤ 600) → scInv Tx invX M' → scFr [(1, 1, 1), (2, 0, 600)] M M' → Q (.inl (some (.int n))) M') : pvGood Tx 1 qX10_feed [.ref 0, .int x1, .int x2, .int x3, .int x4, .int x5] M Q := (hh_X10_feed_0 M [x1.toInt, x2.toInt, x3.toInt, x4.toInt, x5.toInt] [.ref 0, .int x1, .int x2, .int x3, .int x4, .int x5] (scEk.c1 bx1 (scEk.c1 bx2 (scEk.c1 bx3 (scEk.c1 bx4 (scEk.c1 bx5 scEk.n0))))) ⟨⟨0, by simp, rfl⟩, ⟨x1, rfl, scEv.at rfl⟩, ⟨x2, rfl, scEv.at rfl⟩, ⟨x3, rfl, scEv.at rfl⟩, ⟨x4, rfl, scEv.at rfl⟩, ⟨x5, rfl, scEv.at rfl⟩, trivial⟩ (fun f hf => by cases hf) hI).imp (fun r M' h => by
  obtain ⟨⟨o, ho, hr, hf9, hm⟩, h1, h2⟩ := h
  rcases List.mem_cons.mp ho with rfl | ho
  · obtain ⟨n, rfl, c1, c2⟩ := hr; exact q0 n M' ⟨c1, c2⟩ h1 h2
  · cases ho)
theorem sx_feed {M : fmM} {a0 a1 a2 a3 a4 : Int32} (hI : scInv Tx invX M) : pvGood Tx 250 qX10_feed [.ref 0, .int a0, .int a1, .int a2, .int a3, .int a4] M (fun r M' => rkI false false r ∧ scInv Tx invX M') := (wsx_feed (scq_t a0) (scq_t a1) (scq_t a2) (scq_t a3) (scq_t a4) hI (fun n M' _ h1 _ => ⟨Or.inl ⟨n, rfl⟩, h1⟩)).up (by decide)
theorem wsx_drawer {M : fmM} {Q : fmR → fmM → Prop} {x1 : Int32} (bx1 : (-2147483648) ≤ x1.toInt ∧ x1.toInt ≤ 2147483647) (hI : scInv Tx invX M) (q0 : ∀ (n : Int32) (M' : fmM), ((-10) ≤ n.toInt ∧ n.toInt ≤ 8) → scInv Tx invX M' → scFr [(0, 13, 2), (0, 16, 1), (1, 1, 5), (3, 9, 6), (4, 0, 8), (5, 0, 8), (6, 0, 8), (7, 0, 8), (8, 0, 8), (9, 0, 8), (10, 0, 24), (11, 0, 24), (12, 0, 24), (13, 9, 6), (14, 0, 8), (15, 0, 8), (16, 0, 8), (17, 0, 8), (18, 0, 8), (19, 0, 8), (20, 0, 24), (21, 0, 24), (22, 0, 24), (23, 3, 1), (24, 0, 3), (27, 0, 3), (34, 5, 1), (46, 2, 1), (47, 1, 6), (48, 0, 8)] M M' → Q (.inl (some (.int n))) M') (q1 : ∀ M' : fmM, scInv Tx invX M' → scFr [(0, 13, 2), (0, 16, 1), (1, 1, 5), (3, 9, 6), (4, 0, 8), (5, 0, 8), (6, 0, 8), (7, 0, 8), (8, 0, 8), (9, 0, 8), (10, 0, 24), (11, 0, 24), (12, 0, 24), (13, 9, 6), (14, 0, 8), (15, 0, 8), (16, 0, 8), (17, 0, 8), (18, 0, 8), (19, 0, 8), (20, 0, 24), (21, 0, 24), (22, 0, 24), (23, 3, 1), (24, 0, 3), (27, 0, 3), (34, 5, 1), (46, 2, 1), (47, 1, 6), (48, 0, 8)] M M' → Q (.inr fmIAE) M') : pvGood Tx 8 qX10_drawer [.ref 0, .int x1] M Q := (hh_X10_drawer_0 M [x1.toInt] [.ref 0, .int x1] (scEk.c1 bx1 scEk.n0) ⟨⟨0, by simp, rfl⟩, ⟨x1, rfl, scEv.at rfl⟩, trivial⟩ (fun f hf => by cases hf) hI).imp (fun r M' h => by
  obtain ⟨⟨o, ho, hr, hf9, hm⟩, h1, h2⟩ := h
  rcases List.mem_cons.mp ho with rfl | ho
  · obtain ⟨n, rfl, c1, c2⟩ := hr; exact q0 n M' ⟨c1, c2⟩ h1 h2
  rcases List.mem_cons.mp ho with rfl | ho
  · have hr : r = .inr fmIAE := hr; subst hr; exact q1 M' h1 h2
  · cases ho)
theorem sx_drawer {M : fmM} {a0 : Int32} (hI : scInv Tx invX M) : pvGood Tx 250 qX10_drawer [.ref 0, .int a0] M (fun r M' => rkI true false r ∧ scInv Tx invX M') := (wsx_drawer (scq_t a0) hI (fun n M' _ h1 _ => ⟨Or.inl ⟨n, rfl⟩, h1⟩) (fun M' h1 _ => ⟨Or.inr (Or.inl ⟨rfl, rfl⟩), h1⟩)).up (by decide)
theorem wsx_law {M : fmM} {Q : fmR → fmM → Prop} {x1 : Int32} (bx1 : (-2147483648) ≤ x1.toInt ∧ x1.toInt ≤ 2147483647) (hI : scInv Tx invX M) (q0 : ∀ (n : Int32) (M' : fmM), ((-10) ≤ n.toInt ∧ n.toInt ≤ 1) → scInv Tx invX M' → scFr [(0, 16, 1), (1, 1, 5), (23, 3, 2), (24, 0, 150), (25, 0, 150), (34, 5, 1)] M M' → Q (.inl (some (.int n))) M') (q1 : ∀ M' : fmM, scInv Tx invX M' → scFr [(0, 16, 1), (1, 1, 5), (23, 3, 2), (24, 0, 150), (25, 0, 150), (34, 5, 1)] M M' → Q (.inr fmIAE) M') : pvGood Tx 34 qX10_law [.ref 0, .int x1] M Q := (hh_X10_law_0 M [x1.toInt] [.ref 0, .int x1] (scEk.c1 bx1 scEk.n0) ⟨⟨0, by simp, rfl⟩, ⟨x1, rfl, scEv.at rfl⟩, trivial⟩ (fun f hf => by cases hf) hI).imp (fun r M' h => by
  obtain ⟨⟨o, ho, hr, hf9, hm⟩, h1, h2⟩ := h
  rcases List.mem_cons.mp ho with rfl | ho
  · obtain ⟨n, rfl, c1, c2⟩ := hr; exact q0 n M' ⟨c1, c2⟩ h1 h2
  rcases List.mem_cons.mp ho with rfl | ho
  · have hr : r = .inr fmIAE := hr; subst hr; exact q1 M' h1 h2
  · cases ho)
theorem sx_law {M : fmM} {a0 : Int32} (hI : scInv Tx invX M) : pvGood Tx 250 qX10_law [.ref 0, .int a0] M (fun r M' => rkI true false r ∧ scInv Tx invX M') := (wsx_law (scq_t a0) hI (fun n M' _ h1 _ => ⟨Or.inl ⟨n, rfl⟩, h1⟩) (fun M' h1 _ => ⟨Or.inr (Or.inl ⟨rfl, rfl⟩), h1⟩)).up (by decide)
theorem sx_work {M : fmM} {a0 : Int32} (hI : scInv Tx invX M) : pvGood Tx 250 qX10_work [.ref 0, .int a0] M (fun r M' => rkI true false r ∧ scInv Tx invX M') := (xt_work2 hI (fun r M' h1 h2 => ⟨h1, h2⟩)).up (by decide)
theorem wsx_page {M : fmM} {Q : fmR → fmM → Prop} {x1 : Int32} (bx1 : (-2147483648) ≤ x1.toInt ∧ x1.toInt ≤ 2147483647) (hI : scInv Tx invX M) (q0 : ∀ (n : Int32) (M' : fmM), ((-2147483648) ≤ n.toInt ∧ n.toInt ≤ 2147483647) → scInv Tx invX M' → scFr [(0, 16, 1), (1, 1, 5), (27, 0, 3)] M M' → Q (.inl (some (.int n))) M') (q1 : ∀ M' : fmM, scInv Tx invX M' → scFr [(0, 16, 1), (1, 1, 5), (27, 0, 3)] M M' → Q (.inr fmIAE) M') : pvGood Tx 4 qX10_page [.ref 0, .int x1] M Q := (hh_X10_page_0 M [x1.toInt] [.ref 0, .int x1] (scEk.c1 bx1 scEk.n0) ⟨⟨0, by simp, rfl⟩, ⟨x1, rfl, scEv.at rfl⟩, trivial⟩ (fun f hf => by cases hf) hI).imp (fun r M' h => by
  obtain ⟨⟨o, ho, hr, hf9, hm⟩, h1, h2⟩ := h
  rcases List.mem_cons.mp ho with rfl | ho
  · obtain ⟨n, rfl, c1, c2⟩ := hr; exact q0 n M' ⟨c1, c2⟩ h1 h2
  rcases List.mem_cons.mp ho with rfl | ho
  · have hr : r = .inr fmIAE := hr; subst hr; exact q1 M' h1 h2
  · cases ho)
theorem sx_page {M : fmM} {a0 : Int32} (hI : scInv Tx invX M) : pvGood Tx 250 qX10_page [.ref 0, .int a0] M (fun r M' => rkI true false r ∧ scInv Tx invX M') := (wsx_page (scq_t a0) hI (fun n M' _ h1 _ => ⟨Or.inl ⟨n, rfl⟩, h1⟩) (fun M' h1 _ => ⟨Or.inr (Or.inl ⟨rfl, rfl⟩), h1⟩)).up (by decide)
theorem wsx_fault {M : fmM} {Q : fmR → fmM → Prop}  (hI : scInv Tx invX M) (q0 : ∀ (n : Int32) (M' : fmM), ((-1) ≤ n.toInt ∧ n.toInt ≤ 600) → scInv Tx invX M' → scFr [] M M' → Q (.inl (some (.int n))) M') : pvGood Tx 0 qX10_fault [.ref 0] M Q := (hh_X10_fault_0 M [] [.ref 0] scEk.n0 ⟨⟨0, by simp, rfl⟩, trivial⟩ (fun f hf => by cases hf) hI).imp (fun r M' h => by
  obtain ⟨⟨o, ho, hr, hf9, hm⟩, h1, h2⟩ := h
  rcases List.mem_cons.mp ho with rfl | ho
  · obtain ⟨n, rfl, c1, c2⟩ := hr; exact q0 n M' ⟨c1, c2⟩ h1 h2
  · cases ho)
theorem sx_fault {M : fmM} (hI : scInv Tx invX M) : pvGood Tx 250 qX10_fault [.ref 0] M (fun r M' => rkI false false r ∧ scInv Tx invX M') := (wsx_fault  hI (fun n M' _ h1 _ => ⟨Or.inl ⟨n, rfl⟩, h1⟩)).up (by decide)
theorem wsx_undo {M : fmM} {Q : fmR → fmM → Prop}  (hI : scInv Tx invX M) (q0 : ∀ (n : Int32) (M' : fmM), ((-1) ≤ n.toInt ∧ n.toInt ≤ 16) → scInv Tx invX M' → scFr [(0, 14, 1), (34, 5, 1), (46, 2, 1), (47, 1, 6), (48, 0, 8)] M M' → Q (.inl (some (.int n))) M') : pvGood Tx 2 qX10_undo [.ref 0] M Q := (hh_X10_undo_0 M [] [.ref 0] scEk.n0 ⟨⟨0, by simp, rfl⟩, trivial⟩ (fun f hf => by cases hf) hI).imp (fun r M' h => by
  obtain ⟨⟨o, ho, hr, hf9, hm⟩, h1, h2⟩ := h
  rcases List.mem_cons.mp ho with rfl | ho
  · obtain ⟨n, rfl, c1, c2⟩ := hr; exact q0 n M' ⟨c1, c2⟩ h1 h2
  · cases ho)
theorem sx_undo {M : fmM} (hI : scInv Tx invX M) : pvGood Tx 250 qX10_undo [.ref 0] M (fun r M' => rkI false false r ∧ scInv Tx invX M') := (wsx_undo  hI (fun n M' _ h1 _ => ⟨Or.inl ⟨n, rfl⟩, h1⟩)).up (by decide)
theorem wsx_told {M : fmM} {Q : fmR → fmM → Prop} {x1 : Int32} (bx1 : (-2147483648) ≤ x1.toInt ∧ x1.toInt ≤ 2147483647) (hI : scInv Tx invX M) (q0 : ∀ (n : Int32) (M' : fmM), ((-2147483648) ≤ n.toInt ∧ n.toInt ≤ 2147483647) → scInv Tx invX M' → scFr [(0, 16, 1)] M M' → Q (.inl (some (.int n))) M') (q1 : ∀ M' : fmM, scInv Tx invX M' → scFr [(0, 16, 1)] M M' → Q (.inr fmIAE) M') : pvGood Tx 1 qX10_told [.ref 0, .int x1] M Q := (hh_X10_told_0 M [x1.toInt] [.ref 0, .int x1] (scEk.c1 bx1 scEk.n0) ⟨⟨0, by simp, rfl⟩, ⟨x1, rfl, scEv.at rfl⟩, trivial⟩ (fun f hf => by cases hf) hI).imp (fun r M' h => by
  obtain ⟨⟨o, ho, hr, hf9, hm⟩, h1, h2⟩ := h
  rcases List.mem_cons.mp ho with rfl | ho
  · obtain ⟨n, rfl, c1, c2⟩ := hr; exact q0 n M' ⟨c1, c2⟩ h1 h2
  rcases List.mem_cons.mp ho with rfl | ho
  · have hr : r = .inr fmIAE := hr; subst hr; exact q1 M' h1 h2
  · cases ho)
theorem sx_told {M : fmM} {a0 : Int32} (hI : scInv Tx invX M) : pvGood Tx 250 qX10_told [.ref 0, .int a0] M (fun r M' => rkI true false r ∧ scInv Tx invX M') := (wsx_told (scq_t a0) hI (fun n M' _ h1 _ => ⟨Or.inl ⟨n, rfl⟩, h1⟩) (fun M' h1 _ => ⟨Or.inr (Or.inl ⟨rfl, rfl⟩), h1⟩)).up (by decide)
theorem wsx_life {M : fmM} {Q : fmR → fmM → Prop} {x1 : Int32} (bx1 : (-2147483648) ≤ x1.toInt ∧ x1.toInt ≤ 2147483647) {x2 : Int32} (bx2 : (-2147483648) ≤ x2.toInt ∧ x2.toInt ≤ 2147483647) (hI : scInv Tx invX M) (q0 : ∀ (n : Int32) (M' : fmM), ((-2147483648) ≤ n.toInt ∧ n.toInt ≤ 2147483647) → scInv Tx invX M' → scFr [(0, 15, 2)] M M' → Q (.inl (some (.int n))) M') (q1 : ∀ M' : fmM, scInv Tx invX M' → scFr [(0, 15, 2)] M M' → Q (.inr fmIAE) M') (q2 : ∀ M' : fmM, scInv Tx invX M' → scFr [(0, 15, 2)] M M' → Q (.inr fmNSE) M') : pvGood Tx 2 qX10_life [.ref 0, .int x1, .int x2] M Q := (hh_X10_life_0 M [x1.toInt, x2.toInt] [.ref 0, .int x1, .int x2] (scEk.c1 bx1 (scEk.c1 bx2 scEk.n0)) ⟨⟨0, by simp, rfl⟩, ⟨x1, rfl, scEv.at rfl⟩, ⟨x2, rfl, scEv.at rfl⟩, trivial⟩ (fun f hf => by cases hf) hI).imp (fun r M' h => by
  obtain ⟨⟨o, ho, hr, hf9, hm⟩, h1, h2⟩ := h
  rcases List.mem_cons.mp ho with rfl | ho
  · obtain ⟨n, rfl, c1, c2⟩ := hr; exact q0 n M' ⟨c1, c2⟩ h1 h2
  rcases List.mem_cons.mp ho with rfl | ho
  · have hr : r = .inr fmIAE := hr; subst hr; exact q1 M' h1 h2
  rcases List.mem_cons.mp ho with rfl | ho
  · have hr : r = .inr fmNSE := hr; subst hr; exact q2 M' h1 h2
  · cases ho)
theorem sx_life {M : fmM} {a0 a1 : Int32} (hI : scInv Tx invX M) : pvGood Tx 250 qX10_life [.ref 0, .int a0, .int a1] M (fun r M' => rkI true true r ∧ scInv Tx invX M') := (wsx_life (scq_t a0) (scq_t a1) hI (fun n M' _ h1 _ => ⟨Or.inl ⟨n, rfl⟩, h1⟩) (fun M' h1 _ => ⟨Or.inr (Or.inl ⟨rfl, rfl⟩), h1⟩) (fun M' h1 _ => ⟨Or.inr (Or.inr ⟨rfl, rfl⟩), h1⟩)).up (by decide)
theorem wsx_facts {M : fmM} {Q : fmR → fmM → Prop} {x1 : Int32} (bx1 : (-2147483648) ≤ x1.toInt ∧ x1.toInt ≤ 2147483647) (hI : scInv Tx invX M) (q0 : ∀ (n : Int32) (M' : fmM), ((-2147483648) ≤ n.toInt ∧ n.toInt ≤ 2147483647) → scInv Tx invX M' → scFr [(0, 15, 1)] M M' → Q (.inl (some (.int n))) M') (q1 : ∀ M' : fmM, scInv Tx invX M' → scFr [(0, 15, 1)] M M' → Q (.inr fmNSE) M') : pvGood Tx 1 qX10_facts [.ref 0, .int x1] M Q := (hh_X10_facts_0 M [x1.toInt] [.ref 0, .int x1] (scEk.c1 bx1 scEk.n0) ⟨⟨0, by simp, rfl⟩, ⟨x1, rfl, scEv.at rfl⟩, trivial⟩ (fun f hf => by cases hf) hI).imp (fun r M' h => by
  obtain ⟨⟨o, ho, hr, hf9, hm⟩, h1, h2⟩ := h
  rcases List.mem_cons.mp ho with rfl | ho
  · obtain ⟨n, rfl, c1, c2⟩ := hr; exact q0 n M' ⟨c1, c2⟩ h1 h2
  rcases List.mem_cons.mp ho with rfl | ho
  · have hr : r = .inr fmNSE := hr; subst hr; exact q1 M' h1 h2
  · cases ho)
theorem sx_facts {M : fmM} {a0 : Int32} (hI : scInv Tx invX M) : pvGood Tx 250 qX10_facts [.ref 0, .int a0] M (fun r M' => rkI false true r ∧ scInv Tx invX M') := (wsx_facts (scq_t a0) hI (fun n M' _ h1 _ => ⟨Or.inl ⟨n, rfl⟩, h1⟩) (fun M' h1 _ => ⟨Or.inr (Or.inr ⟨rfl, rfl⟩), h1⟩)).up (by decide)
theorem wsx_wrong {M : fmM} {Q : fmR → fmM → Prop} {x1 : Int32} (bx1 : (-2147483648) ≤ x1.toInt ∧ x1.toInt ≤ 2147483647) (hI : scInv Tx invX M) (q0 : ∀ (n : Int32) (M' : fmM), ((-1) ≤ n.toInt ∧ n.toInt ≤ 64) → scInv Tx invX M' → scFr [(0, 15, 1), (26, 0, 24)] M M' → Q (.inl (some (.int n))) M') (q1 : ∀ M' : fmM, scInv Tx invX M' → scFr [(0, 15, 1), (26, 0, 24)] M M' → Q (.inr fmNSE) M') : pvGood Tx 3 qX10_wrong [.ref 0, .int x1] M Q := (hh_X10_wrong_0 M [x1.toInt] [.ref 0, .int x1] (scEk.c1 bx1 scEk.n0) ⟨⟨0, by simp, rfl⟩, ⟨x1, rfl, scEv.at rfl⟩, trivial⟩ (fun f hf => by cases hf) hI).imp (fun r M' h => by
  obtain ⟨⟨o, ho, hr, hf9, hm⟩, h1, h2⟩ := h
  rcases List.mem_cons.mp ho with rfl | ho
  · obtain ⟨n, rfl, c1, c2⟩ := hr; exact q0 n M' ⟨c1, c2⟩ h1 h2
  rcases List.mem_cons.mp ho with rfl | ho
  · have hr : r = .inr fmNSE := hr; subst hr; exact q1 M' h1 h2
  · cases ho)
theorem sx_wrong {M : fmM} {a0 : Int32} (hI : scInv Tx invX M) : pvGood Tx 250 qX10_wrong [.ref 0, .int a0] M (fun r M' => rkI false true r ∧ scInv Tx invX M') := (wsx_wrong (scq_t a0) hI (fun n M' _ h1 _ => ⟨Or.inl ⟨n, rfl⟩, h1⟩) (fun M' h1 _ => ⟨Or.inr (Or.inr ⟨rfl, rfl⟩), h1⟩)).up (by decide)
theorem wsx_would {M : fmM} {Q : fmR → fmM → Prop} {x1 : Int32} (bx1 : (-2147483648) ≤ x1.toInt ∧ x1.toInt ≤ 2147483647) {x2 : Int32} (bx2 : (-2147483648) ≤ x2.toInt ∧ x2.toInt ≤ 2147483647) {x3 : Int32} (bx3 : (-2147483648) ≤ x3.toInt ∧ x3.toInt ≤ 2147483647) {x4 : Int32} (bx4 : (-2147483648) ≤ x4.toInt ∧ x4.toInt ≤ 2147483647) {x5 : Int32} (bx5 : (-2147483648) ≤ x5.toInt ∧ x5.toInt ≤ 2147483647) (hI : scInv Tx invX M) (q0 : ∀ (n : Int32) (M' : fmM), (0 ≤ n.toInt ∧ n.toInt ≤ 64) → scInv Tx invX M' → scFr [(0, 16, 1), (26, 0, 24)] M M' → Q (.inl (some (.int n))) M') (q1 : ∀ M' : fmM, scInv Tx invX M' → scFr [(0, 16, 1), (26, 0, 24)] M M' → Q (.inr fmIAE) M') : pvGood Tx 2 qX10_would [.ref 0, .int x1, .int x2, .int x3, .int x4, .int x5] M Q := (hh_X10_would_0 M [x1.toInt, x2.toInt, x3.toInt, x4.toInt, x5.toInt] [.ref 0, .int x1, .int x2, .int x3, .int x4, .int x5] (scEk.c1 bx1 (scEk.c1 bx2 (scEk.c1 bx3 (scEk.c1 bx4 (scEk.c1 bx5 scEk.n0))))) ⟨⟨0, by simp, rfl⟩, ⟨x1, rfl, scEv.at rfl⟩, ⟨x2, rfl, scEv.at rfl⟩, ⟨x3, rfl, scEv.at rfl⟩, ⟨x4, rfl, scEv.at rfl⟩, ⟨x5, rfl, scEv.at rfl⟩, trivial⟩ (fun f hf => by cases hf) hI).imp (fun r M' h => by
  obtain ⟨⟨o, ho, hr, hf9, hm⟩, h1, h2⟩ := h
  rcases List.mem_cons.mp ho with rfl | ho
  · obtain ⟨n, rfl, c1, c2⟩ := hr; exact q0 n M' ⟨c1, c2⟩ h1 h2
  rcases List.mem_cons.mp ho with rfl | ho
  · have hr : r = .inr fmIAE := hr; subst hr; exact q1 M' h1 h2
  · cases ho)
theorem sx_would {M : fmM} {a0 a1 a2 a3 a4 : Int32} (hI : scInv Tx invX M) : pvGood Tx 250 qX10_would [.ref 0, .int a0, .int a1, .int a2, .int a3, .int a4] M (fun r M' => rkI true false r ∧ scInv Tx invX M') := (wsx_would (scq_t a0) (scq_t a1) (scq_t a2) (scq_t a3) (scq_t a4) hI (fun n M' _ h1 _ => ⟨Or.inl ⟨n, rfl⟩, h1⟩) (fun M' h1 _ => ⟨Or.inr (Or.inl ⟨rfl, rfl⟩), h1⟩)).up (by decide)
theorem wsx_loss {M : fmM} {Q : fmR → fmM → Prop} {x1 : Int32} (bx1 : (-2147483648) ≤ x1.toInt ∧ x1.toInt ≤ 2147483647) (hI : scInv Tx invX M) (q0 : ∀ (n : Int64) (M' : fmM), ((-9223372036854775808) ≤ n.toInt ∧ n.toInt ≤ 9223372036854775807) → scInv Tx invX M' → scFr [(0, 16, 1)] M M' → Q (.inl (some (.long n))) M') (q1 : ∀ M' : fmM, scInv Tx invX M' → scFr [(0, 16, 1)] M M' → Q (.inr fmIAE) M') : pvGood Tx 2 qX10_loss [.ref 0, .int x1] M Q := (hh_X10_loss_0 M [x1.toInt] [.ref 0, .int x1] (scEk.c1 bx1 scEk.n0) ⟨⟨0, by simp, rfl⟩, ⟨x1, rfl, scEv.at rfl⟩, trivial⟩ (fun f hf => by cases hf) hI).imp (fun r M' h => by
  obtain ⟨⟨o, ho, hr, hf9, hm⟩, h1, h2⟩ := h
  rcases List.mem_cons.mp ho with rfl | ho
  · obtain ⟨n, rfl, c1, c2⟩ := hr; exact q0 n M' ⟨c1, c2⟩ h1 h2
  rcases List.mem_cons.mp ho with rfl | ho
  · have hr : r = .inr fmIAE := hr; subst hr; exact q1 M' h1 h2
  · cases ho)
theorem sx_loss {M : fmM} {a0 : Int32} (hI : scInv Tx invX M) : pvGood Tx 250 qX10_loss [.ref 0, .int a0] M (fun r M' => rkJ true false r ∧ scInv Tx invX M') := (wsx_loss (scq_t a0) hI (fun n M' _ h1 _ => ⟨Or.inl ⟨n, rfl⟩, h1⟩) (fun M' h1 _ => ⟨Or.inr (Or.inl ⟨rfl, rfl⟩), h1⟩)).up (by decide)
theorem wsx_cost {M : fmM} {Q : fmR → fmM → Prop} {x1 : Int32} (bx1 : (-2147483648) ≤ x1.toInt ∧ x1.toInt ≤ 2147483647) {x2 : Int32} (bx2 : (-2147483648) ≤ x2.toInt ∧ x2.toInt ≤ 2147483647) (hI : scInv Tx invX M) (q0 : ∀ (n : Int64) (M' : fmM), ((-9223372036854775808) ≤ n.toInt ∧ n.toInt ≤ 9223372036854775807) → scInv Tx invX M' → scFr [(0, 15, 2), (26, 0, 24)] M M' → Q (.inl (some (.long n))) M') (q1 : ∀ M' : fmM, scInv Tx invX M' → scFr [(0, 15, 2), (26, 0, 24)] M M' → Q (.inr fmIAE) M') (q2 : ∀ M' : fmM, scInv Tx invX M' → scFr [(0, 15, 2), (26, 0, 24)] M M' → Q (.inr fmNSE) M') : pvGood Tx 4 qX10_cost [.ref 0, .int x1, .int x2] M Q := (hh_X10_cost_0 M [x1.toInt, x2.toInt] [.ref 0, .int x1, .int x2] (scEk.c1 bx1 (scEk.c1 bx2 scEk.n0)) ⟨⟨0, by simp, rfl⟩, ⟨x1, rfl, scEv.at rfl⟩, ⟨x2, rfl, scEv.at rfl⟩, trivial⟩ (fun f hf => by cases hf) hI).imp (fun r M' h => by
  obtain ⟨⟨o, ho, hr, hf9, hm⟩, h1, h2⟩ := h
  rcases List.mem_cons.mp ho with rfl | ho
  · obtain ⟨n, rfl, c1, c2⟩ := hr; exact q0 n M' ⟨c1, c2⟩ h1 h2
  rcases List.mem_cons.mp ho with rfl | ho
  · have hr : r = .inr fmIAE := hr; subst hr; exact q1 M' h1 h2
  rcases List.mem_cons.mp ho with rfl | ho
  · have hr : r = .inr fmNSE := hr; subst hr; exact q2 M' h1 h2
  · cases ho)
theorem sx_cost {M : fmM} {a0 a1 : Int32} (hI : scInv Tx invX M) : pvGood Tx 250 qX10_cost [.ref 0, .int a0, .int a1] M (fun r M' => rkJ true true r ∧ scInv Tx invX M') := (wsx_cost (scq_t a0) (scq_t a1) hI (fun n M' _ h1 _ => ⟨Or.inl ⟨n, rfl⟩, h1⟩) (fun M' h1 _ => ⟨Or.inr (Or.inl ⟨rfl, rfl⟩), h1⟩) (fun M' h1 _ => ⟨Or.inr (Or.inr ⟨rfl, rfl⟩), h1⟩)).up (by decide)
theorem wsx_risk {M : fmM} {Q : fmR → fmM → Prop} {x1 : Int32} (bx1 : (-2147483648) ≤ x1.toInt ∧ x1.toInt ≤ 2147483647) (hI : scInv Tx invX M) (q0 : ∀ (n : Int64) (M' : fmM), ((-9223372036854775808) ≤ n.toInt ∧ n.toInt ≤ 9223372036854775807) → scInv Tx invX M' → scFr [(0, 16, 1), (26, 0, 24)] M M' → Q (.inl (some (.long n))) M') (q1 : ∀ M' : fmM, scInv Tx invX M' → scFr [(0, 16, 1), (26, 0, 24)] M M' → Q (.inr fmIAE) M') : pvGood Tx 5 qX10_risk [.ref 0, .int x1] M Q := (hh_X10_risk_0 M [x1.toInt] [.ref 0, .int x1] (scEk.c1 bx1 scEk.n0) ⟨⟨0, by simp, rfl⟩, ⟨x1, rfl, scEv.at rfl⟩, trivial⟩ (fun f hf => by cases hf) hI).imp (fun r M' h => by
  obtain ⟨⟨o, ho, hr, hf9, hm⟩, h1, h2⟩ := h
  rcases List.mem_cons.mp ho with rfl | ho
  · obtain ⟨n, rfl, c1, c2⟩ := hr; exact q0 n M' ⟨c1, c2⟩ h1 h2
  rcases List.mem_cons.mp ho with rfl | ho
  · have hr : r = .inr fmIAE := hr; subst hr; exact q1 M' h1 h2
  · cases ho)
theorem sx_risk {M : fmM} {a0 : Int32} (hI : scInv Tx invX M) : pvGood Tx 250 qX10_risk [.ref 0, .int a0] M (fun r M' => rkJ true false r ∧ scInv Tx invX M') := (wsx_risk (scq_t a0) hI (fun n M' _ h1 _ => ⟨Or.inl ⟨n, rfl⟩, h1⟩) (fun M' h1 _ => ⟨Or.inr (Or.inl ⟨rfl, rfl⟩), h1⟩)).up (by decide)
theorem wsx_saves {M : fmM} {Q : fmR → fmM → Prop} {x1 : Int32} (bx1 : (-2147483648) ≤ x1.toInt ∧ x1.toInt ≤ 2147483647) {x2 : Int32} (bx2 : (-2147483648) ≤ x2.toInt ∧ x2.toInt ≤ 2147483647) (hI : scInv Tx invX M) (q0 : ∀ (n : Int64) (M' : fmM), ((-9223372036854775808) ≤ n.toInt ∧ n.toInt ≤ 9223372036854775807) → scInv Tx invX M' → scFr [(0, 15, 2), (26, 0, 24)] M M' → Q (.inl (some (.long n))) M') (q1 : ∀ M' : fmM, scInv Tx invX M' → scFr [(0, 15, 2), (26, 0, 24)] M M' → Q (.inr fmIAE) M') (q2 : ∀ M' : fmM, scInv Tx invX M' → scFr [(0, 15, 2), (26, 0, 24)] M M' → Q (.inr fmNSE) M') : pvGood Tx 5 qX10_saves [.ref 0, .int x1, .int x2] M Q := (hh_X10_saves_0 M [x1.toInt, x2.toInt] [.ref 0, .int x1, .int x2] (scEk.c1 bx1 (scEk.c1 bx2 scEk.n0)) ⟨⟨0, by simp, rfl⟩, ⟨x1, rfl, scEv.at rfl⟩, ⟨x2, rfl, scEv.at rfl⟩, trivial⟩ (fun f hf => by cases hf) hI).imp (fun r M' h => by
  obtain ⟨⟨o, ho, hr, hf9, hm⟩, h1, h2⟩ := h
  rcases List.mem_cons.mp ho with rfl | ho
  · obtain ⟨n, rfl, c1, c2⟩ := hr; exact q0 n M' ⟨c1, c2⟩ h1 h2
  rcases List.mem_cons.mp ho with rfl | ho
  · have hr : r = .inr fmIAE := hr; subst hr; exact q1 M' h1 h2
  rcases List.mem_cons.mp ho with rfl | ho
  · have hr : r = .inr fmNSE := hr; subst hr; exact q2 M' h1 h2
  · cases ho)
theorem sx_saves {M : fmM} {a0 a1 : Int32} (hI : scInv Tx invX M) : pvGood Tx 250 qX10_saves [.ref 0, .int a0, .int a1] M (fun r M' => rkJ true true r ∧ scInv Tx invX M') := (wsx_saves (scq_t a0) (scq_t a1) hI (fun n M' _ h1 _ => ⟨Or.inl ⟨n, rfl⟩, h1⟩) (fun M' h1 _ => ⟨Or.inr (Or.inl ⟨rfl, rfl⟩), h1⟩) (fun M' h1 _ => ⟨Or.inr (Or.inr ⟨rfl, rfl⟩), h1⟩)).up (by decide)
theorem wsx_first {M : fmM} {Q : fmR → fmM → Prop}  (hI : scInv Tx invX M) (q0 : ∀ (n : Int32) (M' : fmM), ((-1) ≤ n.toInt ∧ n.toInt ≤ 7) → scInv Tx invX M' → scFr [(26, 0, 24), (33, 0, 8)] M M' → Q (.inl (some (.int n))) M') : pvGood Tx 6 qX10_first [.ref 0] M Q := (hh_X10_first_0 M [] [.ref 0] scEk.n0 ⟨⟨0, by simp, rfl⟩, trivial⟩ (fun f hf => by cases hf) hI).imp (fun r M' h => by
  obtain ⟨⟨o, ho, hr, hf9, hm⟩, h1, h2⟩ := h
  rcases List.mem_cons.mp ho with rfl | ho
  · obtain ⟨n, rfl, c1, c2⟩ := hr; exact q0 n M' ⟨c1, c2⟩ h1 h2
  · cases ho)
theorem sx_first {M : fmM} (hI : scInv Tx invX M) : pvGood Tx 250 qX10_first [.ref 0] M (fun r M' => rkI false false r ∧ scInv Tx invX M') := (wsx_first  hI (fun n M' _ h1 _ => ⟨Or.inl ⟨n, rfl⟩, h1⟩)).up (by decide)
theorem wsx_lacking {M : fmM} {Q : fmR → fmM → Prop}  (hI : scInv Tx invX M) (q0 : ∀ (n : Int32) (M' : fmM), ((-2147483648) ≤ n.toInt ∧ n.toInt ≤ 2147483647) → scInv Tx invX M' → scFr [] M M' → Q (.inl (some (.int n))) M') : pvGood Tx 1 qX10_lacking [.ref 0] M Q := (hh_X10_lacking_0 M [] [.ref 0] scEk.n0 ⟨⟨0, by simp, rfl⟩, trivial⟩ (fun f hf => by cases hf) hI).imp (fun r M' h => by
  obtain ⟨⟨o, ho, hr, hf9, hm⟩, h1, h2⟩ := h
  rcases List.mem_cons.mp ho with rfl | ho
  · obtain ⟨n, rfl, c1, c2⟩ := hr; exact q0 n M' ⟨c1, c2⟩ h1 h2
  · cases ho)
theorem sx_lacking {M : fmM} (hI : scInv Tx invX M) : pvGood Tx 250 qX10_lacking [.ref 0] M (fun r M' => rkI false false r ∧ scInv Tx invX M') := (wsx_lacking  hI (fun n M' _ h1 _ => ⟨Or.inl ⟨n, rfl⟩, h1⟩)).up (by decide)
theorem wsx_signed {M : fmM} {Q : fmR → fmM → Prop}  (hI : scInv Tx invX M) (q0 : ∀ (n : Int32) (M' : fmM), ((-2147483648) ≤ n.toInt ∧ n.toInt ≤ 2147483647) → scInv Tx invX M' → scFr [] M M' → Q (.inl (some (.int n))) M') : pvGood Tx 2 qX10_signed [.ref 0] M Q := (hh_X10_signed_0 M [] [.ref 0] scEk.n0 ⟨⟨0, by simp, rfl⟩, trivial⟩ (fun f hf => by cases hf) hI).imp (fun r M' h => by
  obtain ⟨⟨o, ho, hr, hf9, hm⟩, h1, h2⟩ := h
  rcases List.mem_cons.mp ho with rfl | ho
  · obtain ⟨n, rfl, c1, c2⟩ := hr; exact q0 n M' ⟨c1, c2⟩ h1 h2
  · cases ho)
theorem sx_signed {M : fmM} (hI : scInv Tx invX M) : pvGood Tx 250 qX10_signed [.ref 0] M (fun r M' => rkI false false r ∧ scInv Tx invX M') := (wsx_signed  hI (fun n M' _ h1 _ => ⟨Or.inl ⟨n, rfl⟩, h1⟩)).up (by decide)
theorem wsx_stale {M : fmM} {Q : fmR → fmM → Prop} {x1 : Int32} (bx1 : (-2147483648) ≤ x1.toInt ∧ x1.toInt ≤ 2147483647) (hI : scInv Tx invX M) (q0 : ∀ (n : Int32) (M' : fmM), ((-2147483648) ≤ n.toInt ∧ n.toInt ≤ 2147483647) → scInv Tx invX M' → scFr [(0, 16, 1), (26, 0, 24)] M M' → Q (.inl (some (.int n))) M') (q1 : ∀ M' : fmM, scInv Tx invX M' → scFr [(0, 16, 1), (26, 0, 24)] M M' → Q (.inr fmIAE) M') : pvGood Tx 4 qX10_stale [.ref 0, .int x1] M Q := (hh_X10_stale_0 M [x1.toInt] [.ref 0, .int x1] (scEk.c1 bx1 scEk.n0) ⟨⟨0, by simp, rfl⟩, ⟨x1, rfl, scEv.at rfl⟩, trivial⟩ (fun f hf => by cases hf) hI).imp (fun r M' h => by
  obtain ⟨⟨o, ho, hr, hf9, hm⟩, h1, h2⟩ := h
  rcases List.mem_cons.mp ho with rfl | ho
  · obtain ⟨n, rfl, c1, c2⟩ := hr; exact q0 n M' ⟨c1, c2⟩ h1 h2
  rcases List.mem_cons.mp ho with rfl | ho
  · have hr : r = .inr fmIAE := hr; subst hr; exact q1 M' h1 h2
  · cases ho)
theorem sx_stale {M : fmM} {a0 : Int32} (hI : scInv Tx invX M) : pvGood Tx 250 qX10_stale [.ref 0, .int a0] M (fun r M' => rkI true false r ∧ scInv Tx invX M') := (wsx_stale (scq_t a0) hI (fun n M' _ h1 _ => ⟨Or.inl ⟨n, rfl⟩, h1⟩) (fun M' h1 _ => ⟨Or.inr (Or.inl ⟨rfl, rfl⟩), h1⟩)).up (by decide)
theorem wsx_best {M : fmM} {Q : fmR → fmM → Prop} {x1 : Int32} (bx1 : (-2147483648) ≤ x1.toInt ∧ x1.toInt ≤ 2147483647) {x2 : Int32} (bx2 : (-2147483648) ≤ x2.toInt ∧ x2.toInt ≤ 2147483647) (hI : scInv Tx invX M) (q0 : ∀ (n : Int64) (M' : fmM), ((-9223372036854775808) ≤ n.toInt ∧ n.toInt ≤ 9223372036854775807) → scInv Tx invX M' → scFr [(0, 16, 1), (26, 0, 24), (34, 5, 2), (35, 0, 2197), (36, 0, 8), (37, 0, 24), (38, 0, 3)] M M' → Q (.inl (some (.long n))) M') (q1 : ∀ M' : fmM, scInv Tx invX M' → scFr [(0, 16, 1), (26, 0, 24), (34, 5, 2), (35, 0, 2197), (36, 0, 8), (37, 0, 24), (38, 0, 3)] M M' → Q (.inr fmIAE) M') : pvGood Tx 7 qX10_best [.ref 0, .int x1, .int x2] M Q := (hh_X10_best_0 M [x1.toInt, x2.toInt] [.ref 0, .int x1, .int x2] (scEk.c1 bx1 (scEk.c1 bx2 scEk.n0)) ⟨⟨0, by simp, rfl⟩, ⟨x1, rfl, scEv.at rfl⟩, ⟨x2, rfl, scEv.at rfl⟩, trivial⟩ (fun f hf => by cases hf) hI).imp (fun r M' h => by
  obtain ⟨⟨o, ho, hr, hf9, hm⟩, h1, h2⟩ := h
  rcases List.mem_cons.mp ho with rfl | ho
  · obtain ⟨n, rfl, c1, c2⟩ := hr; exact q0 n M' ⟨c1, c2⟩ h1 h2
  rcases List.mem_cons.mp ho with rfl | ho
  · have hr : r = .inr fmIAE := hr; subst hr; exact q1 M' h1 h2
  · cases ho)
theorem sx_best {M : fmM} {a0 a1 : Int32} (hI : scInv Tx invX M) : pvGood Tx 250 qX10_best [.ref 0, .int a0, .int a1] M (fun r M' => rkJ true false r ∧ scInv Tx invX M') := (wsx_best (scq_t a0) (scq_t a1) hI (fun n M' _ h1 _ => ⟨Or.inl ⟨n, rfl⟩, h1⟩) (fun M' h1 _ => ⟨Or.inr (Or.inl ⟨rfl, rfl⟩), h1⟩)).up (by decide)
theorem wsx_bestIn {M : fmM} {Q : fmR → fmM → Prop} {x1 : Int32} (bx1 : (-2147483648) ≤ x1.toInt ∧ x1.toInt ≤ 2147483647) {x2 : Int32} (bx2 : (-2147483648) ≤ x2.toInt ∧ x2.toInt ≤ 2147483647) (hI : scInv Tx invX M) (q0 : ∀ (n : Int32) (M' : fmM), (0 ≤ n.toInt ∧ n.toInt ≤ 255) → scInv Tx invX M' → scFr [(0, 16, 1), (26, 0, 24), (34, 5, 2), (35, 0, 2197), (36, 0, 8), (37, 0, 24), (38, 0, 3)] M M' → Q (.inl (some (.int n))) M') (q1 : ∀ M' : fmM, scInv Tx invX M' → scFr [(0, 16, 1), (26, 0, 24), (34, 5, 2), (35, 0, 2197), (36, 0, 8), (37, 0, 24), (38, 0, 3)] M M' → Q (.inr fmIAE) M') : pvGood Tx 7 qX10_bestIn [.ref 0, .int x1, .int x2] M Q := (hh_X10_bestIn_0 M [x1.toInt, x2.toInt] [.ref 0, .int x1, .int x2] (scEk.c1 bx1 (scEk.c1 bx2 scEk.n0)) ⟨⟨0, by simp, rfl⟩, ⟨x1, rfl, scEv.at rfl⟩, ⟨x2, rfl, scEv.at rfl⟩, trivial⟩ (fun f hf => by cases hf) hI).imp (fun r M' h => by
  obtain ⟨⟨o, ho, hr, hf9, hm⟩, h1, h2⟩ := h
  rcases List.mem_cons.mp ho with rfl | ho
  · obtain ⟨n, rfl, c1, c2⟩ := hr; exact q0 n M' ⟨c1, c2⟩ h1 h2
  rcases List.mem_cons.mp ho with rfl | ho
  · have hr : r = .inr fmIAE := hr; subst hr; exact q1 M' h1 h2
  · cases ho)
theorem sx_bestIn {M : fmM} {a0 a1 : Int32} (hI : scInv Tx invX M) : pvGood Tx 250 qX10_bestIn [.ref 0, .int a0, .int a1] M (fun r M' => rkI true false r ∧ scInv Tx invX M') := (wsx_bestIn (scq_t a0) (scq_t a1) hI (fun n M' _ h1 _ => ⟨Or.inl ⟨n, rfl⟩, h1⟩) (fun M' h1 _ => ⟨Or.inr (Or.inl ⟨rfl, rfl⟩), h1⟩)).up (by decide)
theorem wsx_often {M : fmM} {Q : fmR → fmM → Prop} {x1 : Int32} (bx1 : (-2147483648) ≤ x1.toInt ∧ x1.toInt ≤ 2147483647) {x2 : Int32} (bx2 : (-2147483648) ≤ x2.toInt ∧ x2.toInt ≤ 2147483647) (hI : scInv Tx invX M) (q0 : ∀ (n : Int32) (M' : fmM), (0 ≤ n.toInt ∧ n.toInt ≤ 2147483647) → scInv Tx invX M' → scFr [(0, 15, 2), (26, 0, 24)] M M' → Q (.inl (some (.int n))) M') (q1 : ∀ M' : fmM, scInv Tx invX M' → scFr [(0, 15, 2), (26, 0, 24)] M M' → Q (.inr fmIAE) M') (q2 : ∀ M' : fmM, scInv Tx invX M' → scFr [(0, 15, 2), (26, 0, 24)] M M' → Q (.inr fmNSE) M') : pvGood Tx 3 qX10_often [.ref 0, .int x1, .int x2] M Q := (hh_X10_often_0 M [x1.toInt, x2.toInt] [.ref 0, .int x1, .int x2] (scEk.c1 bx1 (scEk.c1 bx2 scEk.n0)) ⟨⟨0, by simp, rfl⟩, ⟨x1, rfl, scEv.at rfl⟩, ⟨x2, rfl, scEv.at rfl⟩, trivial⟩ (fun f hf => by cases hf) hI).imp (fun r M' h => by
  obtain ⟨⟨o, ho, hr, hf9, hm⟩, h1, h2⟩ := h
  rcases List.mem_cons.mp ho with rfl | ho
  · obtain ⟨n, rfl, c1, c2⟩ := hr; exact q0 n M' ⟨c1, c2⟩ h1 h2
  rcases List.mem_cons.mp ho with rfl | ho
  · have hr : r = .inr fmIAE := hr; subst hr; exact q1 M' h1 h2
  rcases List.mem_cons.mp ho with rfl | ho
  · have hr : r = .inr fmNSE := hr; subst hr; exact q2 M' h1 h2
  · cases ho)
theorem sx_often {M : fmM} {a0 a1 : Int32} (hI : scInv Tx invX M) : pvGood Tx 250 qX10_often [.ref 0, .int a0, .int a1] M (fun r M' => rkI true true r ∧ scInv Tx invX M') := (wsx_often (scq_t a0) (scq_t a1) hI (fun n M' _ h1 _ => ⟨Or.inl ⟨n, rfl⟩, h1⟩) (fun M' h1 _ => ⟨Or.inr (Or.inl ⟨rfl, rfl⟩), h1⟩) (fun M' h1 _ => ⟨Or.inr (Or.inr ⟨rfl, rfl⟩), h1⟩)).up (by decide)
theorem wsx_yearly {M : fmM} {Q : fmR → fmM → Prop} {x1 : Int32} (bx1 : (-2147483648) ≤ x1.toInt ∧ x1.toInt ≤ 2147483647) {x2 : Int32} (bx2 : (-2147483648) ≤ x2.toInt ∧ x2.toInt ≤ 2147483647) {x3 : Int32} (bx3 : (-2147483648) ≤ x3.toInt ∧ x3.toInt ≤ 2147483647) {x4 : Int32} (bx4 : (-2147483648) ≤ x4.toInt ∧ x4.toInt ≤ 2147483647) (hI : scInv Tx invX M) (q0 : ∀ (n : Int64) (M' : fmM), ((-9223372036854775808) ≤ n.toInt ∧ n.toInt ≤ 9223372036854775807) → scInv Tx invX M' → scFr [(0, 15, 2), (26, 0, 24)] M M' → Q (.inl (some (.long n))) M') (q1 : ∀ M' : fmM, scInv Tx invX M' → scFr [(0, 15, 2), (26, 0, 24)] M M' → Q (.inr fmIAE) M') (q2 : ∀ M' : fmM, scInv Tx invX M' → scFr [(0, 15, 2), (26, 0, 24)] M M' → Q (.inr fmNSE) M') : pvGood Tx 3 qX10_yearly [.ref 0, .int x1, .int x2, .int x3, .int x4] M Q := (hh_X10_yearly_0 M [x1.toInt, x2.toInt, x3.toInt, x4.toInt] [.ref 0, .int x1, .int x2, .int x3, .int x4] (scEk.c1 bx1 (scEk.c1 bx2 (scEk.c1 bx3 (scEk.c1 bx4 scEk.n0)))) ⟨⟨0, by simp, rfl⟩, ⟨x1, rfl, scEv.at rfl⟩, ⟨x2, rfl, scEv.at rfl⟩, ⟨x3, rfl, scEv.at rfl⟩, ⟨x4, rfl, scEv.at rfl⟩, trivial⟩ (fun f hf => by cases hf) hI).imp (fun r M' h => by
  obtain ⟨⟨o, ho, hr, hf9, hm⟩, h1, h2⟩ := h
  rcases List.mem_cons.mp ho with rfl | ho
  · obtain ⟨n, rfl, c1, c2⟩ := hr; exact q0 n M' ⟨c1, c2⟩ h1 h2
  rcases List.mem_cons.mp ho with rfl | ho
  · have hr : r = .inr fmIAE := hr; subst hr; exact q1 M' h1 h2
  rcases List.mem_cons.mp ho with rfl | ho
  · have hr : r = .inr fmNSE := hr; subst hr; exact q2 M' h1 h2
  · cases ho)
theorem sx_yearly {M : fmM} {a0 a1 a2 a3 : Int32} (hI : scInv Tx invX M) : pvGood Tx 250 qX10_yearly [.ref 0, .int a0, .int a1, .int a2, .int a3] M (fun r M' => rkJ true true r ∧ scInv Tx invX M') := (wsx_yearly (scq_t a0) (scq_t a1) (scq_t a2) (scq_t a3) hI (fun n M' _ h1 _ => ⟨Or.inl ⟨n, rfl⟩, h1⟩) (fun M' h1 _ => ⟨Or.inr (Or.inl ⟨rfl, rfl⟩), h1⟩) (fun M' h1 _ => ⟨Or.inr (Or.inr ⟨rfl, rfl⟩), h1⟩)).up (by decide)
theorem wsx_brings {M : fmM} {Q : fmR → fmM → Prop} {x1 : Int32} (bx1 : (-2147483648) ≤ x1.toInt ∧ x1.toInt ≤ 2147483647) {x2 : Int32} (bx2 : (-2147483648) ≤ x2.toInt ∧ x2.toInt ≤ 2147483647) {x3 : Int32} (bx3 : (-2147483648) ≤ x3.toInt ∧ x3.toInt ≤ 2147483647) {x4 : Int32} (bx4 : (-2147483648) ≤ x4.toInt ∧ x4.toInt ≤ 2147483647) {x5 : Int32} (bx5 : (-2147483648) ≤ x5.toInt ∧ x5.toInt ≤ 2147483647) {x6 : Int32} (bx6 : (-2147483648) ≤ x6.toInt ∧ x6.toInt ≤ 2147483647) (hI : scInv Tx invX M) (q0 : ∀ (n : Int32) (M' : fmM), ((-2147483648) ≤ n.toInt ∧ n.toInt ≤ 2147483647) → scInv Tx invX M' → scFr [(0, 16, 1)] M M' → Q (.inl (some (.int n))) M') (q1 : ∀ M' : fmM, scInv Tx invX M' → scFr [(0, 16, 1)] M M' → Q (.inr fmIAE) M') : pvGood Tx 2 qX10_brings [.ref 0, .int x1, .int x2, .int x3, .int x4, .int x5, .int x6] M Q := (hh_X10_brings_0 M [x1.toInt, x2.toInt, x3.toInt, x4.toInt, x5.toInt, x6.toInt] [.ref 0, .int x1, .int x2, .int x3, .int x4, .int x5, .int x6] (scEk.c1 bx1 (scEk.c1 bx2 (scEk.c1 bx3 (scEk.c1 bx4 (scEk.c1 bx5 (scEk.c1 bx6 scEk.n0)))))) ⟨⟨0, by simp, rfl⟩, ⟨x1, rfl, scEv.at rfl⟩, ⟨x2, rfl, scEv.at rfl⟩, ⟨x3, rfl, scEv.at rfl⟩, ⟨x4, rfl, scEv.at rfl⟩, ⟨x5, rfl, scEv.at rfl⟩, ⟨x6, rfl, scEv.at rfl⟩, trivial⟩ (fun f hf => by cases hf) hI).imp (fun r M' h => by
  obtain ⟨⟨o, ho, hr, hf9, hm⟩, h1, h2⟩ := h
  rcases List.mem_cons.mp ho with rfl | ho
  · obtain ⟨n, rfl, c1, c2⟩ := hr; exact q0 n M' ⟨c1, c2⟩ h1 h2
  rcases List.mem_cons.mp ho with rfl | ho
  · have hr : r = .inr fmIAE := hr; subst hr; exact q1 M' h1 h2
  · cases ho)
theorem sx_brings {M : fmM} {a0 a1 a2 a3 a4 a5 : Int32} (hI : scInv Tx invX M) : pvGood Tx 250 qX10_brings [.ref 0, .int a0, .int a1, .int a2, .int a3, .int a4, .int a5] M (fun r M' => rkI true false r ∧ scInv Tx invX M') := (wsx_brings (scq_t a0) (scq_t a1) (scq_t a2) (scq_t a3) (scq_t a4) (scq_t a5) hI (fun n M' _ h1 _ => ⟨Or.inl ⟨n, rfl⟩, h1⟩) (fun M' h1 _ => ⟨Or.inr (Or.inl ⟨rfl, rfl⟩), h1⟩)).up (by decide)
theorem wsx_says {M : fmM} {Q : fmR → fmM → Prop} {x1 : Int32} (bx1 : (-2147483648) ≤ x1.toInt ∧ x1.toInt ≤ 2147483647) {x2 : Int32} (bx2 : (-2147483648) ≤ x2.toInt ∧ x2.toInt ≤ 2147483647) {x3 : Int32} (bx3 : (-2147483648) ≤ x3.toInt ∧ x3.toInt ≤ 2147483647) {x4 : Int32} (bx4 : (-2147483648) ≤ x4.toInt ∧ x4.toInt ≤ 2147483647) {x5 : Int32} (bx5 : (-2147483648) ≤ x5.toInt ∧ x5.toInt ≤ 2147483647) (hI : scInv Tx invX M) (q0 : ∀ (n : Int32) (M' : fmM), (0 ≤ n.toInt ∧ n.toInt ≤ 2) → scInv Tx invX M' → scFr [(0, 16, 1)] M M' → Q (.inl (some (.int n))) M') (q1 : ∀ M' : fmM, scInv Tx invX M' → scFr [(0, 16, 1)] M M' → Q (.inr fmIAE) M') : pvGood Tx 2 qX10_says [.ref 0, .int x1, .int x2, .int x3, .int x4, .int x5] M Q := (hh_X10_says_0 M [x1.toInt, x2.toInt, x3.toInt, x4.toInt, x5.toInt] [.ref 0, .int x1, .int x2, .int x3, .int x4, .int x5] (scEk.c1 bx1 (scEk.c1 bx2 (scEk.c1 bx3 (scEk.c1 bx4 (scEk.c1 bx5 scEk.n0))))) ⟨⟨0, by simp, rfl⟩, ⟨x1, rfl, scEv.at rfl⟩, ⟨x2, rfl, scEv.at rfl⟩, ⟨x3, rfl, scEv.at rfl⟩, ⟨x4, rfl, scEv.at rfl⟩, ⟨x5, rfl, scEv.at rfl⟩, trivial⟩ (fun f hf => by cases hf) hI).imp (fun r M' h => by
  obtain ⟨⟨o, ho, hr, hf9, hm⟩, h1, h2⟩ := h
  rcases List.mem_cons.mp ho with rfl | ho
  · obtain ⟨n, rfl, c1, c2⟩ := hr; exact q0 n M' ⟨c1, c2⟩ h1 h2
  rcases List.mem_cons.mp ho with rfl | ho
  · have hr : r = .inr fmIAE := hr; subst hr; exact q1 M' h1 h2
  · cases ho)
theorem sx_says {M : fmM} {a0 a1 a2 a3 a4 : Int32} (hI : scInv Tx invX M) : pvGood Tx 250 qX10_says [.ref 0, .int a0, .int a1, .int a2, .int a3, .int a4] M (fun r M' => rkI true false r ∧ scInv Tx invX M') := (wsx_says (scq_t a0) (scq_t a1) (scq_t a2) (scq_t a3) (scq_t a4) hI (fun n M' _ h1 _ => ⟨Or.inl ⟨n, rfl⟩, h1⟩) (fun M' h1 _ => ⟨Or.inr (Or.inl ⟨rfl, rfl⟩), h1⟩)).up (by decide)
theorem wsx_line {M : fmM} {Q : fmR → fmM → Prop} {x1 : Int32} (bx1 : (-2147483648) ≤ x1.toInt ∧ x1.toInt ≤ 2147483647) {x2 : Int32} (bx2 : (-2147483648) ≤ x2.toInt ∧ x2.toInt ≤ 2147483647) {x3 : Int32} (bx3 : (-2147483648) ≤ x3.toInt ∧ x3.toInt ≤ 2147483647) {x4 : Int32} (bx4 : (-2147483648) ≤ x4.toInt ∧ x4.toInt ≤ 2147483647) (hI : scInv Tx invX M) (q0 : ∀ (n : Int32) (M' : fmM), ((-1) ≤ n.toInt ∧ n.toInt ≤ 16) → scInv Tx invX M' → scFr [(0, 16, 1)] M M' → Q (.inl (some (.int n))) M') (q1 : ∀ M' : fmM, scInv Tx invX M' → scFr [(0, 16, 1)] M M' → Q (.inr fmIAE) M') : pvGood Tx 2 qX10_line [.ref 0, .int x1, .int x2, .int x3, .int x4] M Q := (hh_X10_line_0 M [x1.toInt, x2.toInt, x3.toInt, x4.toInt] [.ref 0, .int x1, .int x2, .int x3, .int x4] (scEk.c1 bx1 (scEk.c1 bx2 (scEk.c1 bx3 (scEk.c1 bx4 scEk.n0)))) ⟨⟨0, by simp, rfl⟩, ⟨x1, rfl, scEv.at rfl⟩, ⟨x2, rfl, scEv.at rfl⟩, ⟨x3, rfl, scEv.at rfl⟩, ⟨x4, rfl, scEv.at rfl⟩, trivial⟩ (fun f hf => by cases hf) hI).imp (fun r M' h => by
  obtain ⟨⟨o, ho, hr, hf9, hm⟩, h1, h2⟩ := h
  rcases List.mem_cons.mp ho with rfl | ho
  · obtain ⟨n, rfl, c1, c2⟩ := hr; exact q0 n M' ⟨c1, c2⟩ h1 h2
  rcases List.mem_cons.mp ho with rfl | ho
  · have hr : r = .inr fmIAE := hr; subst hr; exact q1 M' h1 h2
  · cases ho)
theorem sx_line {M : fmM} {a0 a1 a2 a3 : Int32} (hI : scInv Tx invX M) : pvGood Tx 250 qX10_line [.ref 0, .int a0, .int a1, .int a2, .int a3] M (fun r M' => rkI true false r ∧ scInv Tx invX M') := (wsx_line (scq_t a0) (scq_t a1) (scq_t a2) (scq_t a3) hI (fun n M' _ h1 _ => ⟨Or.inl ⟨n, rfl⟩, h1⟩) (fun M' h1 _ => ⟨Or.inr (Or.inl ⟨rfl, rfl⟩), h1⟩)).up (by decide)
theorem wsx_room {M : fmM} {Q : fmR → fmM → Prop} {x1 : Int32} (bx1 : (-2147483648) ≤ x1.toInt ∧ x1.toInt ≤ 2147483647) {x2 : Int32} (bx2 : (-2147483648) ≤ x2.toInt ∧ x2.toInt ≤ 2147483647) (hI : scInv Tx invX M) (q0 : ∀ (n : Int32) (M' : fmM), ((-2147483648) ≤ n.toInt ∧ n.toInt ≤ 2147483647) → scInv Tx invX M' → scFr [(0, 16, 1), (45, 0, 201)] M M' → Q (.inl (some (.int n))) M') (q1 : ∀ M' : fmM, scInv Tx invX M' → scFr [(0, 16, 1), (45, 0, 201)] M M' → Q (.inr fmIAE) M') : pvGood Tx 3 qX10_room [.ref 0, .int x1, .int x2] M Q := (hh_X10_room_0 M [x1.toInt, x2.toInt] [.ref 0, .int x1, .int x2] (scEk.c1 bx1 (scEk.c1 bx2 scEk.n0)) ⟨⟨0, by simp, rfl⟩, ⟨x1, rfl, scEv.at rfl⟩, ⟨x2, rfl, scEv.at rfl⟩, trivial⟩ (fun f hf => by cases hf) hI).imp (fun r M' h => by
  obtain ⟨⟨o, ho, hr, hf9, hm⟩, h1, h2⟩ := h
  rcases List.mem_cons.mp ho with rfl | ho
  · obtain ⟨n, rfl, c1, c2⟩ := hr; exact q0 n M' ⟨c1, c2⟩ h1 h2
  rcases List.mem_cons.mp ho with rfl | ho
  · have hr : r = .inr fmIAE := hr; subst hr; exact q1 M' h1 h2
  · cases ho)
theorem sx_room {M : fmM} {a0 a1 : Int32} (hI : scInv Tx invX M) : pvGood Tx 250 qX10_room [.ref 0, .int a0, .int a1] M (fun r M' => rkI true false r ∧ scInv Tx invX M') := (wsx_room (scq_t a0) (scq_t a1) hI (fun n M' _ h1 _ => ⟨Or.inl ⟨n, rfl⟩, h1⟩) (fun M' h1 _ => ⟨Or.inr (Or.inl ⟨rfl, rfl⟩), h1⟩)).up (by decide)
theorem wsx_lines {M : fmM} {Q : fmR → fmM → Prop} {x1 : Int32} (bx1 : (-2147483648) ≤ x1.toInt ∧ x1.toInt ≤ 2147483647) {x2 : Int32} (bx2 : (-2147483648) ≤ x2.toInt ∧ x2.toInt ≤ 2147483647) {x3 : Int32} (bx3 : (-2147483648) ≤ x3.toInt ∧ x3.toInt ≤ 2147483647) (hI : scInv Tx invX M) (q0 : ∀ (n : Int32) (M' : fmM), (0 ≤ n.toInt ∧ n.toInt ≤ 99) → scInv Tx invX M' → scFr [(0, 15, 2), (45, 0, 201)] M M' → Q (.inl (some (.int n))) M') (q1 : ∀ M' : fmM, scInv Tx invX M' → scFr [(0, 15, 2), (45, 0, 201)] M M' → Q (.inr fmIAE) M') (q2 : ∀ M' : fmM, scInv Tx invX M' → scFr [(0, 15, 2), (45, 0, 201)] M M' → Q (.inr fmNSE) M') : pvGood Tx 3 qX10_lines [.ref 0, .int x1, .int x2, .int x3] M Q := (hh_X10_lines_0 M [x1.toInt, x2.toInt, x3.toInt] [.ref 0, .int x1, .int x2, .int x3] (scEk.c1 bx1 (scEk.c1 bx2 (scEk.c1 bx3 scEk.n0))) ⟨⟨0, by simp, rfl⟩, ⟨x1, rfl, scEv.at rfl⟩, ⟨x2, rfl, scEv.at rfl⟩, ⟨x3, rfl, scEv.at rfl⟩, trivial⟩ (fun f hf => by cases hf) hI).imp (fun r M' h => by
  obtain ⟨⟨o, ho, hr, hf9, hm⟩, h1, h2⟩ := h
  rcases List.mem_cons.mp ho with rfl | ho
  · obtain ⟨n, rfl, c1, c2⟩ := hr; exact q0 n M' ⟨c1, c2⟩ h1 h2
  rcases List.mem_cons.mp ho with rfl | ho
  · have hr : r = .inr fmIAE := hr; subst hr; exact q1 M' h1 h2
  rcases List.mem_cons.mp ho with rfl | ho
  · have hr : r = .inr fmNSE := hr; subst hr; exact q2 M' h1 h2
  · cases ho)
theorem sx_lines {M : fmM} {a0 a1 a2 : Int32} (hI : scInv Tx invX M) : pvGood Tx 250 qX10_lines [.ref 0, .int a0, .int a1, .int a2] M (fun r M' => rkI true true r ∧ scInv Tx invX M') := (wsx_lines (scq_t a0) (scq_t a1) (scq_t a2) hI (fun n M' _ h1 _ => ⟨Or.inl ⟨n, rfl⟩, h1⟩) (fun M' h1 _ => ⟨Or.inr (Or.inl ⟨rfl, rfl⟩), h1⟩) (fun M' h1 _ => ⟨Or.inr (Or.inr ⟨rfl, rfl⟩), h1⟩)).up (by decide)
theorem wsx_apart {M : fmM} {Q : fmR → fmM → Prop} {x1 : Int32} (bx1 : (-2147483648) ≤ x1.toInt ∧ x1.toInt ≤ 2147483647) {x2 : Int32} (bx2 : (-2147483648) ≤ x2.toInt ∧ x2.toInt ≤ 2147483647) (hI : scInv Tx invX M) (q0 : ∀ (n : Int32) (M' : fmM), ((-1) ≤ n.toInt ∧ n.toInt ≤ 2147483647) → scInv Tx invX M' → scFr [(0, 16, 1), (44, 0, 8)] M M' → Q (.inl (some (.int n))) M') (q1 : ∀ M' : fmM, scInv Tx invX M' → scFr [(0, 16, 1), (44, 0, 8)] M M' → Q (.inr fmIAE) M') : pvGood Tx 2 qX10_apart [.ref 0, .int x1, .int x2] M Q := (hh_X10_apart_0 M [x1.toInt, x2.toInt] [.ref 0, .int x1, .int x2] (scEk.c1 bx1 (scEk.c1 bx2 scEk.n0)) ⟨⟨0, by simp, rfl⟩, ⟨x1, rfl, scEv.at rfl⟩, ⟨x2, rfl, scEv.at rfl⟩, trivial⟩ (fun f hf => by cases hf) hI).imp (fun r M' h => by
  obtain ⟨⟨o, ho, hr, hf9, hm⟩, h1, h2⟩ := h
  rcases List.mem_cons.mp ho with rfl | ho
  · obtain ⟨n, rfl, c1, c2⟩ := hr; exact q0 n M' ⟨c1, c2⟩ h1 h2
  rcases List.mem_cons.mp ho with rfl | ho
  · have hr : r = .inr fmIAE := hr; subst hr; exact q1 M' h1 h2
  · cases ho)
theorem sx_apart {M : fmM} {a0 a1 : Int32} (hI : scInv Tx invX M) : pvGood Tx 250 qX10_apart [.ref 0, .int a0, .int a1] M (fun r M' => rkI true false r ∧ scInv Tx invX M') := (wsx_apart (scq_t a0) (scq_t a1) hI (fun n M' _ h1 _ => ⟨Or.inl ⟨n, rfl⟩, h1⟩) (fun M' h1 _ => ⟨Or.inr (Or.inl ⟨rfl, rfl⟩), h1⟩)).up (by decide)
theorem wsx_twins {M : fmM} {Q : fmR → fmM → Prop}  (hI : scInv Tx invX M) (q0 : ∀ (n : Int32) (M' : fmM), ((-1) ≤ n.toInt ∧ n.toInt ≤ 77) → scInv Tx invX M' → scFr [(44, 0, 8)] M M' → Q (.inl (some (.int n))) M') : pvGood Tx 2 qX10_twins [.ref 0] M Q := (hh_X10_twins_0 M [] [.ref 0] scEk.n0 ⟨⟨0, by simp, rfl⟩, trivial⟩ (fun f hf => by cases hf) hI).imp (fun r M' h => by
  obtain ⟨⟨o, ho, hr, hf9, hm⟩, h1, h2⟩ := h
  rcases List.mem_cons.mp ho with rfl | ho
  · obtain ⟨n, rfl, c1, c2⟩ := hr; exact q0 n M' ⟨c1, c2⟩ h1 h2
  · cases ho)
theorem sx_twins {M : fmM} (hI : scInv Tx invX M) : pvGood Tx 250 qX10_twins [.ref 0] M (fun r M' => rkI false false r ∧ scInv Tx invX M') := (wsx_twins  hI (fun n M' _ h1 _ => ⟨Or.inl ⟨n, rfl⟩, h1⟩)).up (by decide)
theorem wsx_written {M : fmM} {Q : fmR → fmM → Prop} {x1 : Int32} (bx1 : (-2147483648) ≤ x1.toInt ∧ x1.toInt ≤ 2147483647) (hI : scInv Tx invX M) (q0 : ∀ (n : Int64) (M' : fmM), ((-9223372036854775808) ≤ n.toInt ∧ n.toInt ≤ 9223372036854775807) → scInv Tx invX M' → scFr [(0, 15, 1)] M M' → Q (.inl (some (.long n))) M') (q1 : ∀ M' : fmM, scInv Tx invX M' → scFr [(0, 15, 1)] M M' → Q (.inr fmNSE) M') : pvGood Tx 2 qX10_written [.ref 0, .int x1] M Q := (hh_X10_written_0 M [x1.toInt] [.ref 0, .int x1] (scEk.c1 bx1 scEk.n0) ⟨⟨0, by simp, rfl⟩, ⟨x1, rfl, scEv.at rfl⟩, trivial⟩ (fun f hf => by cases hf) hI).imp (fun r M' h => by
  obtain ⟨⟨o, ho, hr, hf9, hm⟩, h1, h2⟩ := h
  rcases List.mem_cons.mp ho with rfl | ho
  · obtain ⟨n, rfl, c1, c2⟩ := hr; exact q0 n M' ⟨c1, c2⟩ h1 h2
  rcases List.mem_cons.mp ho with rfl | ho
  · have hr : r = .inr fmNSE := hr; subst hr; exact q1 M' h1 h2
  · cases ho)
theorem sx_written {M : fmM} {a0 : Int32} (hI : scInv Tx invX M) : pvGood Tx 250 qX10_written [.ref 0, .int a0] M (fun r M' => rkJ false true r ∧ scInv Tx invX M') := (wsx_written (scq_t a0) hI (fun n M' _ h1 _ => ⟨Or.inl ⟨n, rfl⟩, h1⟩) (fun M' h1 _ => ⟨Or.inr (Or.inr ⟨rfl, rfl⟩), h1⟩)).up (by decide)
theorem wsx_whose {M : fmM} {Q : fmR → fmM → Prop}  (hI : scInv Tx invX M) (q0 : ∀ (n : Int32) (M' : fmM), ((-2147483648) ≤ n.toInt ∧ n.toInt ≤ 2147483647) → scInv Tx invX M' → scFr [] M M' → Q (.inl (some (.int n))) M') : pvGood Tx 2 qX10_whose [.ref 0] M Q := (hh_X10_whose_0 M [] [.ref 0] scEk.n0 ⟨⟨0, by simp, rfl⟩, trivial⟩ (fun f hf => by cases hf) hI).imp (fun r M' h => by
  obtain ⟨⟨o, ho, hr, hf9, hm⟩, h1, h2⟩ := h
  rcases List.mem_cons.mp ho with rfl | ho
  · obtain ⟨n, rfl, c1, c2⟩ := hr; exact q0 n M' ⟨c1, c2⟩ h1 h2
  · cases ho)
theorem sx_whose {M : fmM} (hI : scInv Tx invX M) : pvGood Tx 250 qX10_whose [.ref 0] M (fun r M' => rkI false false r ∧ scInv Tx invX M') := (wsx_whose  hI (fun n M' _ h1 _ => ⟨Or.inl ⟨n, rfl⟩, h1⟩)).up (by decide)
theorem wsx_ahead {M : fmM} {Q : fmR → fmM → Prop} {x1 : Int32} (bx1 : (-2147483648) ≤ x1.toInt ∧ x1.toInt ≤ 2147483647) {x2 : Int32} (bx2 : (-2147483648) ≤ x2.toInt ∧ x2.toInt ≤ 2147483647) (hI : scInv Tx invX M) (q0 : ∀ (n : Int64) (M' : fmM), ((-9223372036854775808) ≤ n.toInt ∧ n.toInt ≤ 9223372036854775807) → scInv Tx invX M' → scFr [(0, 16, 1), (26, 0, 24)] M M' → Q (.inl (some (.long n))) M') (q1 : ∀ M' : fmM, scInv Tx invX M' → scFr [(0, 16, 1), (26, 0, 24)] M M' → Q (.inr fmIAE) M') : pvGood Tx 5 qX10_ahead [.ref 0, .int x1, .int x2] M Q := (hh_X10_ahead_0 M [x1.toInt, x2.toInt] [.ref 0, .int x1, .int x2] (scEk.c1 bx1 (scEk.c1 bx2 scEk.n0)) ⟨⟨0, by simp, rfl⟩, ⟨x1, rfl, scEv.at rfl⟩, ⟨x2, rfl, scEv.at rfl⟩, trivial⟩ (fun f hf => by cases hf) hI).imp (fun r M' h => by
  obtain ⟨⟨o, ho, hr, hf9, hm⟩, h1, h2⟩ := h
  rcases List.mem_cons.mp ho with rfl | ho
  · obtain ⟨n, rfl, c1, c2⟩ := hr; exact q0 n M' ⟨c1, c2⟩ h1 h2
  rcases List.mem_cons.mp ho with rfl | ho
  · have hr : r = .inr fmIAE := hr; subst hr; exact q1 M' h1 h2
  · cases ho)
theorem sx_ahead {M : fmM} {a0 a1 : Int32} (hI : scInv Tx invX M) : pvGood Tx 250 qX10_ahead [.ref 0, .int a0, .int a1] M (fun r M' => rkJ true false r ∧ scInv Tx invX M') := (wsx_ahead (scq_t a0) (scq_t a1) hI (fun n M' _ h1 _ => ⟨Or.inl ⟨n, rfl⟩, h1⟩) (fun M' h1 _ => ⟨Or.inr (Or.inl ⟨rfl, rfl⟩), h1⟩)).up (by decide)
theorem wsx_lives {M : fmM} {Q : fmR → fmM → Prop} {x1 : Int32} (bx1 : (-2147483648) ≤ x1.toInt ∧ x1.toInt ≤ 2147483647) {x2 : Int32} (bx2 : (-2147483648) ≤ x2.toInt ∧ x2.toInt ≤ 2147483647) {x3 : Int32} (bx3 : (-2147483648) ≤ x3.toInt ∧ x3.toInt ≤ 2147483647) (hI : scInv Tx invX M) (q0 : ∀ (n : Int64) (M' : fmM), ((-9223372036854775808) ≤ n.toInt ∧ n.toInt ≤ 9223372036854775807) → scInv Tx invX M' → scFr [(0, 15, 2)] M M' → Q (.inl (some (.long n))) M') (q1 : ∀ M' : fmM, scInv Tx invX M' → scFr [(0, 15, 2)] M M' → Q (.inr fmIAE) M') (q2 : ∀ M' : fmM, scInv Tx invX M' → scFr [(0, 15, 2)] M M' → Q (.inr fmNSE) M') : pvGood Tx 2 qX10_lives [.ref 0, .int x1, .int x2, .int x3] M Q := (hh_X10_lives_0 M [x1.toInt, x2.toInt, x3.toInt] [.ref 0, .int x1, .int x2, .int x3] (scEk.c1 bx1 (scEk.c1 bx2 (scEk.c1 bx3 scEk.n0))) ⟨⟨0, by simp, rfl⟩, ⟨x1, rfl, scEv.at rfl⟩, ⟨x2, rfl, scEv.at rfl⟩, ⟨x3, rfl, scEv.at rfl⟩, trivial⟩ (fun f hf => by cases hf) hI).imp (fun r M' h => by
  obtain ⟨⟨o, ho, hr, hf9, hm⟩, h1, h2⟩ := h
  rcases List.mem_cons.mp ho with rfl | ho
  · obtain ⟨n, rfl, c1, c2⟩ := hr; exact q0 n M' ⟨c1, c2⟩ h1 h2
  rcases List.mem_cons.mp ho with rfl | ho
  · have hr : r = .inr fmIAE := hr; subst hr; exact q1 M' h1 h2
  rcases List.mem_cons.mp ho with rfl | ho
  · have hr : r = .inr fmNSE := hr; subst hr; exact q2 M' h1 h2
  · cases ho)
theorem sx_lives {M : fmM} {a0 a1 a2 : Int32} (hI : scInv Tx invX M) : pvGood Tx 250 qX10_lives [.ref 0, .int a0, .int a1, .int a2] M (fun r M' => rkJ true true r ∧ scInv Tx invX M') := (wsx_lives (scq_t a0) (scq_t a1) (scq_t a2) hI (fun n M' _ h1 _ => ⟨Or.inl ⟨n, rfl⟩, h1⟩) (fun M' h1 _ => ⟨Or.inr (Or.inl ⟨rfl, rfl⟩), h1⟩) (fun M' h1 _ => ⟨Or.inr (Or.inr ⟨rfl, rfl⟩), h1⟩)).up (by decide)
theorem wsx_oldest {M : fmM} {Q : fmR → fmM → Prop}  (hI : scInv Tx invX M) (q0 : ∀ (n : Int32) (M' : fmM), ((-1) ≤ n.toInt ∧ n.toInt ≤ 7) → scInv Tx invX M' → scFr [] M M' → Q (.inl (some (.int n))) M') : pvGood Tx 0 qX10_oldest [.ref 0] M Q := (hh_X10_oldest_0 M [] [.ref 0] scEk.n0 ⟨⟨0, by simp, rfl⟩, trivial⟩ (fun f hf => by cases hf) hI).imp (fun r M' h => by
  obtain ⟨⟨o, ho, hr, hf9, hm⟩, h1, h2⟩ := h
  rcases List.mem_cons.mp ho with rfl | ho
  · obtain ⟨n, rfl, c1, c2⟩ := hr; exact q0 n M' ⟨c1, c2⟩ h1 h2
  · cases ho)
theorem sx_oldest {M : fmM} (hI : scInv Tx invX M) : pvGood Tx 250 qX10_oldest [.ref 0] M (fun r M' => rkI false false r ∧ scInv Tx invX M') := (wsx_oldest  hI (fun n M' _ h1 _ => ⟨Or.inl ⟨n, rfl⟩, h1⟩)).up (by decide)
theorem wsx_chain {M : fmM} {Q : fmR → fmM → Prop} {x1 : Int32} (bx1 : (-2147483648) ≤ x1.toInt ∧ x1.toInt ≤ 2147483647) {x2 : Int32} (bx2 : (-2147483648) ≤ x2.toInt ∧ x2.toInt ≤ 2147483647) (hI : scInv Tx invX M) (q0 : ∀ (n : Int32) (M' : fmM), (0 ≤ n.toInt ∧ n.toInt ≤ 63) → scInv Tx invX M' → scFr [(0, 15, 2)] M M' → Q (.inl (some (.int n))) M') (q1 : ∀ M' : fmM, scInv Tx invX M' → scFr [(0, 15, 2)] M M' → Q (.inr fmIAE) M') (q2 : ∀ M' : fmM, scInv Tx invX M' → scFr [(0, 15, 2)] M M' → Q (.inr fmNSE) M') : pvGood Tx 1 qX10_chain [.ref 0, .int x1, .int x2] M Q := (hh_X10_chain_0 M [x1.toInt, x2.toInt] [.ref 0, .int x1, .int x2] (scEk.c1 bx1 (scEk.c1 bx2 scEk.n0)) ⟨⟨0, by simp, rfl⟩, ⟨x1, rfl, scEv.at rfl⟩, ⟨x2, rfl, scEv.at rfl⟩, trivial⟩ (fun f hf => by cases hf) hI).imp (fun r M' h => by
  obtain ⟨⟨o, ho, hr, hf9, hm⟩, h1, h2⟩ := h
  rcases List.mem_cons.mp ho with rfl | ho
  · obtain ⟨n, rfl, c1, c2⟩ := hr; exact q0 n M' ⟨c1, c2⟩ h1 h2
  rcases List.mem_cons.mp ho with rfl | ho
  · have hr : r = .inr fmIAE := hr; subst hr; exact q1 M' h1 h2
  rcases List.mem_cons.mp ho with rfl | ho
  · have hr : r = .inr fmNSE := hr; subst hr; exact q2 M' h1 h2
  · cases ho)
theorem sx_chain {M : fmM} {a0 a1 : Int32} (hI : scInv Tx invX M) : pvGood Tx 250 qX10_chain [.ref 0, .int a0, .int a1] M (fun r M' => rkI true true r ∧ scInv Tx invX M') := (wsx_chain (scq_t a0) (scq_t a1) hI (fun n M' _ h1 _ => ⟨Or.inl ⟨n, rfl⟩, h1⟩) (fun M' h1 _ => ⟨Or.inr (Or.inl ⟨rfl, rfl⟩), h1⟩) (fun M' h1 _ => ⟨Or.inr (Or.inr ⟨rfl, rfl⟩), h1⟩)).up (by decide)
theorem wsx_due {M : fmM} {Q : fmR → fmM → Prop} {x1 : Int32} (bx1 : (-2147483648) ≤ x1.toInt ∧ x1.toInt ≤ 2147483647) {x2 : Int32} (bx2 : (-2147483648) ≤ x2.toInt ∧ x2.toInt ≤ 2147483647) (hI : scInv Tx invX M) (q0 : ∀ (n : Int32) (M' : fmM), ((-1) ≤ n.toInt ∧ n.toInt ≤ 60) → scInv Tx invX M' → scFr [(0, 15, 2), (26, 0, 24)] M M' → Q (.inl (some (.int n))) M') (q1 : ∀ M' : fmM, scInv Tx invX M' → scFr [(0, 15, 2), (26, 0, 24)] M M' → Q (.inr fmIAE) M') (q2 : ∀ M' : fmM, scInv Tx invX M' → scFr [(0, 15, 2), (26, 0, 24)] M M' → Q (.inr fmNSE) M') : pvGood Tx 3 qX10_due [.ref 0, .int x1, .int x2] M Q := (hh_X10_due_0 M [x1.toInt, x2.toInt] [.ref 0, .int x1, .int x2] (scEk.c1 bx1 (scEk.c1 bx2 scEk.n0)) ⟨⟨0, by simp, rfl⟩, ⟨x1, rfl, scEv.at rfl⟩, ⟨x2, rfl, scEv.at rfl⟩, trivial⟩ (fun f hf => by cases hf) hI).imp (fun r M' h => by
  obtain ⟨⟨o, ho, hr, hf9, hm⟩, h1, h2⟩ := h
  rcases List.mem_cons.mp ho with rfl | ho
  · obtain ⟨n, rfl, c1, c2⟩ := hr; exact q0 n M' ⟨c1, c2⟩ h1 h2
  rcases List.mem_cons.mp ho with rfl | ho
  · have hr : r = .inr fmIAE := hr; subst hr; exact q1 M' h1 h2
  rcases List.mem_cons.mp ho with rfl | ho
  · have hr : r = .inr fmNSE := hr; subst hr; exact q2 M' h1 h2
  · cases ho)
theorem sx_due {M : fmM} {a0 a1 : Int32} (hI : scInv Tx invX M) : pvGood Tx 250 qX10_due [.ref 0, .int a0, .int a1] M (fun r M' => rkI true true r ∧ scInv Tx invX M') := (wsx_due (scq_t a0) (scq_t a1) hI (fun n M' _ h1 _ => ⟨Or.inl ⟨n, rfl⟩, h1⟩) (fun M' h1 _ => ⟨Or.inr (Or.inl ⟨rfl, rfl⟩), h1⟩) (fun M' h1 _ => ⟨Or.inr (Or.inr ⟨rfl, rfl⟩), h1⟩)).up (by decide)
theorem wsx_news {M : fmM} {Q : fmR → fmM → Prop} {x1 : Int32} (bx1 : (-2147483648) ≤ x1.toInt ∧ x1.toInt ≤ 2147483647) (hI : scInv Tx invX M) (q0 : ∀ (n : Int32) (M' : fmM), ((-1) ≤ n.toInt ∧ n.toInt ≤ 60) → scInv Tx invX M' → scFr [(0, 15, 1)] M M' → Q (.inl (some (.int n))) M') (q1 : ∀ M' : fmM, scInv Tx invX M' → scFr [(0, 15, 1)] M M' → Q (.inr fmNSE) M') : pvGood Tx 1 qX10_news [.ref 0, .int x1] M Q := (hh_X10_news_0 M [x1.toInt] [.ref 0, .int x1] (scEk.c1 bx1 scEk.n0) ⟨⟨0, by simp, rfl⟩, ⟨x1, rfl, scEv.at rfl⟩, trivial⟩ (fun f hf => by cases hf) hI).imp (fun r M' h => by
  obtain ⟨⟨o, ho, hr, hf9, hm⟩, h1, h2⟩ := h
  rcases List.mem_cons.mp ho with rfl | ho
  · obtain ⟨n, rfl, c1, c2⟩ := hr; exact q0 n M' ⟨c1, c2⟩ h1 h2
  rcases List.mem_cons.mp ho with rfl | ho
  · have hr : r = .inr fmNSE := hr; subst hr; exact q1 M' h1 h2
  · cases ho)
theorem sx_news {M : fmM} {a0 : Int32} (hI : scInv Tx invX M) : pvGood Tx 250 qX10_news [.ref 0, .int a0] M (fun r M' => rkI false true r ∧ scInv Tx invX M') := (wsx_news (scq_t a0) hI (fun n M' _ h1 _ => ⟨Or.inl ⟨n, rfl⟩, h1⟩) (fun M' h1 _ => ⟨Or.inr (Or.inr ⟨rfl, rfl⟩), h1⟩)).up (by decide)
theorem wsx_expects {M : fmM} {Q : fmR → fmM → Prop} {x1 : Int32} (bx1 : (-2147483648) ≤ x1.toInt ∧ x1.toInt ≤ 2147483647) {x2 : Int32} (bx2 : (-2147483648) ≤ x2.toInt ∧ x2.toInt ≤ 2147483647) {x3 : Int32} (bx3 : (-2147483648) ≤ x3.toInt ∧ x3.toInt ≤ 2147483647) (hI : scInv Tx invX M) (q0 : ∀ (n : Int64) (M' : fmM), ((-9223372036854775808) ≤ n.toInt ∧ n.toInt ≤ 9223372036854775807) → scInv Tx invX M' → scFr [(0, 15, 2), (26, 0, 24)] M M' → Q (.inl (some (.long n))) M') (q1 : ∀ M' : fmM, scInv Tx invX M' → scFr [(0, 15, 2), (26, 0, 24)] M M' → Q (.inr fmIAE) M') (q2 : ∀ M' : fmM, scInv Tx invX M' → scFr [(0, 15, 2), (26, 0, 24)] M M' → Q (.inr fmNSE) M') : pvGood Tx 5 qX10_expects [.ref 0, .int x1, .int x2, .int x3] M Q := (hh_X10_expects_0 M [x1.toInt, x2.toInt, x3.toInt] [.ref 0, .int x1, .int x2, .int x3] (scEk.c1 bx1 (scEk.c1 bx2 (scEk.c1 bx3 scEk.n0))) ⟨⟨0, by simp, rfl⟩, ⟨x1, rfl, scEv.at rfl⟩, ⟨x2, rfl, scEv.at rfl⟩, ⟨x3, rfl, scEv.at rfl⟩, trivial⟩ (fun f hf => by cases hf) hI).imp (fun r M' h => by
  obtain ⟨⟨o, ho, hr, hf9, hm⟩, h1, h2⟩ := h
  rcases List.mem_cons.mp ho with rfl | ho
  · obtain ⟨n, rfl, c1, c2⟩ := hr; exact q0 n M' ⟨c1, c2⟩ h1 h2
  rcases List.mem_cons.mp ho with rfl | ho
  · have hr : r = .inr fmIAE := hr; subst hr; exact q1 M' h1 h2
  rcases List.mem_cons.mp ho with rfl | ho
  · have hr : r = .inr fmNSE := hr; subst hr; exact q2 M' h1 h2
  · cases ho)
theorem sx_expects {M : fmM} {a0 a1 a2 : Int32} (hI : scInv Tx invX M) : pvGood Tx 250 qX10_expects [.ref 0, .int a0, .int a1, .int a2] M (fun r M' => rkJ true true r ∧ scInv Tx invX M') := (wsx_expects (scq_t a0) (scq_t a1) (scq_t a2) hI (fun n M' _ h1 _ => ⟨Or.inl ⟨n, rfl⟩, h1⟩) (fun M' h1 _ => ⟨Or.inr (Or.inl ⟨rfl, rfl⟩), h1⟩) (fun M' h1 _ => ⟨Or.inr (Or.inr ⟨rfl, rfl⟩), h1⟩)).up (by decide)
theorem wsx_worst {M : fmM} {Q : fmR → fmM → Prop}  (hI : scInv Tx invX M) (q0 : ∀ (n : Int32) (M' : fmM), (0 ≤ n.toInt ∧ n.toInt ≤ 2147483647) → scInv Tx invX M' → scFr [(26, 0, 24)] M M' → Q (.inl (some (.int n))) M') : pvGood Tx 5 qX10_worst [.ref 0] M Q := (hh_X10_worst_0 M [] [.ref 0] scEk.n0 ⟨⟨0, by simp, rfl⟩, trivial⟩ (fun f hf => by cases hf) hI).imp (fun r M' h => by
  obtain ⟨⟨o, ho, hr, hf9, hm⟩, h1, h2⟩ := h
  rcases List.mem_cons.mp ho with rfl | ho
  · obtain ⟨n, rfl, c1, c2⟩ := hr; exact q0 n M' ⟨c1, c2⟩ h1 h2
  · cases ho)
theorem sx_worst {M : fmM} (hI : scInv Tx invX M) : pvGood Tx 250 qX10_worst [.ref 0] M (fun r M' => rkI false false r ∧ scInv Tx invX M') := (wsx_worst  hI (fun n M' _ h1 _ => ⟨Or.inl ⟨n, rfl⟩, h1⟩)).up (by decide)
theorem wsx_years {M : fmM} {Q : fmR → fmM → Prop} {x1 : Int32} (bx1 : (-2147483648) ≤ x1.toInt ∧ x1.toInt ≤ 2147483647) {x2 : Int32} (bx2 : (-2147483648) ≤ x2.toInt ∧ x2.toInt ≤ 2147483647) {x3 : Int32} (bx3 : (-2147483648) ≤ x3.toInt ∧ x3.toInt ≤ 2147483647) (hI : scInv Tx invX M) (q0 : ∀ (n : Int32) (M' : fmM), ((-2147483648) ≤ n.toInt ∧ n.toInt ≤ 2147483647) → scInv Tx invX M' → scFr [(0, 16, 1), (26, 0, 24), (39, 1, 1), (39, 4, 1), (40, 0, 8), (41, 1, 6), (42, 0, 8)] M M' → Q (.inl (some (.int n))) M') (q1 : ∀ M' : fmM, scInv Tx invX M' → scFr [(0, 16, 1), (26, 0, 24), (39, 1, 1), (39, 4, 1), (40, 0, 8), (41, 1, 6), (42, 0, 8)] M M' → Q (.inr fmIAE) M') : pvGood Tx 7 qX10_years [.ref 0, .int x1, .int x2, .int x3] M Q := (hh_X10_years_0 M [x1.toInt, x2.toInt, x3.toInt] [.ref 0, .int x1, .int x2, .int x3] (scEk.c1 bx1 (scEk.c1 bx2 (scEk.c1 bx3 scEk.n0))) ⟨⟨0, by simp, rfl⟩, ⟨x1, rfl, scEv.at rfl⟩, ⟨x2, rfl, scEv.at rfl⟩, ⟨x3, rfl, scEv.at rfl⟩, trivial⟩ (fun f hf => by cases hf) hI).imp (fun r M' h => by
  obtain ⟨⟨o, ho, hr, hf9, hm⟩, h1, h2⟩ := h
  rcases List.mem_cons.mp ho with rfl | ho
  · obtain ⟨n, rfl, c1, c2⟩ := hr; exact q0 n M' ⟨c1, c2⟩ h1 h2
  rcases List.mem_cons.mp ho with rfl | ho
  · have hr : r = .inr fmIAE := hr; subst hr; exact q1 M' h1 h2
  · cases ho)
theorem sx_years {M : fmM} {a0 a1 a2 : Int32} (hI : scInv Tx invX M) : pvGood Tx 250 qX10_years [.ref 0, .int a0, .int a1, .int a2] M (fun r M' => rkI true false r ∧ scInv Tx invX M') := (wsx_years (scq_t a0) (scq_t a1) (scq_t a2) hI (fun n M' _ h1 _ => ⟨Or.inl ⟨n, rfl⟩, h1⟩) (fun M' h1 _ => ⟨Or.inr (Or.inl ⟨rfl, rfl⟩), h1⟩)).up (by decide)
theorem wsx_span {M : fmM} {Q : fmR → fmM → Prop} {x1 : Int32} (bx1 : (-2147483648) ≤ x1.toInt ∧ x1.toInt ≤ 2147483647) {x2 : Int32} (bx2 : (-2147483648) ≤ x2.toInt ∧ x2.toInt ≤ 2147483647) {x3 : Int32} (bx3 : (-2147483648) ≤ x3.toInt ∧ x3.toInt ≤ 2147483647) {x4 : Int32} (bx4 : (-2147483648) ≤ x4.toInt ∧ x4.toInt ≤ 2147483647) {x5 : Int32} (bx5 : (-2147483648) ≤ x5.toInt ∧ x5.toInt ≤ 2147483647) (hI : scInv Tx invX M) (q0 : ∀ (n : Int32) (M' : fmM), ((-2147483648) ≤ n.toInt ∧ n.toInt ≤ 2147483647) → scInv Tx invX M' → scFr [(0, 16, 1), (26, 0, 24), (39, 1, 1), (39, 4, 1), (40, 0, 8), (41, 1, 6), (42, 0, 8)] M M' → Q (.inl (some (.int n))) M') (q1 : ∀ M' : fmM, scInv Tx invX M' → scFr [(0, 16, 1), (26, 0, 24), (39, 1, 1), (39, 4, 1), (40, 0, 8), (41, 1, 6), (42, 0, 8)] M M' → Q (.inr fmIAE) M') : pvGood Tx 7 qX10_span [.ref 0, .int x1, .int x2, .int x3, .int x4, .int x5] M Q := (hh_X10_span_0 M [x1.toInt, x2.toInt, x3.toInt, x4.toInt, x5.toInt] [.ref 0, .int x1, .int x2, .int x3, .int x4, .int x5] (scEk.c1 bx1 (scEk.c1 bx2 (scEk.c1 bx3 (scEk.c1 bx4 (scEk.c1 bx5 scEk.n0))))) ⟨⟨0, by simp, rfl⟩, ⟨x1, rfl, scEv.at rfl⟩, ⟨x2, rfl, scEv.at rfl⟩, ⟨x3, rfl, scEv.at rfl⟩, ⟨x4, rfl, scEv.at rfl⟩, ⟨x5, rfl, scEv.at rfl⟩, trivial⟩ (fun f hf => by cases hf) hI).imp (fun r M' h => by
  obtain ⟨⟨o, ho, hr, hf9, hm⟩, h1, h2⟩ := h
  rcases List.mem_cons.mp ho with rfl | ho
  · obtain ⟨n, rfl, c1, c2⟩ := hr; exact q0 n M' ⟨c1, c2⟩ h1 h2
  rcases List.mem_cons.mp ho with rfl | ho
  · have hr : r = .inr fmIAE := hr; subst hr; exact q1 M' h1 h2
  · cases ho)
theorem sx_span {M : fmM} {a0 a1 a2 a3 a4 : Int32} (hI : scInv Tx invX M) : pvGood Tx 250 qX10_span [.ref 0, .int a0, .int a1, .int a2, .int a3, .int a4] M (fun r M' => rkI true false r ∧ scInv Tx invX M') := (wsx_span (scq_t a0) (scq_t a1) (scq_t a2) (scq_t a3) (scq_t a4) hI (fun n M' _ h1 _ => ⟨Or.inl ⟨n, rfl⟩, h1⟩) (fun M' h1 _ => ⟨Or.inr (Or.inl ⟨rfl, rfl⟩), h1⟩)).up (by decide)
theorem wsx_image {M : fmM} {Q : fmR → fmM → Prop}  (hI : scInv Tx invX M) (q0 : ∀ (n : Int32) (M' : fmM), ((-1) ≤ n.toInt ∧ n.toInt ≤ 3) → scInv Tx invX M' → scFr [(0, 13, 1), (82, 2, 1), (83, 1, 6), (84, 0, 8), (86, 1, 6), (87, 1, 6), (88, 1, 6), (89, 1, 6), (90, 1, 6), (91, 1, 6), (92, 1, 6), (93, 1, 6), (94, 1, 6), (95, 1, 6), (96, 1, 6), (97, 1, 6), (98, 1, 6), (99, 1, 6), (100, 1, 6), (101, 1, 6), (102, 0, 8), (103, 0, 8), (104, 0, 8), (105, 0, 8), (106, 0, 8), (107, 0, 8), (108, 0, 8), (109, 0, 8), (110, 0, 8), (111, 0, 8), (112, 0, 8), (113, 0, 8), (114, 0, 8), (115, 0, 8), (116, 0, 8), (117, 0, 8), (118, 2, 1), (119, 1, 6), (120, 0, 8), (122, 1, 6), (123, 1, 6), (124, 1, 6), (125, 1, 6), (126, 1, 6), (127, 1, 6), (128, 1, 6), (129, 1, 6), (130, 1, 6), (131, 1, 6), (132, 1, 6), (133, 1, 6), (134, 1, 6), (135, 1, 6), (136, 1, 6), (137, 1, 6), (138, 0, 8), (139, 0, 8), (140, 0, 8), (141, 0, 8), (142, 0, 8), (143, 0, 8), (144, 0, 8), (145, 0, 8), (146, 0, 8), (147, 0, 8), (148, 0, 8), (149, 0, 8), (150, 0, 8), (151, 0, 8), (152, 0, 8), (153, 0, 8), (154, 2, 1), (155, 1, 6), (156, 0, 8), (158, 1, 6), (159, 1, 6), (160, 1, 6), (161, 1, 6), (162, 1, 6), (163, 1, 6), (164, 1, 6), (165, 1, 6), (166, 1, 6), (167, 1, 6), (168, 1, 6), (169, 1, 6), (170, 1, 6), (171, 1, 6), (172, 1, 6), (173, 1, 6), (174, 0, 8), (175, 0, 8), (176, 0, 8), (177, 0, 8), (178, 0, 8), (179, 0, 8), (180, 0, 8), (181, 0, 8), (182, 0, 8), (183, 0, 8), (184, 0, 8), (185, 0, 8), (186, 0, 8), (187, 0, 8), (188, 0, 8), (189, 0, 8)] M M' → Q (.inl (some (.int n))) M') : pvGood Tx 2 qX10_image [.ref 0] M Q := (hh_X10_image_0 M [] [.ref 0] scEk.n0 ⟨⟨0, by simp, rfl⟩, trivial⟩ (fun f hf => by cases hf) hI).imp (fun r M' h => by
  obtain ⟨⟨o, ho, hr, hf9, hm⟩, h1, h2⟩ := h
  rcases List.mem_cons.mp ho with rfl | ho
  · obtain ⟨n, rfl, c1, c2⟩ := hr; exact q0 n M' ⟨c1, c2⟩ h1 h2
  · cases ho)
theorem sx_image {M : fmM} (hI : scInv Tx invX M) : pvGood Tx 250 qX10_image [.ref 0] M (fun r M' => rkI false false r ∧ scInv Tx invX M') := (wsx_image  hI (fun n M' _ h1 _ => ⟨Or.inl ⟨n, rfl⟩, h1⟩)).up (by decide)
theorem wsx_restore {M : fmM} {Q : fmR → fmM → Prop}  (hI : scInv Tx invX M) (q0 : ∀ (n : Int32) (M' : fmM), ((-1) ≤ n.toInt ∧ n.toInt ≤ 2) → scInv Tx invX M' → scFr [(0, 13, 2), (34, 5, 1), (46, 2, 1), (47, 1, 6), (48, 0, 8), (50, 1, 6), (51, 1, 6), (52, 1, 6), (53, 1, 6), (54, 1, 6), (55, 1, 6), (56, 1, 6), (57, 1, 6), (58, 1, 6), (59, 1, 6), (60, 1, 6), (61, 1, 6), (62, 1, 6), (63, 1, 6), (64, 1, 6), (65, 1, 6), (66, 0, 8), (67, 0, 8), (68, 0, 8), (69, 0, 8), (70, 0, 8), (71, 0, 8), (72, 0, 8), (73, 0, 8), (74, 0, 8), (75, 0, 8), (76, 0, 8), (77, 0, 8), (78, 0, 8), (79, 0, 8), (80, 0, 8), (81, 0, 8)] M M' → Q (.inl (some (.int n))) M') : pvGood Tx 2 qX10_restore [.ref 0] M Q := (hh_X10_restore_0 M [] [.ref 0] scEk.n0 ⟨⟨0, by simp, rfl⟩, trivial⟩ (fun f hf => by cases hf) hI).imp (fun r M' h => by
  obtain ⟨⟨o, ho, hr, hf9, hm⟩, h1, h2⟩ := h
  rcases List.mem_cons.mp ho with rfl | ho
  · obtain ⟨n, rfl, c1, c2⟩ := hr; exact q0 n M' ⟨c1, c2⟩ h1 h2
  · cases ho)
theorem sx_restore {M : fmM} (hI : scInv Tx invX M) : pvGood Tx 250 qX10_restore [.ref 0] M (fun r M' => rkI false false r ∧ scInv Tx invX M') := (wsx_restore  hI (fun n M' _ h1 _ => ⟨Or.inl ⟨n, rfl⟩, h1⟩)).up (by decide)
theorem wsx_status {M : fmM} {Q : fmR → fmM → Prop} {x1 : Int32} (bx1 : (-2147483648) ≤ x1.toInt ∧ x1.toInt ≤ 2147483647) (hI : scInv Tx invX M) (q0 : ∀ (n : Int32) (M' : fmM), ((-2147483648) ≤ n.toInt ∧ n.toInt ≤ 2147483647) → scInv Tx invX M' → scFr [] M M' → Q (.inl (some (.int n))) M') : pvGood Tx 0 qX10_status [.ref 0, .int x1] M Q := (hh_X10_status_0 M [x1.toInt] [.ref 0, .int x1] (scEk.c1 bx1 scEk.n0) ⟨⟨0, by simp, rfl⟩, ⟨x1, rfl, scEv.at rfl⟩, trivial⟩ (fun f hf => by cases hf) hI).imp (fun r M' h => by
  obtain ⟨⟨o, ho, hr, hf9, hm⟩, h1, h2⟩ := h
  rcases List.mem_cons.mp ho with rfl | ho
  · obtain ⟨n, rfl, c1, c2⟩ := hr; exact q0 n M' ⟨c1, c2⟩ h1 h2
  · cases ho)
theorem sx_status {M : fmM} {a0 : Int32} (hI : scInv Tx invX M) : pvGood Tx 250 qX10_status [.ref 0, .int a0] M (fun r M' => rkI false false r ∧ scInv Tx invX M') := (wsx_status (scq_t a0) hI (fun n M' _ h1 _ => ⟨Or.inl ⟨n, rfl⟩, h1⟩)).up (by decide)
theorem wsx_count {M : fmM} {Q : fmR → fmM → Prop} {x1 : Int32} (bx1 : (-2147483648) ≤ x1.toInt ∧ x1.toInt ≤ 2147483647) (hI : scInv Tx invX M) (q0 : ∀ (n : Int32) (M' : fmM), ((-1) ≤ n.toInt ∧ n.toInt ≤ 600) → scInv Tx invX M' → scFr [] M M' → Q (.inl (some (.int n))) M') : pvGood Tx 0 qX10_count [.ref 0, .int x1] M Q := (hh_X10_count_0 M [x1.toInt] [.ref 0, .int x1] (scEk.c1 bx1 scEk.n0) ⟨⟨0, by simp, rfl⟩, ⟨x1, rfl, scEv.at rfl⟩, trivial⟩ (fun f hf => by cases hf) hI).imp (fun r M' h => by
  obtain ⟨⟨o, ho, hr, hf9, hm⟩, h1, h2⟩ := h
  rcases List.mem_cons.mp ho with rfl | ho
  · obtain ⟨n, rfl, c1, c2⟩ := hr; exact q0 n M' ⟨c1, c2⟩ h1 h2
  · cases ho)
theorem sx_count {M : fmM} {a0 : Int32} (hI : scInv Tx invX M) : pvGood Tx 250 qX10_count [.ref 0, .int a0] M (fun r M' => rkI false false r ∧ scInv Tx invX M') := (wsx_count (scq_t a0) hI (fun n M' _ h1 _ => ⟨Or.inl ⟨n, rfl⟩, h1⟩)).up (by decide)
end
-- P 18b
section
theorem wsm_feed {M : fmM} {Q : fmR → fmM → Prop} {x1 : Int32} (bx1 : (-2147483648) ≤ x1.toInt ∧ x1.toInt ≤ 2147483647) {x2 : Int32} (bx2 : (-2147483648) ≤ x2.toInt ∧ x2.toInt ≤ 2147483647) {x3 : Int32} (bx3 : (-2147483648) ≤ x3.toInt ∧ x3.toInt ≤ 2147483647) {x4 : Int32} (bx4 : (-2147483648) ≤ x4.toInt ∧ x4.toInt ≤ 2147483647) {x5 : Int32} (bx5 : (-2147483648) ≤ x5.toInt ∧ x5.toInt ≤ 2147483647) (hI : scInv Tm invM M) (q0 : ∀ (n : Int32) (M' : fmM), ((-1) ≤ n.toInt ∧ n.toInt ≤ 600) → scInv Tm invM M' → scFr [(0, 0, 2), (1, 0, 600)] M M' → Q (.inl (some (.int n))) M') : pvGood Tm 0 qX11_feed [.ref 0, .int x1, .int x2, .int x3, .int x4, .int x5] M Q := (hh_X11_feed_0 M [x1.toInt, x2.toInt, x3.toInt, x4.toInt, x5.toInt] [.ref 0, .int x1, .int x2, .int x3, .int x4, .int x5] (scEk.c1 bx1 (scEk.c1 bx2 (scEk.c1 bx3 (scEk.c1 bx4 (scEk.c1 bx5 scEk.n0))))) ⟨⟨0, by simp, rfl⟩, ⟨x1, rfl, scEv.at rfl⟩, ⟨x2, rfl, scEv.at rfl⟩, ⟨x3, rfl, scEv.at rfl⟩, ⟨x4, rfl, scEv.at rfl⟩, ⟨x5, rfl, scEv.at rfl⟩, trivial⟩ (fun f hf => by cases hf) hI).imp (fun r M' h => by
  obtain ⟨⟨o, ho, hr, hf9, hm⟩, h1, h2⟩ := h
  rcases List.mem_cons.mp ho with rfl | ho
  · obtain ⟨n, rfl, c1, c2⟩ := hr; exact q0 n M' ⟨c1, c2⟩ h1 h2
  · cases ho)
theorem sm_feed {M : fmM} {a0 a1 a2 a3 a4 : Int32} (hI : scInv Tm invM M) : pvGood Tm 250 qX11_feed [.ref 0, .int a0, .int a1, .int a2, .int a3, .int a4] M (fun r M' => tI r ∧ scInv Tm invM M') := (wsm_feed (scq_t a0) (scq_t a1) (scq_t a2) (scq_t a3) (scq_t a4) hI (fun n M' _ h1 _ => ⟨⟨n, rfl⟩, h1⟩)).up (by decide)
theorem sm_drawer {M : fmM} {a0 : Int32} (hI : scInv Tm invM M) : pvGood Tm 250 qX11_drawer [.ref 0, .int a0] M (fun r M' => tI r ∧ scInv Tm invM M') := (t_drawer hI (fun r M' h1 h2 => ⟨h1, h2⟩)).up (by decide)
theorem sm_law {M : fmM} {a0 : Int32} (hI : scInv Tm invM M) : pvGood Tm 250 qX11_law [.ref 0, .int a0] M (fun r M' => tI r ∧ scInv Tm invM M') := (t_law hI (fun r M' h1 h2 => ⟨h1, h2⟩)).up (by decide)
theorem sm_work {M : fmM} {a0 : Int32} (hI : scInv Tm invM M) : pvGood Tm 250 qX11_work [.ref 0, .int a0] M (fun r M' => tI r ∧ scInv Tm invM M') := (t_work hI (fun r M' h1 h2 => ⟨h1, h2⟩)).up (by decide)
theorem sm_page {M : fmM} {a0 : Int32} (hI : scInv Tm invM M) : pvGood Tm 250 qX11_page [.ref 0, .int a0] M (fun r M' => tI r ∧ scInv Tm invM M') := (t_page hI (fun r M' h1 h2 => ⟨h1, h2⟩)).up (by decide)
theorem wsm_fault {M : fmM} {Q : fmR → fmM → Prop}  (hI : scInv Tm invM M) (q0 : ∀ (n : Int32) (M' : fmM), ((-1) ≤ n.toInt ∧ n.toInt ≤ 600) → scInv Tm invM M' → scFr [(0, 0, 1)] M M' → Q (.inl (some (.int n))) M') : pvGood Tm 0 qX11_fault [.ref 0] M Q := (hh_X11_fault_0 M [] [.ref 0] scEk.n0 ⟨⟨0, by simp, rfl⟩, trivial⟩ (fun f hf => by cases hf) hI).imp (fun r M' h => by
  obtain ⟨⟨o, ho, hr, hf9, hm⟩, h1, h2⟩ := h
  rcases List.mem_cons.mp ho with rfl | ho
  · obtain ⟨n, rfl, c1, c2⟩ := hr; exact q0 n M' ⟨c1, c2⟩ h1 h2
  · cases ho)
theorem sm_fault {M : fmM} (hI : scInv Tm invM M) : pvGood Tm 250 qX11_fault [.ref 0] M (fun r M' => tI r ∧ scInv Tm invM M') := (wsm_fault  hI (fun n M' _ h1 _ => ⟨⟨n, rfl⟩, h1⟩)).up (by decide)
theorem wsm_undo {M : fmM} {Q : fmR → fmM → Prop}  (hI : scInv Tm invM M) (q0 : ∀ (n : Int32) (M' : fmM), ((-1) ≤ n.toInt ∧ n.toInt ≤ 15) → scInv Tm invM M' → scFr [(0, 0, 1), (0, 32, 2), (7, 0, 14)] M M' → Q (.inl (some (.int n))) M') : pvGood Tm 1 qX11_undo [.ref 0] M Q := (hh_X11_undo_0 M [] [.ref 0] scEk.n0 ⟨⟨0, by simp, rfl⟩, trivial⟩ (fun f hf => by cases hf) hI).imp (fun r M' h => by
  obtain ⟨⟨o, ho, hr, hf9, hm⟩, h1, h2⟩ := h
  rcases List.mem_cons.mp ho with rfl | ho
  · obtain ⟨n, rfl, c1, c2⟩ := hr; exact q0 n M' ⟨c1, c2⟩ h1 h2
  · cases ho)
theorem sm_undo {M : fmM} (hI : scInv Tm invM M) : pvGood Tm 250 qX11_undo [.ref 0] M (fun r M' => tI r ∧ scInv Tm invM M') := (wsm_undo  hI (fun n M' _ h1 _ => ⟨⟨n, rfl⟩, h1⟩)).up (by decide)
theorem wsm_told {M : fmM} {Q : fmR → fmM → Prop} {x1 : Int32} (bx1 : (-2147483648) ≤ x1.toInt ∧ x1.toInt ≤ 2147483647) (hI : scInv Tm invM M) (q0 : ∀ (n : Int32) (M' : fmM), ((-2147483648) ≤ n.toInt ∧ n.toInt ≤ 2147483647) → scInv Tm invM M' → scFr [(0, 0, 1), (2, 1, 1)] M M' → Q (.inl (some (.int n))) M') : pvGood Tm 2 qX11_told [.ref 0, .int x1] M Q := (hh_X11_told_0 M [x1.toInt] [.ref 0, .int x1] (scEk.c1 bx1 scEk.n0) ⟨⟨0, by simp, rfl⟩, ⟨x1, rfl, scEv.at rfl⟩, trivial⟩ (fun f hf => by cases hf) hI).imp (fun r M' h => by
  obtain ⟨⟨o, ho, hr, hf9, hm⟩, h1, h2⟩ := h
  rcases List.mem_cons.mp ho with rfl | ho
  · obtain ⟨n, rfl, c1, c2⟩ := hr; exact q0 n M' ⟨c1, c2⟩ h1 h2
  · cases ho)
theorem sm_told {M : fmM} {a0 : Int32} (hI : scInv Tm invM M) : pvGood Tm 250 qX11_told [.ref 0, .int a0] M (fun r M' => tI r ∧ scInv Tm invM M') := (wsm_told (scq_t a0) hI (fun n M' _ h1 _ => ⟨⟨n, rfl⟩, h1⟩)).up (by decide)
theorem wsm_life {M : fmM} {Q : fmR → fmM → Prop} {x1 : Int32} (bx1 : (-2147483648) ≤ x1.toInt ∧ x1.toInt ≤ 2147483647) {x2 : Int32} (bx2 : (-2147483648) ≤ x2.toInt ∧ x2.toInt ≤ 2147483647) (hI : scInv Tm invM M) (q0 : ∀ (n : Int32) (M' : fmM), ((-200) ≤ n.toInt ∧ n.toInt ≤ 1200) → scInv Tm invM M' → scFr [(0, 0, 1), (2, 0, 2)] M M' → Q (.inl (some (.int n))) M') : pvGood Tm 2 qX11_life [.ref 0, .int x1, .int x2] M Q := (hh_X11_life_0 M [x1.toInt, x2.toInt] [.ref 0, .int x1, .int x2] (scEk.c1 bx1 (scEk.c1 bx2 scEk.n0)) ⟨⟨0, by simp, rfl⟩, ⟨x1, rfl, scEv.at rfl⟩, ⟨x2, rfl, scEv.at rfl⟩, trivial⟩ (fun f hf => by cases hf) hI).imp (fun r M' h => by
  obtain ⟨⟨o, ho, hr, hf9, hm⟩, h1, h2⟩ := h
  rcases List.mem_cons.mp ho with rfl | ho
  · obtain ⟨n, rfl, c1, c2⟩ := hr; exact q0 n M' ⟨c1, c2⟩ h1 h2
  · cases ho)
theorem sm_life {M : fmM} {a0 a1 : Int32} (hI : scInv Tm invM M) : pvGood Tm 250 qX11_life [.ref 0, .int a0, .int a1] M (fun r M' => tI r ∧ scInv Tm invM M') := (wsm_life (scq_t a0) (scq_t a1) hI (fun n M' _ h1 _ => ⟨⟨n, rfl⟩, h1⟩)).up (by decide)
theorem wsm_facts {M : fmM} {Q : fmR → fmM → Prop} {x1 : Int32} (bx1 : (-2147483648) ≤ x1.toInt ∧ x1.toInt ≤ 2147483647) (hI : scInv Tm invM M) (q0 : ∀ (n : Int32) (M' : fmM), ((-2147483648) ≤ n.toInt ∧ n.toInt ≤ 2147483647) → scInv Tm invM M' → scFr [(0, 0, 1), (2, 0, 1)] M M' → Q (.inl (some (.int n))) M') : pvGood Tm 2 qX11_facts [.ref 0, .int x1] M Q := (hh_X11_facts_0 M [x1.toInt] [.ref 0, .int x1] (scEk.c1 bx1 scEk.n0) ⟨⟨0, by simp, rfl⟩, ⟨x1, rfl, scEv.at rfl⟩, trivial⟩ (fun f hf => by cases hf) hI).imp (fun r M' h => by
  obtain ⟨⟨o, ho, hr, hf9, hm⟩, h1, h2⟩ := h
  rcases List.mem_cons.mp ho with rfl | ho
  · obtain ⟨n, rfl, c1, c2⟩ := hr; exact q0 n M' ⟨c1, c2⟩ h1 h2
  · cases ho)
theorem sm_facts {M : fmM} {a0 : Int32} (hI : scInv Tm invM M) : pvGood Tm 250 qX11_facts [.ref 0, .int a0] M (fun r M' => tI r ∧ scInv Tm invM M') := (wsm_facts (scq_t a0) hI (fun n M' _ h1 _ => ⟨⟨n, rfl⟩, h1⟩)).up (by decide)
theorem wsm_wrong {M : fmM} {Q : fmR → fmM → Prop} {x1 : Int32} (bx1 : (-2147483648) ≤ x1.toInt ∧ x1.toInt ≤ 2147483647) (hI : scInv Tm invM M) (q0 : ∀ (n : Int32) (M' : fmM), ((-1) ≤ n.toInt ∧ n.toInt ≤ 64) → scInv Tm invM M' → scFr [(0, 0, 1), (2, 0, 1), (5, 0, 160), (6, 0, 5)] M M' → Q (.inl (some (.int n))) M') : pvGood Tm 7 qX11_wrong [.ref 0, .int x1] M Q := (hh_X11_wrong_0 M [x1.toInt] [.ref 0, .int x1] (scEk.c1 bx1 scEk.n0) ⟨⟨0, by simp, rfl⟩, ⟨x1, rfl, scEv.at rfl⟩, trivial⟩ (fun f hf => by cases hf) hI).imp (fun r M' h => by
  obtain ⟨⟨o, ho, hr, hf9, hm⟩, h1, h2⟩ := h
  rcases List.mem_cons.mp ho with rfl | ho
  · obtain ⟨n, rfl, c1, c2⟩ := hr; exact q0 n M' ⟨c1, c2⟩ h1 h2
  · cases ho)
theorem sm_wrong {M : fmM} {a0 : Int32} (hI : scInv Tm invM M) : pvGood Tm 250 qX11_wrong [.ref 0, .int a0] M (fun r M' => tI r ∧ scInv Tm invM M') := (wsm_wrong (scq_t a0) hI (fun n M' _ h1 _ => ⟨⟨n, rfl⟩, h1⟩)).up (by decide)
theorem wsm_would {M : fmM} {Q : fmR → fmM → Prop} {x1 : Int32} (bx1 : (-2147483648) ≤ x1.toInt ∧ x1.toInt ≤ 2147483647) {x2 : Int32} (bx2 : (-2147483648) ≤ x2.toInt ∧ x2.toInt ≤ 2147483647) {x3 : Int32} (bx3 : (-2147483648) ≤ x3.toInt ∧ x3.toInt ≤ 2147483647) {x4 : Int32} (bx4 : (-2147483648) ≤ x4.toInt ∧ x4.toInt ≤ 2147483647) {x5 : Int32} (bx5 : (-2147483648) ≤ x5.toInt ∧ x5.toInt ≤ 2147483647) (hI : scInv Tm invM M) (q0 : ∀ (n : Int32) (M' : fmM), (0 ≤ n.toInt ∧ n.toInt ≤ 64) → scInv Tm invM M' → scFr [(0, 0, 1), (2, 1, 1), (5, 0, 160), (6, 0, 5)] M M' → Q (.inl (some (.int n))) M') : pvGood Tm 5 qX11_would [.ref 0, .int x1, .int x2, .int x3, .int x4, .int x5] M Q := (hh_X11_would_0 M [x1.toInt, x2.toInt, x3.toInt, x4.toInt, x5.toInt] [.ref 0, .int x1, .int x2, .int x3, .int x4, .int x5] (scEk.c1 bx1 (scEk.c1 bx2 (scEk.c1 bx3 (scEk.c1 bx4 (scEk.c1 bx5 scEk.n0))))) ⟨⟨0, by simp, rfl⟩, ⟨x1, rfl, scEv.at rfl⟩, ⟨x2, rfl, scEv.at rfl⟩, ⟨x3, rfl, scEv.at rfl⟩, ⟨x4, rfl, scEv.at rfl⟩, ⟨x5, rfl, scEv.at rfl⟩, trivial⟩ (fun f hf => by cases hf) hI).imp (fun r M' h => by
  obtain ⟨⟨o, ho, hr, hf9, hm⟩, h1, h2⟩ := h
  rcases List.mem_cons.mp ho with rfl | ho
  · obtain ⟨n, rfl, c1, c2⟩ := hr; exact q0 n M' ⟨c1, c2⟩ h1 h2
  · cases ho)
theorem sm_would {M : fmM} {a0 a1 a2 a3 a4 : Int32} (hI : scInv Tm invM M) : pvGood Tm 250 qX11_would [.ref 0, .int a0, .int a1, .int a2, .int a3, .int a4] M (fun r M' => tI r ∧ scInv Tm invM M') := (wsm_would (scq_t a0) (scq_t a1) (scq_t a2) (scq_t a3) (scq_t a4) hI (fun n M' _ h1 _ => ⟨⟨n, rfl⟩, h1⟩)).up (by decide)
theorem wsm_loss {M : fmM} {Q : fmR → fmM → Prop} {x1 : Int32} (bx1 : (-2147483648) ≤ x1.toInt ∧ x1.toInt ≤ 2147483647) (hI : scInv Tm invM M) (q0 : ∀ (n : Int64) (M' : fmM), ((-9223372036854775808) ≤ n.toInt ∧ n.toInt ≤ 9223372036854775807) → scInv Tm invM M' → scFr [(0, 0, 1), (2, 1, 1)] M M' → Q (.inl (some (.long n))) M') : pvGood Tm 2 qX11_loss [.ref 0, .int x1] M Q := (hh_X11_loss_0 M [x1.toInt] [.ref 0, .int x1] (scEk.c1 bx1 scEk.n0) ⟨⟨0, by simp, rfl⟩, ⟨x1, rfl, scEv.at rfl⟩, trivial⟩ (fun f hf => by cases hf) hI).imp (fun r M' h => by
  obtain ⟨⟨o, ho, hr, hf9, hm⟩, h1, h2⟩ := h
  rcases List.mem_cons.mp ho with rfl | ho
  · obtain ⟨n, rfl, c1, c2⟩ := hr; exact q0 n M' ⟨c1, c2⟩ h1 h2
  · cases ho)
theorem sm_loss {M : fmM} {a0 : Int32} (hI : scInv Tm invM M) : pvGood Tm 250 qX11_loss [.ref 0, .int a0] M (fun r M' => tJ r ∧ scInv Tm invM M') := (wsm_loss (scq_t a0) hI (fun n M' _ h1 _ => ⟨⟨n, rfl⟩, h1⟩)).up (by decide)
theorem wsm_cost {M : fmM} {Q : fmR → fmM → Prop} {x1 : Int32} (bx1 : (-2147483648) ≤ x1.toInt ∧ x1.toInt ≤ 2147483647) {x2 : Int32} (bx2 : (-2147483648) ≤ x2.toInt ∧ x2.toInt ≤ 2147483647) (hI : scInv Tm invM M) (q0 : ∀ (n : Int64) (M' : fmM), ((-9223372036854775808) ≤ n.toInt ∧ n.toInt ≤ 9223372036854775807) → scInv Tm invM M' → scFr [(0, 0, 1), (2, 0, 2), (5, 0, 160), (6, 0, 5)] M M' → Q (.inl (some (.long n))) M') : pvGood Tm 8 qX11_cost [.ref 0, .int x1, .int x2] M Q := (hh_X11_cost_0 M [x1.toInt, x2.toInt] [.ref 0, .int x1, .int x2] (scEk.c1 bx1 (scEk.c1 bx2 scEk.n0)) ⟨⟨0, by simp, rfl⟩, ⟨x1, rfl, scEv.at rfl⟩, ⟨x2, rfl, scEv.at rfl⟩, trivial⟩ (fun f hf => by cases hf) hI).imp (fun r M' h => by
  obtain ⟨⟨o, ho, hr, hf9, hm⟩, h1, h2⟩ := h
  rcases List.mem_cons.mp ho with rfl | ho
  · obtain ⟨n, rfl, c1, c2⟩ := hr; exact q0 n M' ⟨c1, c2⟩ h1 h2
  · cases ho)
theorem sm_cost {M : fmM} {a0 a1 : Int32} (hI : scInv Tm invM M) : pvGood Tm 250 qX11_cost [.ref 0, .int a0, .int a1] M (fun r M' => tJ r ∧ scInv Tm invM M') := (wsm_cost (scq_t a0) (scq_t a1) hI (fun n M' _ h1 _ => ⟨⟨n, rfl⟩, h1⟩)).up (by decide)
theorem wsm_risk {M : fmM} {Q : fmR → fmM → Prop} {x1 : Int32} (bx1 : (-2147483648) ≤ x1.toInt ∧ x1.toInt ≤ 2147483647) (hI : scInv Tm invM M) (q0 : ∀ (n : Int64) (M' : fmM), ((-9223372036854775808) ≤ n.toInt ∧ n.toInt ≤ 9223372036854775807) → scInv Tm invM M' → scFr [(0, 0, 1), (2, 1, 1), (5, 0, 160), (6, 0, 5)] M M' → Q (.inl (some (.long n))) M') : pvGood Tm 9 qX11_risk [.ref 0, .int x1] M Q := (hh_X11_risk_0 M [x1.toInt] [.ref 0, .int x1] (scEk.c1 bx1 scEk.n0) ⟨⟨0, by simp, rfl⟩, ⟨x1, rfl, scEv.at rfl⟩, trivial⟩ (fun f hf => by cases hf) hI).imp (fun r M' h => by
  obtain ⟨⟨o, ho, hr, hf9, hm⟩, h1, h2⟩ := h
  rcases List.mem_cons.mp ho with rfl | ho
  · obtain ⟨n, rfl, c1, c2⟩ := hr; exact q0 n M' ⟨c1, c2⟩ h1 h2
  · cases ho)
theorem sm_risk {M : fmM} {a0 : Int32} (hI : scInv Tm invM M) : pvGood Tm 250 qX11_risk [.ref 0, .int a0] M (fun r M' => tJ r ∧ scInv Tm invM M') := (wsm_risk (scq_t a0) hI (fun n M' _ h1 _ => ⟨⟨n, rfl⟩, h1⟩)).up (by decide)
theorem sm_saves {M : fmM} {a0 a1 : Int32} (hI : scInv Tm invM M) : pvGood Tm 250 qX11_saves [.ref 0, .int a0, .int a1] M (fun r M' => tJ r ∧ scInv Tm invM M') := (t_saves hI (fun r M' h1 h2 => ⟨h1, h2⟩)).up (by decide)
theorem wsm_first {M : fmM} {Q : fmR → fmM → Prop}  (hI : scInv Tm invM M) (q0 : ∀ (n : Int32) (M' : fmM), ((-1) ≤ n.toInt ∧ n.toInt ≤ 7) → scInv Tm invM M' → scFr [(0, 0, 1), (5, 0, 160), (6, 0, 5)] M M' → Q (.inl (some (.int n))) M') : pvGood Tm 10 qX11_first [.ref 0] M Q := (hh_X11_first_0 M [] [.ref 0] scEk.n0 ⟨⟨0, by simp, rfl⟩, trivial⟩ (fun f hf => by cases hf) hI).imp (fun r M' h => by
  obtain ⟨⟨o, ho, hr, hf9, hm⟩, h1, h2⟩ := h
  rcases List.mem_cons.mp ho with rfl | ho
  · obtain ⟨n, rfl, c1, c2⟩ := hr; exact q0 n M' ⟨c1, c2⟩ h1 h2
  · cases ho)
theorem sm_first {M : fmM} (hI : scInv Tm invM M) : pvGood Tm 250 qX11_first [.ref 0] M (fun r M' => tI r ∧ scInv Tm invM M') := (wsm_first  hI (fun n M' _ h1 _ => ⟨⟨n, rfl⟩, h1⟩)).up (by decide)
theorem wsm_lacking {M : fmM} {Q : fmR → fmM → Prop}  (hI : scInv Tm invM M) (q0 : ∀ (n : Int32) (M' : fmM), ((-2147483648) ≤ n.toInt ∧ n.toInt ≤ 2147483647) → scInv Tm invM M' → scFr [(0, 0, 1)] M M' → Q (.inl (some (.int n))) M') : pvGood Tm 1 qX11_lacking [.ref 0] M Q := (hh_X11_lacking_0 M [] [.ref 0] scEk.n0 ⟨⟨0, by simp, rfl⟩, trivial⟩ (fun f hf => by cases hf) hI).imp (fun r M' h => by
  obtain ⟨⟨o, ho, hr, hf9, hm⟩, h1, h2⟩ := h
  rcases List.mem_cons.mp ho with rfl | ho
  · obtain ⟨n, rfl, c1, c2⟩ := hr; exact q0 n M' ⟨c1, c2⟩ h1 h2
  · cases ho)
theorem sm_lacking {M : fmM} (hI : scInv Tm invM M) : pvGood Tm 250 qX11_lacking [.ref 0] M (fun r M' => tI r ∧ scInv Tm invM M') := (wsm_lacking  hI (fun n M' _ h1 _ => ⟨⟨n, rfl⟩, h1⟩)).up (by decide)
theorem wsm_signed {M : fmM} {Q : fmR → fmM → Prop}  (hI : scInv Tm invM M) (q0 : ∀ (n : Int32) (M' : fmM), ((-2147483648) ≤ n.toInt ∧ n.toInt ≤ 2147483647) → scInv Tm invM M' → scFr [(0, 0, 1)] M M' → Q (.inl (some (.int n))) M') : pvGood Tm 2 qX11_signed [.ref 0] M Q := (hh_X11_signed_0 M [] [.ref 0] scEk.n0 ⟨⟨0, by simp, rfl⟩, trivial⟩ (fun f hf => by cases hf) hI).imp (fun r M' h => by
  obtain ⟨⟨o, ho, hr, hf9, hm⟩, h1, h2⟩ := h
  rcases List.mem_cons.mp ho with rfl | ho
  · obtain ⟨n, rfl, c1, c2⟩ := hr; exact q0 n M' ⟨c1, c2⟩ h1 h2
  · cases ho)
theorem sm_signed {M : fmM} (hI : scInv Tm invM M) : pvGood Tm 250 qX11_signed [.ref 0] M (fun r M' => tI r ∧ scInv Tm invM M') := (wsm_signed  hI (fun n M' _ h1 _ => ⟨⟨n, rfl⟩, h1⟩)).up (by decide)
theorem wsm_stale {M : fmM} {Q : fmR → fmM → Prop} {x1 : Int32} (bx1 : (-2147483648) ≤ x1.toInt ∧ x1.toInt ≤ 2147483647) (hI : scInv Tm invM M) (q0 : ∀ (n : Int32) (M' : fmM), ((-2147483648) ≤ n.toInt ∧ n.toInt ≤ 2147483647) → scInv Tm invM M' → scFr [(0, 0, 1), (2, 1, 1), (5, 0, 160), (6, 0, 5)] M M' → Q (.inl (some (.int n))) M') : pvGood Tm 7 qX11_stale [.ref 0, .int x1] M Q := (hh_X11_stale_0 M [x1.toInt] [.ref 0, .int x1] (scEk.c1 bx1 scEk.n0) ⟨⟨0, by simp, rfl⟩, ⟨x1, rfl, scEv.at rfl⟩, trivial⟩ (fun f hf => by cases hf) hI).imp (fun r M' h => by
  obtain ⟨⟨o, ho, hr, hf9, hm⟩, h1, h2⟩ := h
  rcases List.mem_cons.mp ho with rfl | ho
  · obtain ⟨n, rfl, c1, c2⟩ := hr; exact q0 n M' ⟨c1, c2⟩ h1 h2
  · cases ho)
theorem sm_stale {M : fmM} {a0 : Int32} (hI : scInv Tm invM M) : pvGood Tm 250 qX11_stale [.ref 0, .int a0] M (fun r M' => tI r ∧ scInv Tm invM M') := (wsm_stale (scq_t a0) hI (fun n M' _ h1 _ => ⟨⟨n, rfl⟩, h1⟩)).up (by decide)
theorem wsm_best {M : fmM} {Q : fmR → fmM → Prop} {x1 : Int32} (bx1 : (-2147483648) ≤ x1.toInt ∧ x1.toInt ≤ 2147483647) {x2 : Int32} (bx2 : (-2147483648) ≤ x2.toInt ∧ x2.toInt ≤ 2147483647) (hI : scInv Tm invM M) (q0 : ∀ (n : Int64) (M' : fmM), ((-9223372036854775808) ≤ n.toInt ∧ n.toInt ≤ 9223372036854775807) → scInv Tm invM M' → scFr [(0, 0, 1), (0, 43, 1), (2, 1, 1), (5, 0, 160), (6, 0, 5), (9, 0, 2197), (10, 0, 2197), (11, 0, 2197), (12, 0, 2197), (13, 0, 3)] M M' → Q (.inl (some (.long n))) M') : pvGood Tm 9 qX11_best [.ref 0, .int x1, .int x2] M Q := (hh_X11_best_0 M [x1.toInt, x2.toInt] [.ref 0, .int x1, .int x2] (scEk.c1 bx1 (scEk.c1 bx2 scEk.n0)) ⟨⟨0, by simp, rfl⟩, ⟨x1, rfl, scEv.at rfl⟩, ⟨x2, rfl, scEv.at rfl⟩, trivial⟩ (fun f hf => by cases hf) hI).imp (fun r M' h => by
  obtain ⟨⟨o, ho, hr, hf9, hm⟩, h1, h2⟩ := h
  rcases List.mem_cons.mp ho with rfl | ho
  · obtain ⟨n, rfl, c1, c2⟩ := hr; exact q0 n M' ⟨c1, c2⟩ h1 h2
  · cases ho)
theorem sm_best {M : fmM} {a0 a1 : Int32} (hI : scInv Tm invM M) : pvGood Tm 250 qX11_best [.ref 0, .int a0, .int a1] M (fun r M' => tJ r ∧ scInv Tm invM M') := (wsm_best (scq_t a0) (scq_t a1) hI (fun n M' _ h1 _ => ⟨⟨n, rfl⟩, h1⟩)).up (by decide)
theorem wsm_bestIn {M : fmM} {Q : fmR → fmM → Prop} {x1 : Int32} (bx1 : (-2147483648) ≤ x1.toInt ∧ x1.toInt ≤ 2147483647) {x2 : Int32} (bx2 : (-2147483648) ≤ x2.toInt ∧ x2.toInt ≤ 2147483647) (hI : scInv Tm invM M) (q0 : ∀ (n : Int32) (M' : fmM), ((-2147483648) ≤ n.toInt ∧ n.toInt ≤ 2147483647) → scInv Tm invM M' → scFr [(0, 0, 1), (0, 43, 1), (2, 1, 1), (5, 0, 160), (6, 0, 5), (9, 0, 2197), (10, 0, 2197), (11, 0, 2197), (12, 0, 2197), (13, 0, 3)] M M' → Q (.inl (some (.int n))) M') : pvGood Tm 9 qX11_bestIn [.ref 0, .int x1, .int x2] M Q := (hh_X11_bestIn_0 M [x1.toInt, x2.toInt] [.ref 0, .int x1, .int x2] (scEk.c1 bx1 (scEk.c1 bx2 scEk.n0)) ⟨⟨0, by simp, rfl⟩, ⟨x1, rfl, scEv.at rfl⟩, ⟨x2, rfl, scEv.at rfl⟩, trivial⟩ (fun f hf => by cases hf) hI).imp (fun r M' h => by
  obtain ⟨⟨o, ho, hr, hf9, hm⟩, h1, h2⟩ := h
  rcases List.mem_cons.mp ho with rfl | ho
  · obtain ⟨n, rfl, c1, c2⟩ := hr; exact q0 n M' ⟨c1, c2⟩ h1 h2
  · cases ho)
theorem sm_bestIn {M : fmM} {a0 a1 : Int32} (hI : scInv Tm invM M) : pvGood Tm 250 qX11_bestIn [.ref 0, .int a0, .int a1] M (fun r M' => tI r ∧ scInv Tm invM M') := (wsm_bestIn (scq_t a0) (scq_t a1) hI (fun n M' _ h1 _ => ⟨⟨n, rfl⟩, h1⟩)).up (by decide)
theorem wsm_often {M : fmM} {Q : fmR → fmM → Prop} {x1 : Int32} (bx1 : (-2147483648) ≤ x1.toInt ∧ x1.toInt ≤ 2147483647) {x2 : Int32} (bx2 : (-2147483648) ≤ x2.toInt ∧ x2.toInt ≤ 2147483647) (hI : scInv Tm invM M) (q0 : ∀ (n : Int32) (M' : fmM), (0 ≤ n.toInt ∧ n.toInt ≤ 2147483647) → scInv Tm invM M' → scFr [(0, 0, 1), (2, 0, 2), (5, 0, 160), (6, 0, 5)] M M' → Q (.inl (some (.int n))) M') : pvGood Tm 6 qX11_often [.ref 0, .int x1, .int x2] M Q := (hh_X11_often_0 M [x1.toInt, x2.toInt] [.ref 0, .int x1, .int x2] (scEk.c1 bx1 (scEk.c1 bx2 scEk.n0)) ⟨⟨0, by simp, rfl⟩, ⟨x1, rfl, scEv.at rfl⟩, ⟨x2, rfl, scEv.at rfl⟩, trivial⟩ (fun f hf => by cases hf) hI).imp (fun r M' h => by
  obtain ⟨⟨o, ho, hr, hf9, hm⟩, h1, h2⟩ := h
  rcases List.mem_cons.mp ho with rfl | ho
  · obtain ⟨n, rfl, c1, c2⟩ := hr; exact q0 n M' ⟨c1, c2⟩ h1 h2
  · cases ho)
theorem sm_often {M : fmM} {a0 a1 : Int32} (hI : scInv Tm invM M) : pvGood Tm 250 qX11_often [.ref 0, .int a0, .int a1] M (fun r M' => tI r ∧ scInv Tm invM M') := (wsm_often (scq_t a0) (scq_t a1) hI (fun n M' _ h1 _ => ⟨⟨n, rfl⟩, h1⟩)).up (by decide)
theorem wsm_yearly {M : fmM} {Q : fmR → fmM → Prop} {x1 : Int32} (bx1 : (-2147483648) ≤ x1.toInt ∧ x1.toInt ≤ 2147483647) {x2 : Int32} (bx2 : (-2147483648) ≤ x2.toInt ∧ x2.toInt ≤ 2147483647) {x3 : Int32} (bx3 : (-2147483648) ≤ x3.toInt ∧ x3.toInt ≤ 2147483647) {x4 : Int32} (bx4 : (-2147483648) ≤ x4.toInt ∧ x4.toInt ≤ 2147483647) (hI : scInv Tm invM M) (q0 : ∀ (n : Int64) (M' : fmM), ((-9223372036854775808) ≤ n.toInt ∧ n.toInt ≤ 9223372036854775807) → scInv Tm invM M' → scFr [(0, 0, 1), (2, 0, 2), (5, 0, 160), (6, 0, 5)] M M' → Q (.inl (some (.long n))) M') : pvGood Tm 6 qX11_yearly [.ref 0, .int x1, .int x2, .int x3, .int x4] M Q := (hh_X11_yearly_0 M [x1.toInt, x2.toInt, x3.toInt, x4.toInt] [.ref 0, .int x1, .int x2, .int x3, .int x4] (scEk.c1 bx1 (scEk.c1 bx2 (scEk.c1 bx3 (scEk.c1 bx4 scEk.n0)))) ⟨⟨0, by simp, rfl⟩, ⟨x1, rfl, scEv.at rfl⟩, ⟨x2, rfl, scEv.at rfl⟩, ⟨x3, rfl, scEv.at rfl⟩, ⟨x4, rfl, scEv.at rfl⟩, trivial⟩ (fun f hf => by cases hf) hI).imp (fun r M' h => by
  obtain ⟨⟨o, ho, hr, hf9, hm⟩, h1, h2⟩ := h
  rcases List.mem_cons.mp ho with rfl | ho
  · obtain ⟨n, rfl, c1, c2⟩ := hr; exact q0 n M' ⟨c1, c2⟩ h1 h2
  · cases ho)
theorem sm_yearly {M : fmM} {a0 a1 a2 a3 : Int32} (hI : scInv Tm invM M) : pvGood Tm 250 qX11_yearly [.ref 0, .int a0, .int a1, .int a2, .int a3] M (fun r M' => tJ r ∧ scInv Tm invM M') := (wsm_yearly (scq_t a0) (scq_t a1) (scq_t a2) (scq_t a3) hI (fun n M' _ h1 _ => ⟨⟨n, rfl⟩, h1⟩)).up (by decide)
theorem wsm_brings {M : fmM} {Q : fmR → fmM → Prop} {x1 : Int32} (bx1 : (-2147483648) ≤ x1.toInt ∧ x1.toInt ≤ 2147483647) {x2 : Int32} (bx2 : (-2147483648) ≤ x2.toInt ∧ x2.toInt ≤ 2147483647) {x3 : Int32} (bx3 : (-2147483648) ≤ x3.toInt ∧ x3.toInt ≤ 2147483647) {x4 : Int32} (bx4 : (-2147483648) ≤ x4.toInt ∧ x4.toInt ≤ 2147483647) {x5 : Int32} (bx5 : (-2147483648) ≤ x5.toInt ∧ x5.toInt ≤ 2147483647) {x6 : Int32} (bx6 : (-2147483648) ≤ x6.toInt ∧ x6.toInt ≤ 2147483647) (hI : scInv Tm invM M) (q0 : ∀ (n : Int32) (M' : fmM), ((-2147483648) ≤ n.toInt ∧ n.toInt ≤ 2147483647) → scInv Tm invM M' → scFr [(0, 0, 1), (2, 1, 1)] M M' → Q (.inl (some (.int n))) M') : pvGood Tm 2 qX11_brings [.ref 0, .int x1, .int x2, .int x3, .int x4, .int x5, .int x6] M Q := (hh_X11_brings_0 M [x1.toInt, x2.toInt, x3.toInt, x4.toInt, x5.toInt, x6.toInt] [.ref 0, .int x1, .int x2, .int x3, .int x4, .int x5, .int x6] (scEk.c1 bx1 (scEk.c1 bx2 (scEk.c1 bx3 (scEk.c1 bx4 (scEk.c1 bx5 (scEk.c1 bx6 scEk.n0)))))) ⟨⟨0, by simp, rfl⟩, ⟨x1, rfl, scEv.at rfl⟩, ⟨x2, rfl, scEv.at rfl⟩, ⟨x3, rfl, scEv.at rfl⟩, ⟨x4, rfl, scEv.at rfl⟩, ⟨x5, rfl, scEv.at rfl⟩, ⟨x6, rfl, scEv.at rfl⟩, trivial⟩ (fun f hf => by cases hf) hI).imp (fun r M' h => by
  obtain ⟨⟨o, ho, hr, hf9, hm⟩, h1, h2⟩ := h
  rcases List.mem_cons.mp ho with rfl | ho
  · obtain ⟨n, rfl, c1, c2⟩ := hr; exact q0 n M' ⟨c1, c2⟩ h1 h2
  · cases ho)
theorem sm_brings {M : fmM} {a0 a1 a2 a3 a4 a5 : Int32} (hI : scInv Tm invM M) : pvGood Tm 250 qX11_brings [.ref 0, .int a0, .int a1, .int a2, .int a3, .int a4, .int a5] M (fun r M' => tI r ∧ scInv Tm invM M') := (wsm_brings (scq_t a0) (scq_t a1) (scq_t a2) (scq_t a3) (scq_t a4) (scq_t a5) hI (fun n M' _ h1 _ => ⟨⟨n, rfl⟩, h1⟩)).up (by decide)
theorem wsm_says {M : fmM} {Q : fmR → fmM → Prop} {x1 : Int32} (bx1 : (-2147483648) ≤ x1.toInt ∧ x1.toInt ≤ 2147483647) {x2 : Int32} (bx2 : (-2147483648) ≤ x2.toInt ∧ x2.toInt ≤ 2147483647) {x3 : Int32} (bx3 : (-2147483648) ≤ x3.toInt ∧ x3.toInt ≤ 2147483647) {x4 : Int32} (bx4 : (-2147483648) ≤ x4.toInt ∧ x4.toInt ≤ 2147483647) {x5 : Int32} (bx5 : (-2147483648) ≤ x5.toInt ∧ x5.toInt ≤ 2147483647) (hI : scInv Tm invM M) (q0 : ∀ (n : Int32) (M' : fmM), (0 ≤ n.toInt ∧ n.toInt ≤ 2) → scInv Tm invM M' → scFr [(0, 0, 1), (2, 1, 1)] M M' → Q (.inl (some (.int n))) M') : pvGood Tm 2 qX11_says [.ref 0, .int x1, .int x2, .int x3, .int x4, .int x5] M Q := (hh_X11_says_0 M [x1.toInt, x2.toInt, x3.toInt, x4.toInt, x5.toInt] [.ref 0, .int x1, .int x2, .int x3, .int x4, .int x5] (scEk.c1 bx1 (scEk.c1 bx2 (scEk.c1 bx3 (scEk.c1 bx4 (scEk.c1 bx5 scEk.n0))))) ⟨⟨0, by simp, rfl⟩, ⟨x1, rfl, scEv.at rfl⟩, ⟨x2, rfl, scEv.at rfl⟩, ⟨x3, rfl, scEv.at rfl⟩, ⟨x4, rfl, scEv.at rfl⟩, ⟨x5, rfl, scEv.at rfl⟩, trivial⟩ (fun f hf => by cases hf) hI).imp (fun r M' h => by
  obtain ⟨⟨o, ho, hr, hf9, hm⟩, h1, h2⟩ := h
  rcases List.mem_cons.mp ho with rfl | ho
  · obtain ⟨n, rfl, c1, c2⟩ := hr; exact q0 n M' ⟨c1, c2⟩ h1 h2
  · cases ho)
theorem sm_says {M : fmM} {a0 a1 a2 a3 a4 : Int32} (hI : scInv Tm invM M) : pvGood Tm 250 qX11_says [.ref 0, .int a0, .int a1, .int a2, .int a3, .int a4] M (fun r M' => tI r ∧ scInv Tm invM M') := (wsm_says (scq_t a0) (scq_t a1) (scq_t a2) (scq_t a3) (scq_t a4) hI (fun n M' _ h1 _ => ⟨⟨n, rfl⟩, h1⟩)).up (by decide)
theorem wsm_line {M : fmM} {Q : fmR → fmM → Prop} {x1 : Int32} (bx1 : (-2147483648) ≤ x1.toInt ∧ x1.toInt ≤ 2147483647) {x2 : Int32} (bx2 : (-2147483648) ≤ x2.toInt ∧ x2.toInt ≤ 2147483647) {x3 : Int32} (bx3 : (-2147483648) ≤ x3.toInt ∧ x3.toInt ≤ 2147483647) {x4 : Int32} (bx4 : (-2147483648) ≤ x4.toInt ∧ x4.toInt ≤ 2147483647) (hI : scInv Tm invM M) (q0 : ∀ (n : Int32) (M' : fmM), ((-1) ≤ n.toInt ∧ n.toInt ≤ 16) → scInv Tm invM M' → scFr [(0, 0, 1), (2, 1, 1)] M M' → Q (.inl (some (.int n))) M') : pvGood Tm 2 qX11_line [.ref 0, .int x1, .int x2, .int x3, .int x4] M Q := (hh_X11_line_0 M [x1.toInt, x2.toInt, x3.toInt, x4.toInt] [.ref 0, .int x1, .int x2, .int x3, .int x4] (scEk.c1 bx1 (scEk.c1 bx2 (scEk.c1 bx3 (scEk.c1 bx4 scEk.n0)))) ⟨⟨0, by simp, rfl⟩, ⟨x1, rfl, scEv.at rfl⟩, ⟨x2, rfl, scEv.at rfl⟩, ⟨x3, rfl, scEv.at rfl⟩, ⟨x4, rfl, scEv.at rfl⟩, trivial⟩ (fun f hf => by cases hf) hI).imp (fun r M' h => by
  obtain ⟨⟨o, ho, hr, hf9, hm⟩, h1, h2⟩ := h
  rcases List.mem_cons.mp ho with rfl | ho
  · obtain ⟨n, rfl, c1, c2⟩ := hr; exact q0 n M' ⟨c1, c2⟩ h1 h2
  · cases ho)
theorem sm_line {M : fmM} {a0 a1 a2 a3 : Int32} (hI : scInv Tm invM M) : pvGood Tm 250 qX11_line [.ref 0, .int a0, .int a1, .int a2, .int a3] M (fun r M' => tI r ∧ scInv Tm invM M') := (wsm_line (scq_t a0) (scq_t a1) (scq_t a2) (scq_t a3) hI (fun n M' _ h1 _ => ⟨⟨n, rfl⟩, h1⟩)).up (by decide)
theorem wsm_room {M : fmM} {Q : fmR → fmM → Prop} {x1 : Int32} (bx1 : (-2147483648) ≤ x1.toInt ∧ x1.toInt ≤ 2147483647) {x2 : Int32} (bx2 : (-2147483648) ≤ x2.toInt ∧ x2.toInt ≤ 2147483647) (hI : scInv Tm invM M) (q0 : ∀ (n : Int32) (M' : fmM), ((-2147483648) ≤ n.toInt ∧ n.toInt ≤ 2147483647) → scInv Tm invM M' → scFr [(0, 0, 1), (0, 46, 1), (2, 1, 1), (14, 0, 8), (15, 0, 8)] M M' → Q (.inl (some (.int n))) M') : pvGood Tm 10 qX11_room [.ref 0, .int x1, .int x2] M Q := (hh_X11_room_0 M [x1.toInt, x2.toInt] [.ref 0, .int x1, .int x2] (scEk.c1 bx1 (scEk.c1 bx2 scEk.n0)) ⟨⟨0, by simp, rfl⟩, ⟨x1, rfl, scEv.at rfl⟩, ⟨x2, rfl, scEv.at rfl⟩, trivial⟩ (fun f hf => by cases hf) hI).imp (fun r M' h => by
  obtain ⟨⟨o, ho, hr, hf9, hm⟩, h1, h2⟩ := h
  rcases List.mem_cons.mp ho with rfl | ho
  · obtain ⟨n, rfl, c1, c2⟩ := hr; exact q0 n M' ⟨c1, c2⟩ h1 h2
  · cases ho)
theorem sm_room {M : fmM} {a0 a1 : Int32} (hI : scInv Tm invM M) : pvGood Tm 250 qX11_room [.ref 0, .int a0, .int a1] M (fun r M' => tI r ∧ scInv Tm invM M') := (wsm_room (scq_t a0) (scq_t a1) hI (fun n M' _ h1 _ => ⟨⟨n, rfl⟩, h1⟩)).up (by decide)
theorem wsm_lines {M : fmM} {Q : fmR → fmM → Prop} {x1 : Int32} (bx1 : (-2147483648) ≤ x1.toInt ∧ x1.toInt ≤ 2147483647) {x2 : Int32} (bx2 : (-2147483648) ≤ x2.toInt ∧ x2.toInt ≤ 2147483647) {x3 : Int32} (bx3 : (-2147483648) ≤ x3.toInt ∧ x3.toInt ≤ 2147483647) (hI : scInv Tm invM M) (q0 : ∀ (n : Int32) (M' : fmM), (0 ≤ n.toInt ∧ n.toInt ≤ 99) → scInv Tm invM M' → scFr [(0, 0, 1), (0, 46, 1), (2, 0, 2), (14, 0, 8), (15, 0, 8)] M M' → Q (.inl (some (.int n))) M') : pvGood Tm 10 qX11_lines [.ref 0, .int x1, .int x2, .int x3] M Q := (hh_X11_lines_0 M [x1.toInt, x2.toInt, x3.toInt] [.ref 0, .int x1, .int x2, .int x3] (scEk.c1 bx1 (scEk.c1 bx2 (scEk.c1 bx3 scEk.n0))) ⟨⟨0, by simp, rfl⟩, ⟨x1, rfl, scEv.at rfl⟩, ⟨x2, rfl, scEv.at rfl⟩, ⟨x3, rfl, scEv.at rfl⟩, trivial⟩ (fun f hf => by cases hf) hI).imp (fun r M' h => by
  obtain ⟨⟨o, ho, hr, hf9, hm⟩, h1, h2⟩ := h
  rcases List.mem_cons.mp ho with rfl | ho
  · obtain ⟨n, rfl, c1, c2⟩ := hr; exact q0 n M' ⟨c1, c2⟩ h1 h2
  · cases ho)
theorem sm_lines {M : fmM} {a0 a1 a2 : Int32} (hI : scInv Tm invM M) : pvGood Tm 250 qX11_lines [.ref 0, .int a0, .int a1, .int a2] M (fun r M' => tI r ∧ scInv Tm invM M') := (wsm_lines (scq_t a0) (scq_t a1) (scq_t a2) hI (fun n M' _ h1 _ => ⟨⟨n, rfl⟩, h1⟩)).up (by decide)
theorem wsm_apart {M : fmM} {Q : fmR → fmM → Prop} {x1 : Int32} (bx1 : (-2147483648) ≤ x1.toInt ∧ x1.toInt ≤ 2147483647) {x2 : Int32} (bx2 : (-2147483648) ≤ x2.toInt ∧ x2.toInt ≤ 2147483647) (hI : scInv Tm invM M) (q0 : ∀ (n : Int32) (M' : fmM), ((-2147483648) ≤ n.toInt ∧ n.toInt ≤ 2147483647) → scInv Tm invM M' → scFr [(0, 0, 1), (2, 1, 1)] M M' → Q (.inl (some (.int n))) M') : pvGood Tm 2 qX11_apart [.ref 0, .int x1, .int x2] M Q := (hh_X11_apart_0 M [x1.toInt, x2.toInt] [.ref 0, .int x1, .int x2] (scEk.c1 bx1 (scEk.c1 bx2 scEk.n0)) ⟨⟨0, by simp, rfl⟩, ⟨x1, rfl, scEv.at rfl⟩, ⟨x2, rfl, scEv.at rfl⟩, trivial⟩ (fun f hf => by cases hf) hI).imp (fun r M' h => by
  obtain ⟨⟨o, ho, hr, hf9, hm⟩, h1, h2⟩ := h
  rcases List.mem_cons.mp ho with rfl | ho
  · obtain ⟨n, rfl, c1, c2⟩ := hr; exact q0 n M' ⟨c1, c2⟩ h1 h2
  · cases ho)
theorem sm_apart {M : fmM} {a0 a1 : Int32} (hI : scInv Tm invM M) : pvGood Tm 250 qX11_apart [.ref 0, .int a0, .int a1] M (fun r M' => tI r ∧ scInv Tm invM M') := (wsm_apart (scq_t a0) (scq_t a1) hI (fun n M' _ h1 _ => ⟨⟨n, rfl⟩, h1⟩)).up (by decide)
theorem wsm_twins {M : fmM} {Q : fmR → fmM → Prop}  (hI : scInv Tm invM M) (q0 : ∀ (n : Int32) (M' : fmM), ((-1) ≤ n.toInt ∧ n.toInt ≤ 77) → scInv Tm invM M' → scFr [(0, 0, 1)] M M' → Q (.inl (some (.int n))) M') : pvGood Tm 1 qX11_twins [.ref 0] M Q := (hh_X11_twins_0 M [] [.ref 0] scEk.n0 ⟨⟨0, by simp, rfl⟩, trivial⟩ (fun f hf => by cases hf) hI).imp (fun r M' h => by
  obtain ⟨⟨o, ho, hr, hf9, hm⟩, h1, h2⟩ := h
  rcases List.mem_cons.mp ho with rfl | ho
  · obtain ⟨n, rfl, c1, c2⟩ := hr; exact q0 n M' ⟨c1, c2⟩ h1 h2
  · cases ho)
theorem sm_twins {M : fmM} (hI : scInv Tm invM M) : pvGood Tm 250 qX11_twins [.ref 0] M (fun r M' => tI r ∧ scInv Tm invM M') := (wsm_twins  hI (fun n M' _ h1 _ => ⟨⟨n, rfl⟩, h1⟩)).up (by decide)
theorem wsm_written {M : fmM} {Q : fmR → fmM → Prop} {x1 : Int32} (bx1 : (-2147483648) ≤ x1.toInt ∧ x1.toInt ≤ 2147483647) (hI : scInv Tm invM M) (q0 : ∀ (n : Int64) (M' : fmM), ((-9223372036854775808) ≤ n.toInt ∧ n.toInt ≤ 9223372036854775807) → scInv Tm invM M' → scFr [(0, 0, 1), (2, 0, 1)] M M' → Q (.inl (some (.long n))) M') : pvGood Tm 2 qX11_written [.ref 0, .int x1] M Q := (hh_X11_written_0 M [x1.toInt] [.ref 0, .int x1] (scEk.c1 bx1 scEk.n0) ⟨⟨0, by simp, rfl⟩, ⟨x1, rfl, scEv.at rfl⟩, trivial⟩ (fun f hf => by cases hf) hI).imp (fun r M' h => by
  obtain ⟨⟨o, ho, hr, hf9, hm⟩, h1, h2⟩ := h
  rcases List.mem_cons.mp ho with rfl | ho
  · obtain ⟨n, rfl, c1, c2⟩ := hr; exact q0 n M' ⟨c1, c2⟩ h1 h2
  · cases ho)
theorem sm_written {M : fmM} {a0 : Int32} (hI : scInv Tm invM M) : pvGood Tm 250 qX11_written [.ref 0, .int a0] M (fun r M' => tJ r ∧ scInv Tm invM M') := (wsm_written (scq_t a0) hI (fun n M' _ h1 _ => ⟨⟨n, rfl⟩, h1⟩)).up (by decide)
theorem wsm_whose {M : fmM} {Q : fmR → fmM → Prop}  (hI : scInv Tm invM M) (q0 : ∀ (n : Int32) (M' : fmM), ((-2147483648) ≤ n.toInt ∧ n.toInt ≤ 2147483647) → scInv Tm invM M' → scFr [(0, 0, 1)] M M' → Q (.inl (some (.int n))) M') : pvGood Tm 2 qX11_whose [.ref 0] M Q := (hh_X11_whose_0 M [] [.ref 0] scEk.n0 ⟨⟨0, by simp, rfl⟩, trivial⟩ (fun f hf => by cases hf) hI).imp (fun r M' h => by
  obtain ⟨⟨o, ho, hr, hf9, hm⟩, h1, h2⟩ := h
  rcases List.mem_cons.mp ho with rfl | ho
  · obtain ⟨n, rfl, c1, c2⟩ := hr; exact q0 n M' ⟨c1, c2⟩ h1 h2
  · cases ho)
theorem sm_whose {M : fmM} (hI : scInv Tm invM M) : pvGood Tm 250 qX11_whose [.ref 0] M (fun r M' => tI r ∧ scInv Tm invM M') := (wsm_whose  hI (fun n M' _ h1 _ => ⟨⟨n, rfl⟩, h1⟩)).up (by decide)
theorem wsm_ahead {M : fmM} {Q : fmR → fmM → Prop} {x1 : Int32} (bx1 : (-2147483648) ≤ x1.toInt ∧ x1.toInt ≤ 2147483647) {x2 : Int32} (bx2 : (-2147483648) ≤ x2.toInt ∧ x2.toInt ≤ 2147483647) (hI : scInv Tm invM M) (q0 : ∀ (n : Int64) (M' : fmM), ((-9223372036854775808) ≤ n.toInt ∧ n.toInt ≤ 9223372036854775807) → scInv Tm invM M' → scFr [(0, 0, 1), (2, 1, 1), (5, 0, 160), (6, 0, 5), (8, 0, 14)] M M' → Q (.inl (some (.long n))) M') : pvGood Tm 10 qX11_ahead [.ref 0, .int x1, .int x2] M Q := (hh_X11_ahead_0 M [x1.toInt, x2.toInt] [.ref 0, .int x1, .int x2] (scEk.c1 bx1 (scEk.c1 bx2 scEk.n0)) ⟨⟨0, by simp, rfl⟩, ⟨x1, rfl, scEv.at rfl⟩, ⟨x2, rfl, scEv.at rfl⟩, trivial⟩ (fun f hf => by cases hf) hI).imp (fun r M' h => by
  obtain ⟨⟨o, ho, hr, hf9, hm⟩, h1, h2⟩ := h
  rcases List.mem_cons.mp ho with rfl | ho
  · obtain ⟨n, rfl, c1, c2⟩ := hr; exact q0 n M' ⟨c1, c2⟩ h1 h2
  · cases ho)
theorem sm_ahead {M : fmM} {a0 a1 : Int32} (hI : scInv Tm invM M) : pvGood Tm 250 qX11_ahead [.ref 0, .int a0, .int a1] M (fun r M' => tJ r ∧ scInv Tm invM M') := (wsm_ahead (scq_t a0) (scq_t a1) hI (fun n M' _ h1 _ => ⟨⟨n, rfl⟩, h1⟩)).up (by decide)
theorem wsm_lives {M : fmM} {Q : fmR → fmM → Prop} {x1 : Int32} (bx1 : (-2147483648) ≤ x1.toInt ∧ x1.toInt ≤ 2147483647) {x2 : Int32} (bx2 : (-2147483648) ≤ x2.toInt ∧ x2.toInt ≤ 2147483647) {x3 : Int32} (bx3 : (-2147483648) ≤ x3.toInt ∧ x3.toInt ≤ 2147483647) (hI : scInv Tm invM M) (q0 : ∀ (n : Int64) (M' : fmM), ((-9223372036854775808) ≤ n.toInt ∧ n.toInt ≤ 9223372036854775807) → scInv Tm invM M' → scFr [(0, 0, 1), (2, 0, 2)] M M' → Q (.inl (some (.long n))) M') : pvGood Tm 2 qX11_lives [.ref 0, .int x1, .int x2, .int x3] M Q := (hh_X11_lives_0 M [x1.toInt, x2.toInt, x3.toInt] [.ref 0, .int x1, .int x2, .int x3] (scEk.c1 bx1 (scEk.c1 bx2 (scEk.c1 bx3 scEk.n0))) ⟨⟨0, by simp, rfl⟩, ⟨x1, rfl, scEv.at rfl⟩, ⟨x2, rfl, scEv.at rfl⟩, ⟨x3, rfl, scEv.at rfl⟩, trivial⟩ (fun f hf => by cases hf) hI).imp (fun r M' h => by
  obtain ⟨⟨o, ho, hr, hf9, hm⟩, h1, h2⟩ := h
  rcases List.mem_cons.mp ho with rfl | ho
  · obtain ⟨n, rfl, c1, c2⟩ := hr; exact q0 n M' ⟨c1, c2⟩ h1 h2
  · cases ho)
theorem sm_lives {M : fmM} {a0 a1 a2 : Int32} (hI : scInv Tm invM M) : pvGood Tm 250 qX11_lives [.ref 0, .int a0, .int a1, .int a2] M (fun r M' => tJ r ∧ scInv Tm invM M') := (wsm_lives (scq_t a0) (scq_t a1) (scq_t a2) hI (fun n M' _ h1 _ => ⟨⟨n, rfl⟩, h1⟩)).up (by decide)
theorem wsm_oldest {M : fmM} {Q : fmR → fmM → Prop}  (hI : scInv Tm invM M) (q0 : ∀ (n : Int32) (M' : fmM), ((-1) ≤ n.toInt ∧ n.toInt ≤ 7) → scInv Tm invM M' → scFr [(0, 0, 1)] M M' → Q (.inl (some (.int n))) M') : pvGood Tm 1 qX11_oldest [.ref 0] M Q := (hh_X11_oldest_0 M [] [.ref 0] scEk.n0 ⟨⟨0, by simp, rfl⟩, trivial⟩ (fun f hf => by cases hf) hI).imp (fun r M' h => by
  obtain ⟨⟨o, ho, hr, hf9, hm⟩, h1, h2⟩ := h
  rcases List.mem_cons.mp ho with rfl | ho
  · obtain ⟨n, rfl, c1, c2⟩ := hr; exact q0 n M' ⟨c1, c2⟩ h1 h2
  · cases ho)
theorem sm_oldest {M : fmM} (hI : scInv Tm invM M) : pvGood Tm 250 qX11_oldest [.ref 0] M (fun r M' => tI r ∧ scInv Tm invM M') := (wsm_oldest  hI (fun n M' _ h1 _ => ⟨⟨n, rfl⟩, h1⟩)).up (by decide)
theorem sm_chain {M : fmM} {a0 a1 : Int32} (hI : scInv Tm invM M) : pvGood Tm 250 qX11_chain [.ref 0, .int a0, .int a1] M (fun r M' => tI r ∧ scInv Tm invM M') := (t_chain hI (fun r M' h1 h2 => ⟨h1, h2⟩)).up (by decide)
theorem wsm_due {M : fmM} {Q : fmR → fmM → Prop} {x1 : Int32} (bx1 : (-2147483648) ≤ x1.toInt ∧ x1.toInt ≤ 2147483647) {x2 : Int32} (bx2 : (-2147483648) ≤ x2.toInt ∧ x2.toInt ≤ 2147483647) (hI : scInv Tm invM M) (q0 : ∀ (n : Int32) (M' : fmM), ((-1) ≤ n.toInt ∧ n.toInt ≤ 60) → scInv Tm invM M' → scFr [(0, 0, 1), (2, 0, 2), (5, 0, 160), (6, 0, 5)] M M' → Q (.inl (some (.int n))) M') : pvGood Tm 6 qX11_due [.ref 0, .int x1, .int x2] M Q := (hh_X11_due_0 M [x1.toInt, x2.toInt] [.ref 0, .int x1, .int x2] (scEk.c1 bx1 (scEk.c1 bx2 scEk.n0)) ⟨⟨0, by simp, rfl⟩, ⟨x1, rfl, scEv.at rfl⟩, ⟨x2, rfl, scEv.at rfl⟩, trivial⟩ (fun f hf => by cases hf) hI).imp (fun r M' h => by
  obtain ⟨⟨o, ho, hr, hf9, hm⟩, h1, h2⟩ := h
  rcases List.mem_cons.mp ho with rfl | ho
  · obtain ⟨n, rfl, c1, c2⟩ := hr; exact q0 n M' ⟨c1, c2⟩ h1 h2
  · cases ho)
theorem sm_due {M : fmM} {a0 a1 : Int32} (hI : scInv Tm invM M) : pvGood Tm 250 qX11_due [.ref 0, .int a0, .int a1] M (fun r M' => tI r ∧ scInv Tm invM M') := (wsm_due (scq_t a0) (scq_t a1) hI (fun n M' _ h1 _ => ⟨⟨n, rfl⟩, h1⟩)).up (by decide)
theorem wsm_news {M : fmM} {Q : fmR → fmM → Prop} {x1 : Int32} (bx1 : (-2147483648) ≤ x1.toInt ∧ x1.toInt ≤ 2147483647) (hI : scInv Tm invM M) (q0 : ∀ (n : Int32) (M' : fmM), ((-1) ≤ n.toInt ∧ n.toInt ≤ 60) → scInv Tm invM M' → scFr [(0, 0, 1), (2, 0, 1)] M M' → Q (.inl (some (.int n))) M') : pvGood Tm 2 qX11_news [.ref 0, .int x1] M Q := (hh_X11_news_0 M [x1.toInt] [.ref 0, .int x1] (scEk.c1 bx1 scEk.n0) ⟨⟨0, by simp, rfl⟩, ⟨x1, rfl, scEv.at rfl⟩, trivial⟩ (fun f hf => by cases hf) hI).imp (fun r M' h => by
  obtain ⟨⟨o, ho, hr, hf9, hm⟩, h1, h2⟩ := h
  rcases List.mem_cons.mp ho with rfl | ho
  · obtain ⟨n, rfl, c1, c2⟩ := hr; exact q0 n M' ⟨c1, c2⟩ h1 h2
  · cases ho)
theorem sm_news {M : fmM} {a0 : Int32} (hI : scInv Tm invM M) : pvGood Tm 250 qX11_news [.ref 0, .int a0] M (fun r M' => tI r ∧ scInv Tm invM M') := (wsm_news (scq_t a0) hI (fun n M' _ h1 _ => ⟨⟨n, rfl⟩, h1⟩)).up (by decide)
theorem wsm_expects {M : fmM} {Q : fmR → fmM → Prop} {x1 : Int32} (bx1 : (-2147483648) ≤ x1.toInt ∧ x1.toInt ≤ 2147483647) {x2 : Int32} (bx2 : (-2147483648) ≤ x2.toInt ∧ x2.toInt ≤ 2147483647) {x3 : Int32} (bx3 : (-2147483648) ≤ x3.toInt ∧ x3.toInt ≤ 2147483647) (hI : scInv Tm invM M) (q0 : ∀ (n : Int64) (M' : fmM), ((-9223372036854775808) ≤ n.toInt ∧ n.toInt ≤ 9223372036854775807) → scInv Tm invM M' → scFr [(0, 0, 1), (2, 0, 2), (5, 0, 160), (6, 0, 5)] M M' → Q (.inl (some (.long n))) M') : pvGood Tm 7 qX11_expects [.ref 0, .int x1, .int x2, .int x3] M Q := (hh_X11_expects_0 M [x1.toInt, x2.toInt, x3.toInt] [.ref 0, .int x1, .int x2, .int x3] (scEk.c1 bx1 (scEk.c1 bx2 (scEk.c1 bx3 scEk.n0))) ⟨⟨0, by simp, rfl⟩, ⟨x1, rfl, scEv.at rfl⟩, ⟨x2, rfl, scEv.at rfl⟩, ⟨x3, rfl, scEv.at rfl⟩, trivial⟩ (fun f hf => by cases hf) hI).imp (fun r M' h => by
  obtain ⟨⟨o, ho, hr, hf9, hm⟩, h1, h2⟩ := h
  rcases List.mem_cons.mp ho with rfl | ho
  · obtain ⟨n, rfl, c1, c2⟩ := hr; exact q0 n M' ⟨c1, c2⟩ h1 h2
  · cases ho)
theorem sm_expects {M : fmM} {a0 a1 a2 : Int32} (hI : scInv Tm invM M) : pvGood Tm 250 qX11_expects [.ref 0, .int a0, .int a1, .int a2] M (fun r M' => tJ r ∧ scInv Tm invM M') := (wsm_expects (scq_t a0) (scq_t a1) (scq_t a2) hI (fun n M' _ h1 _ => ⟨⟨n, rfl⟩, h1⟩)).up (by decide)
theorem wsm_worst {M : fmM} {Q : fmR → fmM → Prop}  (hI : scInv Tm invM M) (q0 : ∀ (n : Int32) (M' : fmM), (0 ≤ n.toInt ∧ n.toInt ≤ 2147483647) → scInv Tm invM M' → scFr [(0, 0, 1), (5, 0, 160), (6, 0, 5), (8, 0, 14)] M M' → Q (.inl (some (.int n))) M') : pvGood Tm 10 qX11_worst [.ref 0] M Q := (hh_X11_worst_0 M [] [.ref 0] scEk.n0 ⟨⟨0, by simp, rfl⟩, trivial⟩ (fun f hf => by cases hf) hI).imp (fun r M' h => by
  obtain ⟨⟨o, ho, hr, hf9, hm⟩, h1, h2⟩ := h
  rcases List.mem_cons.mp ho with rfl | ho
  · obtain ⟨n, rfl, c1, c2⟩ := hr; exact q0 n M' ⟨c1, c2⟩ h1 h2
  · cases ho)
theorem sm_worst {M : fmM} (hI : scInv Tm invM M) : pvGood Tm 250 qX11_worst [.ref 0] M (fun r M' => tI r ∧ scInv Tm invM M') := (wsm_worst  hI (fun n M' _ h1 _ => ⟨⟨n, rfl⟩, h1⟩)).up (by decide)
theorem wsm_years {M : fmM} {Q : fmR → fmM → Prop} {x1 : Int32} (bx1 : (-2147483648) ≤ x1.toInt ∧ x1.toInt ≤ 2147483647) {x2 : Int32} (bx2 : (-2147483648) ≤ x2.toInt ∧ x2.toInt ≤ 2147483647) {x3 : Int32} (bx3 : (-2147483648) ≤ x3.toInt ∧ x3.toInt ≤ 2147483647) (hI : scInv Tm invM M) (q0 : ∀ (n : Int32) (M' : fmM), ((-2147483648) ≤ n.toInt ∧ n.toInt ≤ 2147483647) → scInv Tm invM M' → scFr [(0, 0, 1), (0, 47, 2), (2, 1, 1), (5, 0, 160), (6, 0, 5), (8, 0, 14)] M M' → Q (.inl (some (.int n))) M') : pvGood Tm 13 qX11_years [.ref 0, .int x1, .int x2, .int x3] M Q := (hh_X11_years_0 M [x1.toInt, x2.toInt, x3.toInt] [.ref 0, .int x1, .int x2, .int x3] (scEk.c1 bx1 (scEk.c1 bx2 (scEk.c1 bx3 scEk.n0))) ⟨⟨0, by simp, rfl⟩, ⟨x1, rfl, scEv.at rfl⟩, ⟨x2, rfl, scEv.at rfl⟩, ⟨x3, rfl, scEv.at rfl⟩, trivial⟩ (fun f hf => by cases hf) hI).imp (fun r M' h => by
  obtain ⟨⟨o, ho, hr, hf9, hm⟩, h1, h2⟩ := h
  rcases List.mem_cons.mp ho with rfl | ho
  · obtain ⟨n, rfl, c1, c2⟩ := hr; exact q0 n M' ⟨c1, c2⟩ h1 h2
  · cases ho)
theorem sm_years {M : fmM} {a0 a1 a2 : Int32} (hI : scInv Tm invM M) : pvGood Tm 250 qX11_years [.ref 0, .int a0, .int a1, .int a2] M (fun r M' => tI r ∧ scInv Tm invM M') := (wsm_years (scq_t a0) (scq_t a1) (scq_t a2) hI (fun n M' _ h1 _ => ⟨⟨n, rfl⟩, h1⟩)).up (by decide)
theorem wsm_span {M : fmM} {Q : fmR → fmM → Prop} {x1 : Int32} (bx1 : (-2147483648) ≤ x1.toInt ∧ x1.toInt ≤ 2147483647) {x2 : Int32} (bx2 : (-2147483648) ≤ x2.toInt ∧ x2.toInt ≤ 2147483647) {x3 : Int32} (bx3 : (-2147483648) ≤ x3.toInt ∧ x3.toInt ≤ 2147483647) {x4 : Int32} (bx4 : (-2147483648) ≤ x4.toInt ∧ x4.toInt ≤ 2147483647) {x5 : Int32} (bx5 : (-2147483648) ≤ x5.toInt ∧ x5.toInt ≤ 2147483647) (hI : scInv Tm invM M) (q0 : ∀ (n : Int32) (M' : fmM), ((-2147483648) ≤ n.toInt ∧ n.toInt ≤ 2147483647) → scInv Tm invM M' → scFr [(0, 0, 1), (0, 47, 2), (2, 1, 1), (5, 0, 160), (6, 0, 5), (8, 0, 14)] M M' → Q (.inl (some (.int n))) M') : pvGood Tm 13 qX11_span [.ref 0, .int x1, .int x2, .int x3, .int x4, .int x5] M Q := (hh_X11_span_0 M [x1.toInt, x2.toInt, x3.toInt, x4.toInt, x5.toInt] [.ref 0, .int x1, .int x2, .int x3, .int x4, .int x5] (scEk.c1 bx1 (scEk.c1 bx2 (scEk.c1 bx3 (scEk.c1 bx4 (scEk.c1 bx5 scEk.n0))))) ⟨⟨0, by simp, rfl⟩, ⟨x1, rfl, scEv.at rfl⟩, ⟨x2, rfl, scEv.at rfl⟩, ⟨x3, rfl, scEv.at rfl⟩, ⟨x4, rfl, scEv.at rfl⟩, ⟨x5, rfl, scEv.at rfl⟩, trivial⟩ (fun f hf => by cases hf) hI).imp (fun r M' h => by
  obtain ⟨⟨o, ho, hr, hf9, hm⟩, h1, h2⟩ := h
  rcases List.mem_cons.mp ho with rfl | ho
  · obtain ⟨n, rfl, c1, c2⟩ := hr; exact q0 n M' ⟨c1, c2⟩ h1 h2
  · cases ho)
theorem sm_span {M : fmM} {a0 a1 a2 a3 a4 : Int32} (hI : scInv Tm invM M) : pvGood Tm 250 qX11_span [.ref 0, .int a0, .int a1, .int a2, .int a3, .int a4] M (fun r M' => tI r ∧ scInv Tm invM M') := (wsm_span (scq_t a0) (scq_t a1) (scq_t a2) (scq_t a3) (scq_t a4) hI (fun n M' _ h1 _ => ⟨⟨n, rfl⟩, h1⟩)).up (by decide)
theorem wsm_image {M : fmM} {Q : fmR → fmM → Prop}  (hI : scInv Tm invM M) (q0 : ∀ (n : Int32) (M' : fmM), ((-1) ≤ n.toInt ∧ n.toInt ≤ 3) → scInv Tm invM M' → scFr [(0, 0, 1), (0, 32, 1), (0, 34, 2), (7, 0, 14), (503, 0, 14), (504, 0, 14), (505, 0, 14), (506, 0, 14), (507, 0, 14), (508, 0, 14), (509, 0, 14), (510, 0, 14), (511, 0, 14), (512, 0, 14), (513, 0, 14), (514, 0, 14), (515, 0, 14), (516, 0, 14), (517, 0, 14), (518, 0, 14), (519, 0, 239), (520, 0, 239), (521, 0, 239)] M M' → Q (.inl (some (.int n))) M') : pvGood Tm 2 qX11_image [.ref 0] M Q := (hh_X11_image_0 M [] [.ref 0] scEk.n0 ⟨⟨0, by simp, rfl⟩, trivial⟩ (fun f hf => by cases hf) hI).imp (fun r M' h => by
  obtain ⟨⟨o, ho, hr, hf9, hm⟩, h1, h2⟩ := h
  rcases List.mem_cons.mp ho with rfl | ho
  · obtain ⟨n, rfl, c1, c2⟩ := hr; exact q0 n M' ⟨c1, c2⟩ h1 h2
  · cases ho)
theorem sm_image {M : fmM} (hI : scInv Tm invM M) : pvGood Tm 250 qX11_image [.ref 0] M (fun r M' => tI r ∧ scInv Tm invM M') := (wsm_image  hI (fun n M' _ h1 _ => ⟨⟨n, rfl⟩, h1⟩)).up (by decide)
theorem wsm_restore {M : fmM} {Q : fmR → fmM → Prop}  (hI : scInv Tm invM M) (q0 : ∀ (n : Int32) (M' : fmM), ((-1) ≤ n.toInt ∧ n.toInt ≤ 2) → scInv Tm invM M' → scFr [(0, 0, 1), (0, 32, 4), (7, 0, 14), (503, 0, 14), (504, 0, 14), (505, 0, 14), (506, 0, 14), (507, 0, 14), (508, 0, 14), (509, 0, 14), (510, 0, 14), (511, 0, 14), (512, 0, 14), (513, 0, 14), (514, 0, 14), (515, 0, 14), (516, 0, 14), (517, 0, 14), (518, 0, 14)] M M' → Q (.inl (some (.int n))) M') : pvGood Tm 2 qX11_restore [.ref 0] M Q := (hh_X11_restore_0 M [] [.ref 0] scEk.n0 ⟨⟨0, by simp, rfl⟩, trivial⟩ (fun f hf => by cases hf) hI).imp (fun r M' h => by
  obtain ⟨⟨o, ho, hr, hf9, hm⟩, h1, h2⟩ := h
  rcases List.mem_cons.mp ho with rfl | ho
  · obtain ⟨n, rfl, c1, c2⟩ := hr; exact q0 n M' ⟨c1, c2⟩ h1 h2
  · cases ho)
theorem sm_restore {M : fmM} (hI : scInv Tm invM M) : pvGood Tm 250 qX11_restore [.ref 0] M (fun r M' => tI r ∧ scInv Tm invM M') := (wsm_restore  hI (fun n M' _ h1 _ => ⟨⟨n, rfl⟩, h1⟩)).up (by decide)
theorem wsm_status {M : fmM} {Q : fmR → fmM → Prop} {x1 : Int32} (bx1 : (-2147483648) ≤ x1.toInt ∧ x1.toInt ≤ 2147483647) (hI : scInv Tm invM M) (q0 : ∀ (n : Int32) (M' : fmM), ((-2147483648) ≤ n.toInt ∧ n.toInt ≤ 2147483647) → scInv Tm invM M' → scFr [(0, 0, 1)] M M' → Q (.inl (some (.int n))) M') : pvGood Tm 1 qX11_status [.ref 0, .int x1] M Q := (hh_X11_status_0 M [x1.toInt] [.ref 0, .int x1] (scEk.c1 bx1 scEk.n0) ⟨⟨0, by simp, rfl⟩, ⟨x1, rfl, scEv.at rfl⟩, trivial⟩ (fun f hf => by cases hf) hI).imp (fun r M' h => by
  obtain ⟨⟨o, ho, hr, hf9, hm⟩, h1, h2⟩ := h
  rcases List.mem_cons.mp ho with rfl | ho
  · obtain ⟨n, rfl, c1, c2⟩ := hr; exact q0 n M' ⟨c1, c2⟩ h1 h2
  · cases ho)
theorem sm_status {M : fmM} {a0 : Int32} (hI : scInv Tm invM M) : pvGood Tm 250 qX11_status [.ref 0, .int a0] M (fun r M' => tI r ∧ scInv Tm invM M') := (wsm_status (scq_t a0) hI (fun n M' _ h1 _ => ⟨⟨n, rfl⟩, h1⟩)).up (by decide)
theorem wsm_count {M : fmM} {Q : fmR → fmM → Prop} {x1 : Int32} (bx1 : (-2147483648) ≤ x1.toInt ∧ x1.toInt ≤ 2147483647) (hI : scInv Tm invM M) (q0 : ∀ (n : Int32) (M' : fmM), ((-1) ≤ n.toInt ∧ n.toInt ≤ 600) → scInv Tm invM M' → scFr [(0, 0, 1)] M M' → Q (.inl (some (.int n))) M') : pvGood Tm 0 qX11_count [.ref 0, .int x1] M Q := (hh_X11_count_0 M [x1.toInt] [.ref 0, .int x1] (scEk.c1 bx1 scEk.n0) ⟨⟨0, by simp, rfl⟩, ⟨x1, rfl, scEv.at rfl⟩, trivial⟩ (fun f hf => by cases hf) hI).imp (fun r M' h => by
  obtain ⟨⟨o, ho, hr, hf9, hm⟩, h1, h2⟩ := h
  rcases List.mem_cons.mp ho with rfl | ho
  · obtain ⟨n, rfl, c1, c2⟩ := hr; exact q0 n M' ⟨c1, c2⟩ h1 h2
  · cases ho)
theorem sm_count {M : fmM} {a0 : Int32} (hI : scInv Tm invM M) : pvGood Tm 250 qX11_count [.ref 0, .int a0] M (fun r M' => tI r ∧ scInv Tm invM M') := (wsm_count (scq_t a0) hI (fun n M' _ h1 _ => ⟨⟨n, rfl⟩, h1⟩)).up (by decide)
end
-- P 18c
section
theorem m00_0 (k j : Nat) : (m00.1 k j) = 0 := rfl
theorem invX_0 : ∀ k, k < 190 → ∀ e ∈ invX k, e.1 ≤ 0 ∧ 0 ≤ e.2 := by decide +kernel
theorem scAt_in {l : List scI} {P : scI → Prop} (j : Nat) (h : ∀ e ∈ l, P e) (ht : P scTop) : P (scAt l j) := by
  have g : P (l.getD j scTop) := by
    rw [List.getD_eq_getElem?_getD]
    cases hj : l[j]? with
    | none => exact ht
    | some e => exact h e (List.mem_of_getElem? hj)
  match l, h, g with
  | [], h, g => exact g
  | [e], h, g => exact h e List.mem_cons_self
  | e :: e' :: l, h, g => exact g
theorem invX_big (k : Nat) (h : 190 ≤ k) : invX k = [scTop] := by
  unfold invX
  rw [if_neg (by omega), if_neg (by omega)]
theorem invX_z (k j : Nat) : (scAt (invX k) j).1 ≤ 0 ∧ 0 ≤ (scAt (invX k) j).2 := by
  refine scAt_in j (P := fun e => e.1 ≤ 0 ∧ 0 ≤ e.2) (fun e he => ?_) (by decide)
  by_cases h : k < 190
  · exact invX_0 k h e he
  · rw [invX_big k (by omega)] at he
    have e9 : e = scTop := by simpa using he
    rw [e9]
    decide
theorem inv_m00 : scInv Tx invX m00 := ⟨fun k j hj => by rw [m00_0, show (0 : Int32).toInt = 0 by decide]; exact invX_z k j, fun hm => absurd hm (by decide)⟩
theorem inv_mX : scInv Tx invX mX := by
  unfold mX
  exact xInv.put (xInv.put (xInv.put (xInv.put (xInv.put (xInv.put (xInv.put (xInv.put (xInv.put (xInv.put (xInv.put (xInv.put (xInv.put inv_m00 (by decide)) (by decide)) (by decide)) (by decide)) (by decide)) (by decide)) (by decide)) (by decide)) (by decide)) (by decide)) (by decide)) (by decide)) (by decide)
theorem inv_x0 {M : fmM} (h : xInit M) : scInv Tx invX M := by
  obtain ⟨h0, h1, h2, h3, h4, h5, h6⟩ := h
  refine ⟨fun k j hj => ?_, fun hm => absurd hm (by decide)⟩
  by_cases e : k = 47
  · subst e
    have hj : j < 7 := hj
    rcases (show j = 0 ∨ j = 1 ∨ j = 2 ∨ j = 3 ∨ j = 4 ∨ j = 5 ∨ j = 6 by omega) with rfl | rfl | rfl | rfl | rfl | rfl | rfl
    · exact scq_t _
    · exact scq_t _
    · rw [h2]; decide
    · exact scq_t _
    · exact scq_t _
    · exact scq_t _
    · exact scq_t _
  · by_cases e2 : k = 48
    · subst e2
      exact scq_t _
    · rw [h0 k e e2]
      exact inv_mX.1 k j hj
theorem invM_0 : ∀ k, k < 522 → k ≠ 4 → ∀ e ∈ invM k, e.1 ≤ 0 ∧ 0 ≤ e.2 := by decide +kernel
theorem invM_z (k j : Nat) (h4 : k ≠ 4) (h9 : k ≠ 999) : (scAt (invM k) j).1 ≤ 0 ∧ 0 ≤ (scAt (invM k) j).2 := by
  refine scAt_in j (P := fun e => e.1 ≤ 0 ∧ 0 ≤ e.2) (fun e he => ?_) (by decide)
  by_cases h : k < 522
  · exact invM_0 k h h4 e he
  · have e1 : invM k = [scTop] := by
      unfold invM
      rw [if_neg h9]
      repeat rw [if_neg (by omega)]
    rw [e1] at he
    have e9 : e = scTop := by simpa using he
    rw [e9]
    decide
def m9 (M : fmM) : fmM := fmA M 999 (fun _ => 1)
theorem m9_k {M : fmM} {k : Nat} (h : k ≠ 999) : (m9 M).1 k = M.1 k := by simp [m9, fmA, h]
theorem fmL_9 {G : fmG} {M : fmM} : fmL Tm G (m9 M) = fmL Tm G M := by
  unfold fmL
  refine List.map_congr_left (fun k hk => ?_)
  have h : k < 522 := List.mem_range.mp hk
  rw [show fmEnt Tm G (m9 M) k = fmEnt Tm G M k from fmEnt_A k (by omega)]
theorem tnM_k {k : Nat} (h : k ≠ 3) (j : Nat) : (tnM mM).1 k j = if k = 0 ∧ j = 3 then -1 else 0 := by
  unfold tnM mM
  rw [fmI_k _ _ h, fmI_k _ _ h, fmI_k _ _ h, fmI_k _ _ h, fmI_k _ _ h, fmI_k _ _ h, fmI_at]
  split <;> rfl
theorem z_in {k j : Nat} {x : Int32} (h4 : k ≠ 4) (h9 : k ≠ 999) (h : x = 0) : (scAt (invM k) j).1 ≤ x.toInt ∧ x.toInt ≤ (scAt (invM k) j).2 := by
  rw [h, show (0 : Int32).toInt = 0 by decide]
  exact invM_z k j h4 h9
theorem inv_m0 {M : fmM} (h : mInit M) : scInv Tm invM (m9 M) := by
  obtain ⟨⟨a1, a2, a3, a4, a5⟩, ⟨b1, b2, b3⟩, ⟨c1, c2, c3, c4, c5⟩, d1, d2, d3, d4⟩ := h
  refine ⟨fun k j hj => ?_, fun hm => ⟨⟨[], ?_, by decide, Or.inl rfl, fun i c hi => by cases hi⟩, fun i hi hl => ?_⟩⟩
  · by_cases e9 : k = 999
    · subst e9
      show (1 : Int) ≤ ((1 : Int32)).toInt ∧ ((1 : Int32)).toInt ≤ 1
      decide
    · rw [m9_k e9]
      by_cases e0 : k = 0
      · subst e0
        by_cases e1 : j = 17 ∨ j = 31 ∨ j = 32 ∨ j = 33 ∨ j = 34
        · exact z_in (by decide) (by decide) (by rcases e1 with rfl | rfl | rfl | rfl | rfl <;> assumption)
        · by_cases e3 : j = 3
          · subst e3
            rw [d2 3 (by decide) (by decide) (by decide) (by decide) (by decide), tnM_k (by decide)]
            decide
          · exact z_in (by decide) (by decide) (by rw [d2 j (by omega) (by omega) (by omega) (by omega) (by omega), tnM_k (by decide), if_neg (fun h => e3 h.2)])
      · by_cases e4 : k = 4
        · subst e4
          have hj : j < 6 := hj
          rcases (show j = 0 ∨ j = 1 ∨ j = 2 ∨ j = 3 ∨ j = 4 ∨ j = 5 by omega) with rfl | rfl | rfl | rfl | rfl | rfl
          · rw [a1]; decide
          · rw [a2]; decide
          · rw [a3 2 (by decide) (by decide)]; decide
          · rw [a3 3 (by decide) (by decide)]; decide
          · rw [a3 4 (by decide) (by decide)]; decide
          · rw [a3 5 (by decide) (by decide)]; decide
        · by_cases e7 : k = 7
          · subst e7
            have hj : j < 14 := hj
            by_cases e8 : 1 ≤ j ∧ j < 9
            · obtain ⟨i, rfl⟩ : ∃ i, j = 1 + i := ⟨j - 1, by omega⟩
              rw [inv_7 i (by omega), b1 i (by omega), if_neg (fun h => absurd h.1 (Nat.not_lt_zero _))]
              decide
            · by_cases e9 : j = 9
              · subst e9
                rw [b2]
                decide
              · exact z_in (by decide) (by decide) (b3 j (by omega))
          · by_cases e3 : k = 3
            · subst e3
              rw [inv_top (Or.inl rfl) j]
              exact scq_t _
            · refine z_in e4 e9 ?_
              by_cases e35 : (35 ≤ k ∧ k < 43) ∨ (67 ≤ k ∧ k < 91)
              · rw [d3 k j (show (35 + 0 ≤ k ∧ k < 43) ∨ (67 + 0 ≤ k ∧ k < 91) by omega), tnM_k e3, if_neg (fun h => e0 h.1)]
              · rw [d1 k j e0 e4 e7 (by omega) (by omega), tnM_k e3, if_neg (fun h => e0 h.1)]
  · rw [m9_k (by decide), c1]
    decide
  · rw [m9_k (by decide), a1] at hl
    have hl : (i : Int) < 0 := hl
    omega
end
-- P 18d
section
-- RUMOURS, exactly
def inW (x lo hi : Int32) : Prop := lo.toInt ≤ x.toInt ∧ x.toInt ≤ hi.toInt
def rgR (b v x y : Int32) : Prop := inW b 0 16 ∧ inW v 0 999 ∧ inW x 0 999 ∧ inW y 0 999
def mnV (t b v x y w : Int32) : Int32 := if w = 2 then t * (16 - b) * v else 16 * (t * v - (16 - t) * (if w = 0 then x else y))
def b1V (t b v x y : Int32) : Int32 := if mnV t b v x y 0 < mnV t b v x y 1 then 1 else 0
def bwV (t b v x y : Int32) : Int32 := if mnV t b v x y (b1V t b v x y) < mnV t b v x y 2 then 2 else b1V t b v x y
def lnV (b v x y : Int32) : Nat → Nat → Int32
  | 0, _ => -1
  | n + 1, t => if bwV (nI t) b v x y = 0 then nI t else lnV b v x y n (t + 1)
theorem glueI {P : Prop} {v : Int32} {r r2 : fmR} {M : fmM} (h : (P ∧ r = .inl (some (.int v))) ∨ (¬ P ∧ r = .inr fmIAE)) (h2 : (P ∧ r2 = .inl (some (.int v)) ∧ M.1 0 0 = 0) ∨ (¬ P ∧ M.1 0 0 = 1)) : mtI 1 0 r r2 M := by
  rcases h with ⟨p, rfl⟩ | ⟨p, rfl⟩
  · rcases h2 with ⟨_, e, t⟩ | ⟨q, _⟩
    · exact ⟨t, e⟩
    · exact absurd p q
  · rcases h2 with ⟨q, _⟩ | ⟨_, t⟩
    · exact absurd q p
    · exact ⟨fun _ => t, fun h => absurd h (by decide)⟩
set_option maxRecDepth 20000 in
theorem c_needW {M : fmM} {Q : fmR → fmM → Prop} {x lo hi : Int32} (ht : lo.toInt ≤ x.toInt → x.toInt ≤ hi.toInt → Q (.inl none) M) (hf : ¬ (lo.toInt ≤ x.toInt ∧ x.toInt ≤ hi.toInt) → Q (.inr fmIAE) (fmI M 0 16 (M.1 0 16 + 1))) : pvGood Tx 0 qX10_needWithin [.ref 0, .int x, .int lo, .int hi] M Q := by
  refine pvGood_of (Nat.le_of_ble_eq_true rfl) ?_
  show pvEv Tx 0 qX10_needWithin 0 [some (.ref 0), some (.int x), some (.int lo), some (.int hi)] [] M Q
  refine pv_iloadn (pc := 0) (n := 1) 1 rfl rfl (fm_dec dtX10_needWithin 0 rfl) ?_
  refine pv_iloadn (pc := 1) (n := 2) 2 rfl rfl (fm_dec dtX10_needWithin 1 rfl) ?_
  refine pv_icmp_lt (pc := 2) 10 (by decide) (fm_dec dtX10_needWithin 2 rfl) (fun hc2 => ?_) (fun hc2 => ?_)
  · refine pv_aloadn (pc := 10) (n := 0) 0 rfl rfl (fm_dec dtX10_needWithin 6 rfl) ?_
    refine pv_dup (pc := 11) rfl (fm_dec dtX10_needWithin 7 rfl) ?_
    refine pv_getI (k := 0) (j := 16) (ci := 10) (pc := 12) pfl_X10_366 (by decide) rfl (by decide) (fm_dec dtX10_needWithin 8 rfl) ?_
    refine pv_iconst (pc := 15) (v := 1) (by decide) (fm_dec dtX10_needWithin 9 rfl) ?_
    refine pv_iadd (pc := 16) (fm_dec dtX10_needWithin 10 rfl) ?_
    refine pv_putI (k := 0) (j := 16) (ci := 10) (pc := 17) pfl_X10_366 (by decide) rfl (by decide) (fm_dec dtX10_needWithin 11 rfl) ?_
    exact pv_thrI (pc := 20) pvK_10 (fm_dec dtX10_needWithin 12 rfl) (fm_dec dtX10_needWithin 13 rfl) (fm_dec dtX10_needWithin 14 rfl) (fm_dec dtX10_needWithin 15 rfl) (fm_dec dtX10_needWithin 16 rfl) (hf (by intro h9; first | (rw [sc_le] at hc7; omega) | (rw [sc_lt] at hc2; omega)))
  · refine pv_iloadn (pc := 5) (n := 1) 1 rfl rfl (fm_dec dtX10_needWithin 3 rfl) ?_
    refine pv_iloadn (pc := 6) (n := 3) 3 rfl rfl (fm_dec dtX10_needWithin 4 rfl) ?_
    refine pv_icmp_le (pc := 7) 31 (by decide) (fm_dec dtX10_needWithin 5 rfl) (fun hc7 => ?_) (fun hc7 => ?_)
    · exact pv_return (pc := 31) rfl (fm_dec dtX10_needWithin 17 rfl) (ht (by rw [sc_lt] at hc2; omega) (by rw [sc_le] at hc7; omega))
    · refine pv_aloadn (pc := 10) (n := 0) 0 rfl rfl (fm_dec dtX10_needWithin 6 rfl) ?_
      refine pv_dup (pc := 11) rfl (fm_dec dtX10_needWithin 7 rfl) ?_
      refine pv_getI (k := 0) (j := 16) (ci := 10) (pc := 12) pfl_X10_366 (by decide) rfl (by decide) (fm_dec dtX10_needWithin 8 rfl) ?_
      refine pv_iconst (pc := 15) (v := 1) (by decide) (fm_dec dtX10_needWithin 9 rfl) ?_
      refine pv_iadd (pc := 16) (fm_dec dtX10_needWithin 10 rfl) ?_
      refine pv_putI (k := 0) (j := 16) (ci := 10) (pc := 17) pfl_X10_366 (by decide) rfl (by decide) (fm_dec dtX10_needWithin 11 rfl) ?_
      exact pv_thrI (pc := 20) pvK_10 (fm_dec dtX10_needWithin 12 rfl) (fm_dec dtX10_needWithin 13 rfl) (fm_dec dtX10_needWithin 14 rfl) (fm_dec dtX10_needWithin 15 rfl) (fm_dec dtX10_needWithin 16 rfl) (hf (by intro h9; first | (rw [sc_le] at hc7; omega) | (rw [sc_lt] at hc2; omega)))
set_option maxRecDepth 20000 in
theorem c_needR {M : fmM} {Q : fmR → fmM → Prop} {b v x y : Int32} (ht : rgR b v x y → Q (.inl none) M) (hf : ¬ rgR b v x y → Q (.inr fmIAE) (fmI M 0 16 (M.1 0 16 + 1))) : pvGood Tx 1 qX10_needRumour [.ref 0, .int b, .int v, .int x, .int y] M Q := by
  refine pvGood_of (Nat.le_of_ble_eq_true rfl) ?_
  show pvEv Tx 1 qX10_needRumour 0 [some (.ref 0), some (.int b), some (.int v), some (.int x), some (.int y)] [] M Q
  refine pv_aloadn (pc := 0) (n := 0) 0 rfl rfl (fm_dec dtX10_needRumour 0 rfl) ?_
  refine pv_iloadn (pc := 1) (n := 1) 1 rfl rfl (fm_dec dtX10_needRumour 1 rfl) ?_
  refine pv_iconst (pc := 2) (v := 0) (by decide) (fm_dec dtX10_needRumour 2 rfl) ?_
  refine pv_bipush (pc := 3) (v := 16) (by decide) (fm_dec dtX10_needRumour 3 rfl) ?_
  refine pv_invV3 (k := 0) (d' := 0) (pc := 5) pcv_X10_169 (by decide) rfl (Nat.le_of_ble_eq_true rfl) (by decide) (fm_dec dtX10_needRumour 4 rfl) ?_
  refine c_needW (fun h5a h5b => ?_) (fun h5 => ?_)
  · refine pv_then0 ?_
    refine pv_aloadn (pc := 8) (n := 0) 0 rfl rfl (fm_dec dtX10_needRumour 5 rfl) ?_
    refine pv_iloadn (pc := 9) (n := 2) 2 rfl rfl (fm_dec dtX10_needRumour 6 rfl) ?_
    refine pv_iconst (pc := 10) (v := 0) (by decide) (fm_dec dtX10_needRumour 7 rfl) ?_
    refine pv_sipush (pc := 11) (v := 999) (by decide) (fm_dec dtX10_needRumour 8 rfl) ?_
    refine pv_invV3 (k := 0) (d' := 0) (pc := 14) pcv_X10_169 (by decide) rfl (Nat.le_of_ble_eq_true rfl) (by decide) (fm_dec dtX10_needRumour 9 rfl) ?_
    refine c_needW (fun h14a h14b => ?_) (fun h14 => ?_)
    · refine pv_then0 ?_
      refine pv_aloadn (pc := 17) (n := 0) 0 rfl rfl (fm_dec dtX10_needRumour 10 rfl) ?_
      refine pv_iloadn (pc := 18) (n := 3) 3 rfl rfl (fm_dec dtX10_needRumour 11 rfl) ?_
      refine pv_iconst (pc := 19) (v := 0) (by decide) (fm_dec dtX10_needRumour 12 rfl) ?_
      refine pv_sipush (pc := 20) (v := 999) (by decide) (fm_dec dtX10_needRumour 13 rfl) ?_
      refine pv_invV3 (k := 0) (d' := 0) (pc := 23) pcv_X10_169 (by decide) rfl (Nat.le_of_ble_eq_true rfl) (by decide) (fm_dec dtX10_needRumour 14 rfl) ?_
      refine c_needW (fun h23a h23b => ?_) (fun h23 => ?_)
      · refine pv_then0 ?_
        refine pv_aloadn (pc := 26) (n := 0) 0 rfl rfl (fm_dec dtX10_needRumour 15 rfl) ?_
        refine pv_iload (pc := 27) (i := 4) rfl (fm_dec dtX10_needRumour 16 rfl) ?_
        refine pv_iconst (pc := 29) (v := 0) (by decide) (fm_dec dtX10_needRumour 17 rfl) ?_
        refine pv_sipush (pc := 30) (v := 999) (by decide) (fm_dec dtX10_needRumour 18 rfl) ?_
        refine pv_invV3 (k := 0) (d' := 0) (pc := 33) pcv_X10_169 (by decide) rfl (Nat.le_of_ble_eq_true rfl) (by decide) (fm_dec dtX10_needRumour 19 rfl) ?_
        refine c_needW (fun h33a h33b => ?_) (fun h33 => ?_)
        · refine pv_then0 ?_
          exact pv_return (pc := 36) rfl (fm_dec dtX10_needRumour 20 rfl) (ht ⟨⟨h5a, h5b⟩, ⟨h14a, h14b⟩, ⟨h23a, h23b⟩, ⟨h33a, h33b⟩⟩)
        · refine pv_thenX ?_
          exact hf (fun h9 => h33 (by first | exact h9.1 | exact h9.2.1 | exact h9.2.2.1 | exact h9.2.2.2))
      · refine pv_thenX ?_
        exact hf (fun h9 => h23 (by first | exact h9.1 | exact h9.2.1 | exact h9.2.2.1 | exact h9.2.2.2))
    · refine pv_thenX ?_
      exact hf (fun h9 => h14 (by first | exact h9.1 | exact h9.2.1 | exact h9.2.2.1 | exact h9.2.2.2))
  · refine pv_thenX ?_
    exact hf (fun h9 => h5 (by first | exact h9.1 | exact h9.2.1 | exact h9.2.2.1 | exact h9.2.2.2))
set_option maxRecDepth 20000 in
theorem c_mean0 {M : fmM} {Q : fmR → fmM → Prop} {t b v x y : Int32} (hq : Q (.inl (some (.int (mnV t b v x y 0)))) M) : pvGood Tx 0 qX10_meanOf [.int t, .int b, .int v, .int x, .int y, .int 0] M Q := by
  refine pvGood_of (Nat.le_of_ble_eq_true rfl) ?_
  show pvEv Tx 0 qX10_meanOf 0 [some (.int t), some (.int b), some (.int v), some (.int x), some (.int y), some (.int 0)] [] M Q
  refine pv_iload (pc := 0) (i := 5) rfl (fm_dec dtX10_meanOf 0 rfl) ?_
  refine pv_lookup (pc := 2) 28 (by decide) rfl (fm_dec dtX10_meanOf 1 rfl) ?_
  refine pv_bipush (pc := 28) (v := 16) (by decide) (fm_dec dtX10_meanOf 2 rfl) ?_
  refine pv_iloadn (pc := 30) (n := 0) 0 rfl rfl (fm_dec dtX10_meanOf 3 rfl) ?_
  refine pv_iloadn (pc := 31) (n := 2) 2 rfl rfl (fm_dec dtX10_meanOf 4 rfl) ?_
  refine pv_imul (pc := 32) (fm_dec dtX10_meanOf 5 rfl) ?_
  refine pv_bipush (pc := 33) (v := 16) (by decide) (fm_dec dtX10_meanOf 6 rfl) ?_
  refine pv_iloadn (pc := 35) (n := 0) 0 rfl rfl (fm_dec dtX10_meanOf 7 rfl) ?_
  refine pv_isub (pc := 36) (fm_dec dtX10_meanOf 8 rfl) ?_
  refine pv_iloadn (pc := 37) (n := 3) 3 rfl rfl (fm_dec dtX10_meanOf 9 rfl) ?_
  refine pv_imul (pc := 38) (fm_dec dtX10_meanOf 10 rfl) ?_
  refine pv_isub (pc := 39) (fm_dec dtX10_meanOf 11 rfl) ?_
  refine pv_imul (pc := 40) (fm_dec dtX10_meanOf 12 rfl) ?_
  exact pv_ireturn (pc := 41) rfl (fm_dec dtX10_meanOf 13 rfl) (by have h9 := hq; unfold mnV at h9; rw [if_neg (by decide), if_pos rfl] at h9; exact h9)
set_option maxRecDepth 20000 in
theorem c_mean1 {M : fmM} {Q : fmR → fmM → Prop} {t b v x y : Int32} (hq : Q (.inl (some (.int (mnV t b v x y 1)))) M) : pvGood Tx 0 qX10_meanOf [.int t, .int b, .int v, .int x, .int y, .int 1] M Q := by
  refine pvGood_of (Nat.le_of_ble_eq_true rfl) ?_
  show pvEv Tx 0 qX10_meanOf 0 [some (.int t), some (.int b), some (.int v), some (.int x), some (.int y), some (.int 1)] [] M Q
  refine pv_iload (pc := 0) (i := 5) rfl (fm_dec dtX10_meanOf 0 rfl) ?_
  refine pv_lookup (pc := 2) 42 (by decide) rfl (fm_dec dtX10_meanOf 1 rfl) ?_
  refine pv_bipush (pc := 42) (v := 16) (by decide) (fm_dec dtX10_meanOf 14 rfl) ?_
  refine pv_iloadn (pc := 44) (n := 0) 0 rfl rfl (fm_dec dtX10_meanOf 15 rfl) ?_
  refine pv_iloadn (pc := 45) (n := 2) 2 rfl rfl (fm_dec dtX10_meanOf 16 rfl) ?_
  refine pv_imul (pc := 46) (fm_dec dtX10_meanOf 17 rfl) ?_
  refine pv_bipush (pc := 47) (v := 16) (by decide) (fm_dec dtX10_meanOf 18 rfl) ?_
  refine pv_iloadn (pc := 49) (n := 0) 0 rfl rfl (fm_dec dtX10_meanOf 19 rfl) ?_
  refine pv_isub (pc := 50) (fm_dec dtX10_meanOf 20 rfl) ?_
  refine pv_iload (pc := 51) (i := 4) rfl (fm_dec dtX10_meanOf 21 rfl) ?_
  refine pv_imul (pc := 53) (fm_dec dtX10_meanOf 22 rfl) ?_
  refine pv_isub (pc := 54) (fm_dec dtX10_meanOf 23 rfl) ?_
  refine pv_imul (pc := 55) (fm_dec dtX10_meanOf 24 rfl) ?_
  exact pv_ireturn (pc := 56) rfl (fm_dec dtX10_meanOf 25 rfl) (by have h9 := hq; unfold mnV at h9; rw [if_neg (by decide), if_neg (by decide)] at h9; exact h9)
set_option maxRecDepth 20000 in
theorem c_mean2 {M : fmM} {Q : fmR → fmM → Prop} {t b v x y : Int32} (hq : Q (.inl (some (.int (mnV t b v x y 2)))) M) : pvGood Tx 0 qX10_meanOf [.int t, .int b, .int v, .int x, .int y, .int 2] M Q := by
  refine pvGood_of (Nat.le_of_ble_eq_true rfl) ?_
  show pvEv Tx 0 qX10_meanOf 0 [some (.int t), some (.int b), some (.int v), some (.int x), some (.int y), some (.int 2)] [] M Q
  refine pv_iload (pc := 0) (i := 5) rfl (fm_dec dtX10_meanOf 0 rfl) ?_
  refine pv_lookup (pc := 2) 57 (by decide) rfl (fm_dec dtX10_meanOf 1 rfl) ?_
  refine pv_iloadn (pc := 57) (n := 0) 0 rfl rfl (fm_dec dtX10_meanOf 26 rfl) ?_
  refine pv_bipush (pc := 58) (v := 16) (by decide) (fm_dec dtX10_meanOf 27 rfl) ?_
  refine pv_iloadn (pc := 60) (n := 1) 1 rfl rfl (fm_dec dtX10_meanOf 28 rfl) ?_
  refine pv_isub (pc := 61) (fm_dec dtX10_meanOf 29 rfl) ?_
  refine pv_imul (pc := 62) (fm_dec dtX10_meanOf 30 rfl) ?_
  refine pv_iloadn (pc := 63) (n := 2) 2 rfl rfl (fm_dec dtX10_meanOf 31 rfl) ?_
  refine pv_imul (pc := 64) (fm_dec dtX10_meanOf 32 rfl) ?_
  exact pv_ireturn (pc := 65) rfl (fm_dec dtX10_meanOf 33 rfl) (by have h9 := hq; unfold mnV at h9; rw [if_pos rfl] at h9; exact h9)
theorem c_mean {M : fmM} {Q : fmR → fmM → Prop} {t b v x y w : Int32} (hw : inW w 0 2) (hq : Q (.inl (some (.int (mnV t b v x y w)))) M) : pvGood Tx 0 qX10_meanOf [.int t, .int b, .int v, .int x, .int y, .int w] M Q := by
  have e0 : (0 : Int32).toInt = 0 := by decide
  have e2 : (2 : Int32).toInt = 2 := by decide
  obtain ⟨h1, h2⟩ := hw
  rcases (show w.toInt = 0 ∨ w.toInt = 1 ∨ w.toInt = 2 by omega) with h | h | h
  · have e : w = 0 := i32_ext (h.trans (by decide))
    subst e
    exact c_mean0 hq
  · have e : w = 1 := i32_ext (h.trans (by decide))
    subst e
    exact c_mean1 hq
  · have e : w = 2 := i32_ext (h.trans (by decide))
    subst e
    exact c_mean2 hq
set_option maxRecDepth 20000 in
theorem c_xbrings {M : fmM} {Q : fmR → fmM → Prop} {t b v x y w : Int32} (ht : inW t 0 16 ∧ rgR b v x y ∧ inW w 0 2 → Q (.inl (some (.int (mnV t b v x y w)))) M) (hf : ¬ (inW t 0 16 ∧ rgR b v x y ∧ inW w 0 2) → Q (.inr fmIAE) (fmI M 0 16 (M.1 0 16 + 1))) : pvGood Tx 2 qX10_brings [.ref 0, .int t, .int b, .int v, .int x, .int y, .int w] M Q := by
  refine pvGood_of (Nat.le_of_ble_eq_true rfl) ?_
  show pvEv Tx 2 qX10_brings 0 [some (.ref 0), some (.int t), some (.int b), some (.int v), some (.int x), some (.int y), some (.int w)] [] M Q
  refine pv_aloadn (pc := 0) (n := 0) 0 rfl rfl (fm_dec dtX10_brings 0 rfl) ?_
  refine pv_iloadn (pc := 1) (n := 1) 1 rfl rfl (fm_dec dtX10_brings 1 rfl) ?_
  refine pv_iconst (pc := 2) (v := 0) (by decide) (fm_dec dtX10_brings 2 rfl) ?_
  refine pv_bipush (pc := 3) (v := 16) (by decide) (fm_dec dtX10_brings 3 rfl) ?_
  refine pv_invV3 (k := 0) (d' := 0) (pc := 5) pcv_X10_169 (by decide) rfl (Nat.le_of_ble_eq_true rfl) (by decide) (fm_dec dtX10_brings 4 rfl) ?_
  refine c_needW (fun h5a h5b => ?_) (fun h5 => ?_)
  · refine pv_then0 ?_
    refine pv_aloadn (pc := 8) (n := 0) 0 rfl rfl (fm_dec dtX10_brings 5 rfl) ?_
    refine pv_iloadn (pc := 9) (n := 2) 2 rfl rfl (fm_dec dtX10_brings 6 rfl) ?_
    refine pv_iloadn (pc := 10) (n := 3) 3 rfl rfl (fm_dec dtX10_brings 7 rfl) ?_
    refine pv_iload (pc := 11) (i := 4) rfl (fm_dec dtX10_brings 8 rfl) ?_
    refine pv_iload (pc := 13) (i := 5) rfl (fm_dec dtX10_brings 9 rfl) ?_
    refine pv_invV4 (k := 0) (d' := 1) (pc := 15) pcv_X10_308 (by decide) rfl (Nat.le_of_ble_eq_true rfl) (by decide) (fm_dec dtX10_brings 10 rfl) ?_
    refine c_needR (fun h15 => ?_) (fun h15 => ?_)
    · refine pv_then0 ?_
      refine pv_aloadn (pc := 18) (n := 0) 0 rfl rfl (fm_dec dtX10_brings 11 rfl) ?_
      refine pv_iload (pc := 19) (i := 6) rfl (fm_dec dtX10_brings 12 rfl) ?_
      refine pv_iconst (pc := 21) (v := 0) (by decide) (fm_dec dtX10_brings 13 rfl) ?_
      refine pv_iconst (pc := 22) (v := 2) (by decide) (fm_dec dtX10_brings 14 rfl) ?_
      refine pv_invV3 (k := 0) (d' := 0) (pc := 23) pcv_X10_169 (by decide) rfl (Nat.le_of_ble_eq_true rfl) (by decide) (fm_dec dtX10_brings 15 rfl) ?_
      refine c_needW (fun h23a h23b => ?_) (fun h23 => ?_)
      · refine pv_then0 ?_
        refine pv_iloadn (pc := 26) (n := 1) 1 rfl rfl (fm_dec dtX10_brings 16 rfl) ?_
        refine pv_iloadn (pc := 27) (n := 2) 2 rfl rfl (fm_dec dtX10_brings 17 rfl) ?_
        refine pv_iloadn (pc := 28) (n := 3) 3 rfl rfl (fm_dec dtX10_brings 18 rfl) ?_
        refine pv_iload (pc := 29) (i := 4) rfl (fm_dec dtX10_brings 19 rfl) ?_
        refine pv_iload (pc := 31) (i := 5) rfl (fm_dec dtX10_brings 20 rfl) ?_
        refine pv_iload (pc := 33) (i := 6) rfl (fm_dec dtX10_brings 21 rfl) ?_
        refine pv_iS6 (d' := 0) (pc := 35) pcs_X10_312 (Nat.le_of_ble_eq_true rfl) (by decide) (fm_dec dtX10_brings 22 rfl) ?_
        refine c_mean ⟨h23a, h23b⟩ ?_
        refine pv_then1 ?_
        exact pv_ireturn (pc := 38) rfl (fm_dec dtX10_brings 23 rfl) (ht ⟨⟨h5a, h5b⟩, h15, ⟨h23a, h23b⟩⟩)
      · refine pv_thenX ?_
        exact hf (fun h9 => h23 (by first | exact h9.1 | exact h9.2.1 | exact h9.2.2))
    · refine pv_thenX ?_
      exact hf (fun h9 => h15 (by first | exact h9.1 | exact h9.2.1 | exact h9.2.2))
  · refine pv_thenX ?_
    exact hf (fun h9 => h5 (by first | exact h9.1 | exact h9.2.1 | exact h9.2.2))
set_option maxRecDepth 20000 in
theorem bw_0 {Q : fmR → fmM → Prop} {M : fmM} {t b v x y mo : Int32} {v8 : Option Value} (hy : mo < mnV t b v x y 2 → Q (.inl (some (.int 2))) M) (hn : ¬ mo < mnV t b v x y 2 → Q (.inl (some (.int 0))) M) : pvEv Tx 1 qX10_bestWay 18 [some (.int t), some (.int b), some (.int v), some (.int x), some (.int y), some (.int 0), some (.int mo), some (.int 2), v8] [] M Q := by
  refine pv_iload (pc := 18) (i := 7) rfl (fm_dec dtX10_bestWay 12 rfl) ?_
  refine pv_iconst (pc := 20) (v := 2) (by decide) (fm_dec dtX10_bestWay 13 rfl) ?_
  refine pv_icmp_gt (pc := 21) 58 (by decide) (fm_dec dtX10_bestWay 14 rfl) (fun hc21 => by exfalso; revert hc21; decide) (fun _ => ?_)
  refine pv_iloadn (pc := 24) (n := 0) 0 rfl rfl (fm_dec dtX10_bestWay 15 rfl) ?_
  refine pv_iloadn (pc := 25) (n := 1) 1 rfl rfl (fm_dec dtX10_bestWay 16 rfl) ?_
  refine pv_iloadn (pc := 26) (n := 2) 2 rfl rfl (fm_dec dtX10_bestWay 17 rfl) ?_
  refine pv_iloadn (pc := 27) (n := 3) 3 rfl rfl (fm_dec dtX10_bestWay 18 rfl) ?_
  refine pv_iload (pc := 28) (i := 4) rfl (fm_dec dtX10_bestWay 19 rfl) ?_
  refine pv_iload (pc := 30) (i := 7) rfl (fm_dec dtX10_bestWay 20 rfl) ?_
  refine pv_iS6 (d' := 0) (pc := 32) pcs_X10_312 (Nat.le_of_ble_eq_true rfl) (by decide) (fm_dec dtX10_bestWay 21 rfl) ?_
  refine c_mean2 ?_
  refine pv_then1 ?_
  refine pv_istore (pc := 35) (i := 8) (by decide) rfl (fm_dec dtX10_bestWay 22 rfl) ?_
  dsimp only [List.set_cons_zero, List.set_cons_succ]
  refine pv_iload (pc := 37) (i := 8) rfl (fm_dec dtX10_bestWay 23 rfl) ?_
  refine pv_iload (pc := 39) (i := 6) rfl (fm_dec dtX10_bestWay 24 rfl) ?_
  refine pv_icmp_le (pc := 41) 52 (by decide) (fm_dec dtX10_bestWay 25 rfl) (fun hc41 => ?_) (fun hc41 => ?_)
  · refine pv_iincc (pc := 52) 7 1 (by decide) rfl (by decide) rfl (fm_dec dtX10_bestWay 30 rfl) ?_
    dsimp only [List.set_cons_zero, List.set_cons_succ]
    rw [show (2 : Int32) + 1 = 3 by decide]
    refine pv_goto (pc := 55) 18 (by decide) (fm_dec dtX10_bestWay 31 rfl) ?_
    refine pv_iload (pc := 18) (i := 7) rfl (fm_dec dtX10_bestWay 12 rfl) ?_
    refine pv_iconst (pc := 20) (v := 2) (by decide) (fm_dec dtX10_bestWay 13 rfl) ?_
    refine pv_icmp_gt (pc := 21) 58 (by decide) (fm_dec dtX10_bestWay 14 rfl) (fun _ => ?_) (fun hc21 => by exfalso; revert hc21; decide)
    refine pv_iload (pc := 58) (i := 5) rfl (fm_dec dtX10_bestWay 32 rfl) ?_
    exact pv_ireturn (pc := 60) rfl (fm_dec dtX10_bestWay 33 rfl) (hn (by rw [sc_lt]; rw [sc_le] at hc41; omega))
  · refine pv_iload (pc := 44) (i := 8) rfl (fm_dec dtX10_bestWay 26 rfl) ?_
    refine pv_istore (pc := 46) (i := 6) (by decide) rfl (fm_dec dtX10_bestWay 27 rfl) ?_
    dsimp only [List.set_cons_zero, List.set_cons_succ]
    refine pv_iload (pc := 48) (i := 7) rfl (fm_dec dtX10_bestWay 28 rfl) ?_
    refine pv_istore (pc := 50) (i := 5) (by decide) rfl (fm_dec dtX10_bestWay 29 rfl) ?_
    dsimp only [List.set_cons_zero, List.set_cons_succ]
    refine pv_iincc (pc := 52) 7 1 (by decide) rfl (by decide) rfl (fm_dec dtX10_bestWay 30 rfl) ?_
    dsimp only [List.set_cons_zero, List.set_cons_succ]
    rw [show (2 : Int32) + 1 = 3 by decide]
    refine pv_goto (pc := 55) 18 (by decide) (fm_dec dtX10_bestWay 31 rfl) ?_
    refine pv_iload (pc := 18) (i := 7) rfl (fm_dec dtX10_bestWay 12 rfl) ?_
    refine pv_iconst (pc := 20) (v := 2) (by decide) (fm_dec dtX10_bestWay 13 rfl) ?_
    refine pv_icmp_gt (pc := 21) 58 (by decide) (fm_dec dtX10_bestWay 14 rfl) (fun _ => ?_) (fun hc21 => by exfalso; revert hc21; decide)
    refine pv_iload (pc := 58) (i := 5) rfl (fm_dec dtX10_bestWay 32 rfl) ?_
    exact pv_ireturn (pc := 60) rfl (fm_dec dtX10_bestWay 33 rfl) (hy (by rw [sc_lt]; rw [sc_le] at hc41; omega))
set_option maxRecDepth 20000 in
theorem bw_1 {Q : fmR → fmM → Prop} {M : fmM} {t b v x y mo : Int32} {v8 : Option Value} (hy : mo < mnV t b v x y 2 → Q (.inl (some (.int 2))) M) (hn : ¬ mo < mnV t b v x y 2 → Q (.inl (some (.int 1))) M) : pvEv Tx 1 qX10_bestWay 18 [some (.int t), some (.int b), some (.int v), some (.int x), some (.int y), some (.int 1), some (.int mo), some (.int 2), v8] [] M Q := by
  refine pv_iload (pc := 18) (i := 7) rfl (fm_dec dtX10_bestWay 12 rfl) ?_
  refine pv_iconst (pc := 20) (v := 2) (by decide) (fm_dec dtX10_bestWay 13 rfl) ?_
  refine pv_icmp_gt (pc := 21) 58 (by decide) (fm_dec dtX10_bestWay 14 rfl) (fun hc21 => by exfalso; revert hc21; decide) (fun _ => ?_)
  refine pv_iloadn (pc := 24) (n := 0) 0 rfl rfl (fm_dec dtX10_bestWay 15 rfl) ?_
  refine pv_iloadn (pc := 25) (n := 1) 1 rfl rfl (fm_dec dtX10_bestWay 16 rfl) ?_
  refine pv_iloadn (pc := 26) (n := 2) 2 rfl rfl (fm_dec dtX10_bestWay 17 rfl) ?_
  refine pv_iloadn (pc := 27) (n := 3) 3 rfl rfl (fm_dec dtX10_bestWay 18 rfl) ?_
  refine pv_iload (pc := 28) (i := 4) rfl (fm_dec dtX10_bestWay 19 rfl) ?_
  refine pv_iload (pc := 30) (i := 7) rfl (fm_dec dtX10_bestWay 20 rfl) ?_
  refine pv_iS6 (d' := 0) (pc := 32) pcs_X10_312 (Nat.le_of_ble_eq_true rfl) (by decide) (fm_dec dtX10_bestWay 21 rfl) ?_
  refine c_mean2 ?_
  refine pv_then1 ?_
  refine pv_istore (pc := 35) (i := 8) (by decide) rfl (fm_dec dtX10_bestWay 22 rfl) ?_
  dsimp only [List.set_cons_zero, List.set_cons_succ]
  refine pv_iload (pc := 37) (i := 8) rfl (fm_dec dtX10_bestWay 23 rfl) ?_
  refine pv_iload (pc := 39) (i := 6) rfl (fm_dec dtX10_bestWay 24 rfl) ?_
  refine pv_icmp_le (pc := 41) 52 (by decide) (fm_dec dtX10_bestWay 25 rfl) (fun hc41 => ?_) (fun hc41 => ?_)
  · refine pv_iincc (pc := 52) 7 1 (by decide) rfl (by decide) rfl (fm_dec dtX10_bestWay 30 rfl) ?_
    dsimp only [List.set_cons_zero, List.set_cons_succ]
    rw [show (2 : Int32) + 1 = 3 by decide]
    refine pv_goto (pc := 55) 18 (by decide) (fm_dec dtX10_bestWay 31 rfl) ?_
    refine pv_iload (pc := 18) (i := 7) rfl (fm_dec dtX10_bestWay 12 rfl) ?_
    refine pv_iconst (pc := 20) (v := 2) (by decide) (fm_dec dtX10_bestWay 13 rfl) ?_
    refine pv_icmp_gt (pc := 21) 58 (by decide) (fm_dec dtX10_bestWay 14 rfl) (fun _ => ?_) (fun hc21 => by exfalso; revert hc21; decide)
    refine pv_iload (pc := 58) (i := 5) rfl (fm_dec dtX10_bestWay 32 rfl) ?_
    exact pv_ireturn (pc := 60) rfl (fm_dec dtX10_bestWay 33 rfl) (hn (by rw [sc_lt]; rw [sc_le] at hc41; omega))
  · refine pv_iload (pc := 44) (i := 8) rfl (fm_dec dtX10_bestWay 26 rfl) ?_
    refine pv_istore (pc := 46) (i := 6) (by decide) rfl (fm_dec dtX10_bestWay 27 rfl) ?_
    dsimp only [List.set_cons_zero, List.set_cons_succ]
    refine pv_iload (pc := 48) (i := 7) rfl (fm_dec dtX10_bestWay 28 rfl) ?_
    refine pv_istore (pc := 50) (i := 5) (by decide) rfl (fm_dec dtX10_bestWay 29 rfl) ?_
    dsimp only [List.set_cons_zero, List.set_cons_succ]
    refine pv_iincc (pc := 52) 7 1 (by decide) rfl (by decide) rfl (fm_dec dtX10_bestWay 30 rfl) ?_
    dsimp only [List.set_cons_zero, List.set_cons_succ]
    rw [show (2 : Int32) + 1 = 3 by decide]
    refine pv_goto (pc := 55) 18 (by decide) (fm_dec dtX10_bestWay 31 rfl) ?_
    refine pv_iload (pc := 18) (i := 7) rfl (fm_dec dtX10_bestWay 12 rfl) ?_
    refine pv_iconst (pc := 20) (v := 2) (by decide) (fm_dec dtX10_bestWay 13 rfl) ?_
    refine pv_icmp_gt (pc := 21) 58 (by decide) (fm_dec dtX10_bestWay 14 rfl) (fun _ => ?_) (fun hc21 => by exfalso; revert hc21; decide)
    refine pv_iload (pc := 58) (i := 5) rfl (fm_dec dtX10_bestWay 32 rfl) ?_
    exact pv_ireturn (pc := 60) rfl (fm_dec dtX10_bestWay 33 rfl) (hy (by rw [sc_lt]; rw [sc_le] at hc41; omega))
set_option maxRecDepth 20000 in
theorem c_xbest {M : fmM} {Q : fmR → fmM → Prop} {t b v x y : Int32} (hq : Q (.inl (some (.int (bwV t b v x y)))) M) : pvGood Tx 1 qX10_bestWay [.int t, .int b, .int v, .int x, .int y] M Q := by
  refine pvGood_of (Nat.le_of_ble_eq_true rfl) ?_
  show pvEv Tx 1 qX10_bestWay 0 [some (.int t), some (.int b), some (.int v), some (.int x), some (.int y), none, none, none, none] [] M Q
  refine pv_iconst (pc := 0) (v := 0) (by decide) (fm_dec dtX10_bestWay 0 rfl) ?_
  refine pv_istore (pc := 1) (i := 5) (by decide) rfl (fm_dec dtX10_bestWay 1 rfl) ?_
  dsimp only [List.set_cons_zero, List.set_cons_succ]
  refine pv_iloadn (pc := 3) (n := 0) 0 rfl rfl (fm_dec dtX10_bestWay 2 rfl) ?_
  refine pv_iloadn (pc := 4) (n := 1) 1 rfl rfl (fm_dec dtX10_bestWay 3 rfl) ?_
  refine pv_iloadn (pc := 5) (n := 2) 2 rfl rfl (fm_dec dtX10_bestWay 4 rfl) ?_
  refine pv_iloadn (pc := 6) (n := 3) 3 rfl rfl (fm_dec dtX10_bestWay 5 rfl) ?_
  refine pv_iload (pc := 7) (i := 4) rfl (fm_dec dtX10_bestWay 6 rfl) ?_
  refine pv_iconst (pc := 9) (v := 0) (by decide) (fm_dec dtX10_bestWay 7 rfl) ?_
  refine pv_iS6 (d' := 0) (pc := 10) pcs_X10_312 (Nat.le_of_ble_eq_true rfl) (by decide) (fm_dec dtX10_bestWay 8 rfl) ?_
  refine c_mean0 ?_
  refine pv_then1 ?_
  refine pv_istore (pc := 13) (i := 6) (by decide) rfl (fm_dec dtX10_bestWay 9 rfl) ?_
  dsimp only [List.set_cons_zero, List.set_cons_succ]
  refine pv_iconst (pc := 15) (v := 1) (by decide) (fm_dec dtX10_bestWay 10 rfl) ?_
  refine pv_istore (pc := 16) (i := 7) (by decide) rfl (fm_dec dtX10_bestWay 11 rfl) ?_
  dsimp only [List.set_cons_zero, List.set_cons_succ]
  refine pv_iload (pc := 18) (i := 7) rfl (fm_dec dtX10_bestWay 12 rfl) ?_
  refine pv_iconst (pc := 20) (v := 2) (by decide) (fm_dec dtX10_bestWay 13 rfl) ?_
  refine pv_icmp_gt (pc := 21) 58 (by decide) (fm_dec dtX10_bestWay 14 rfl) (fun hc21 => by exfalso; revert hc21; decide) (fun _ => ?_)
  refine pv_iloadn (pc := 24) (n := 0) 0 rfl rfl (fm_dec dtX10_bestWay 15 rfl) ?_
  refine pv_iloadn (pc := 25) (n := 1) 1 rfl rfl (fm_dec dtX10_bestWay 16 rfl) ?_
  refine pv_iloadn (pc := 26) (n := 2) 2 rfl rfl (fm_dec dtX10_bestWay 17 rfl) ?_
  refine pv_iloadn (pc := 27) (n := 3) 3 rfl rfl (fm_dec dtX10_bestWay 18 rfl) ?_
  refine pv_iload (pc := 28) (i := 4) rfl (fm_dec dtX10_bestWay 19 rfl) ?_
  refine pv_iload (pc := 30) (i := 7) rfl (fm_dec dtX10_bestWay 20 rfl) ?_
  refine pv_iS6 (d' := 0) (pc := 32) pcs_X10_312 (Nat.le_of_ble_eq_true rfl) (by decide) (fm_dec dtX10_bestWay 21 rfl) ?_
  refine c_mean1 ?_
  refine pv_then1 ?_
  refine pv_istore (pc := 35) (i := 8) (by decide) rfl (fm_dec dtX10_bestWay 22 rfl) ?_
  dsimp only [List.set_cons_zero, List.set_cons_succ]
  refine pv_iload (pc := 37) (i := 8) rfl (fm_dec dtX10_bestWay 23 rfl) ?_
  refine pv_iload (pc := 39) (i := 6) rfl (fm_dec dtX10_bestWay 24 rfl) ?_
  refine pv_icmp_le (pc := 41) 52 (by decide) (fm_dec dtX10_bestWay 25 rfl) (fun hc41 => ?_) (fun hc41 => ?_)
  · refine pv_iincc (pc := 52) 7 1 (by decide) rfl (by decide) rfl (fm_dec dtX10_bestWay 30 rfl) ?_
    dsimp only [List.set_cons_zero, List.set_cons_succ]
    rw [show (1 : Int32) + 1 = 2 by decide]
    refine pv_goto (pc := 55) 18 (by decide) (fm_dec dtX10_bestWay 31 rfl) ?_
    have e1 : b1V t b v x y = 0 := if_neg (by rw [sc_lt]; rw [sc_le] at hc41; omega)
    refine bw_0 (fun h => ?_) (fun h => ?_)
    · have h9 := hq; unfold bwV at h9; rw [e1, if_pos h] at h9; exact h9
    · have h9 := hq; unfold bwV at h9; rw [e1, if_neg h] at h9; exact h9
  · refine pv_iload (pc := 44) (i := 8) rfl (fm_dec dtX10_bestWay 26 rfl) ?_
    refine pv_istore (pc := 46) (i := 6) (by decide) rfl (fm_dec dtX10_bestWay 27 rfl) ?_
    dsimp only [List.set_cons_zero, List.set_cons_succ]
    refine pv_iload (pc := 48) (i := 7) rfl (fm_dec dtX10_bestWay 28 rfl) ?_
    refine pv_istore (pc := 50) (i := 5) (by decide) rfl (fm_dec dtX10_bestWay 29 rfl) ?_
    dsimp only [List.set_cons_zero, List.set_cons_succ]
    refine pv_iincc (pc := 52) 7 1 (by decide) rfl (by decide) rfl (fm_dec dtX10_bestWay 30 rfl) ?_
    dsimp only [List.set_cons_zero, List.set_cons_succ]
    rw [show (1 : Int32) + 1 = 2 by decide]
    refine pv_goto (pc := 55) 18 (by decide) (fm_dec dtX10_bestWay 31 rfl) ?_
    have e1 : b1V t b v x y = 1 := if_pos (by rw [sc_lt]; rw [sc_le] at hc41; omega)
    refine bw_1 (fun h => ?_) (fun h => ?_)
    · have h9 := hq; unfold bwV at h9; rw [e1, if_pos h] at h9; exact h9
    · have h9 := hq; unfold bwV at h9; rw [e1, if_neg h] at h9; exact h9
set_option maxRecDepth 20000 in
theorem c_xsays {M : fmM} {Q : fmR → fmM → Prop} {t b v x y : Int32} (ht : inW t 0 16 ∧ rgR b v x y → Q (.inl (some (.int (bwV t b v x y)))) M) (hf : ¬ (inW t 0 16 ∧ rgR b v x y) → Q (.inr fmIAE) (fmI M 0 16 (M.1 0 16 + 1))) : pvGood Tx 2 qX10_says [.ref 0, .int t, .int b, .int v, .int x, .int y] M Q := by
  refine pvGood_of (Nat.le_of_ble_eq_true rfl) ?_
  show pvEv Tx 2 qX10_says 0 [some (.ref 0), some (.int t), some (.int b), some (.int v), some (.int x), some (.int y)] [] M Q
  refine pv_aloadn (pc := 0) (n := 0) 0 rfl rfl (fm_dec dtX10_says 0 rfl) ?_
  refine pv_iloadn (pc := 1) (n := 1) 1 rfl rfl (fm_dec dtX10_says 1 rfl) ?_
  refine pv_iconst (pc := 2) (v := 0) (by decide) (fm_dec dtX10_says 2 rfl) ?_
  refine pv_bipush (pc := 3) (v := 16) (by decide) (fm_dec dtX10_says 3 rfl) ?_
  refine pv_invV3 (k := 0) (d' := 0) (pc := 5) pcv_X10_169 (by decide) rfl (Nat.le_of_ble_eq_true rfl) (by decide) (fm_dec dtX10_says 4 rfl) ?_
  refine c_needW (fun h5a h5b => ?_) (fun h5 => ?_)
  · refine pv_then0 ?_
    refine pv_aloadn (pc := 8) (n := 0) 0 rfl rfl (fm_dec dtX10_says 5 rfl) ?_
    refine pv_iloadn (pc := 9) (n := 2) 2 rfl rfl (fm_dec dtX10_says 6 rfl) ?_
    refine pv_iloadn (pc := 10) (n := 3) 3 rfl rfl (fm_dec dtX10_says 7 rfl) ?_
    refine pv_iload (pc := 11) (i := 4) rfl (fm_dec dtX10_says 8 rfl) ?_
    refine pv_iload (pc := 13) (i := 5) rfl (fm_dec dtX10_says 9 rfl) ?_
    refine pv_invV4 (k := 0) (d' := 1) (pc := 15) pcv_X10_308 (by decide) rfl (Nat.le_of_ble_eq_true rfl) (by decide) (fm_dec dtX10_says 10 rfl) ?_
    refine c_needR (fun h15 => ?_) (fun h15 => ?_)
    · refine pv_then0 ?_
      refine pv_iloadn (pc := 18) (n := 1) 1 rfl rfl (fm_dec dtX10_says 11 rfl) ?_
      refine pv_iloadn (pc := 19) (n := 2) 2 rfl rfl (fm_dec dtX10_says 12 rfl) ?_
      refine pv_iloadn (pc := 20) (n := 3) 3 rfl rfl (fm_dec dtX10_says 13 rfl) ?_
      refine pv_iload (pc := 21) (i := 4) rfl (fm_dec dtX10_says 14 rfl) ?_
      refine pv_iload (pc := 23) (i := 5) rfl (fm_dec dtX10_says 15 rfl) ?_
      refine pv_iS5 (d' := 1) (pc := 25) pcs_X10_316 (Nat.le_of_ble_eq_true rfl) (by decide) (fm_dec dtX10_says 16 rfl) ?_
      refine c_xbest ?_
      refine pv_then1 ?_
      exact pv_ireturn (pc := 28) rfl (fm_dec dtX10_says 17 rfl) (ht ⟨⟨h5a, h5b⟩, h15⟩)
    · refine pv_thenX ?_
      exact hf (fun h9 => h15 (by first | exact h9.1 | exact h9.2))
  · refine pv_thenX ?_
    exact hf (fun h9 => h5 (by first | exact h9.1 | exact h9.2))
set_option maxRecDepth 20000 in
theorem ln_x {Q : fmR → fmM → Prop} {M : fmM} {b v x y : Int32} : ∀ (n k : Nat), k + n = 17 → Q (.inl (some (.int (lnV b v x y n k)))) M → pvEv Tx 2 qX10_line 12 [some (.ref 0), some (.int b), some (.int v), some (.int x), some (.int y), some (.int (nI k))] [] M Q := by
  intro n
  induction n with
  | zero =>
    intro k hk hq
    refine pv_iload (pc := 12) (i := 5) rfl (fm_dec dtX10_line 8 rfl) ?_
    refine pv_bipush (pc := 14) (v := 16) (by decide) (fm_dec dtX10_line 9 rfl) ?_
    refine pv_icmp_gt (pc := 16) 41 (by decide) (fm_dec dtX10_line 10 rfl) (fun _ => ?_) (fun hc16 => by exfalso; apply hc16; rw [sc_lt]; have h8 : (16 : Int32).toInt = 16 := (by decide); have h7 : (nI k).toInt = (k : Int) := nI_toInt (by omega); omega)
    refine pv_iconst (pc := 41) (v := (-1)) (by decide) (fm_dec dtX10_line 22 rfl) ?_
    exact pv_ireturn (pc := 42) rfl (fm_dec dtX10_line 23 rfl) (hq : _)
  | succ n ih =>
    intro k hk hq
    refine pv_iload (pc := 12) (i := 5) rfl (fm_dec dtX10_line 8 rfl) ?_
    refine pv_bipush (pc := 14) (v := 16) (by decide) (fm_dec dtX10_line 9 rfl) ?_
    refine pv_icmp_gt (pc := 16) 41 (by decide) (fm_dec dtX10_line 10 rfl) (fun hc16 => by exfalso; rw [sc_lt] at hc16; have h8 : (16 : Int32).toInt = 16 := (by decide); have h7 : (nI k).toInt = (k : Int) := nI_toInt (by omega); omega) (fun _ => ?_)
    refine pv_iload (pc := 19) (i := 5) rfl (fm_dec dtX10_line 11 rfl) ?_
    refine pv_iloadn (pc := 21) (n := 1) 1 rfl rfl (fm_dec dtX10_line 12 rfl) ?_
    refine pv_iloadn (pc := 22) (n := 2) 2 rfl rfl (fm_dec dtX10_line 13 rfl) ?_
    refine pv_iloadn (pc := 23) (n := 3) 3 rfl rfl (fm_dec dtX10_line 14 rfl) ?_
    refine pv_iload (pc := 24) (i := 4) rfl (fm_dec dtX10_line 15 rfl) ?_
    refine pv_iS5 (d' := 1) (pc := 26) pcs_X10_316 (Nat.le_of_ble_eq_true rfl) (by decide) (fm_dec dtX10_line 16 rfl) ?_
    refine c_xbest ?_
    refine pv_then1 ?_
    refine pv_if_ne (pc := 29) 35 (by decide) (fm_dec dtX10_line 17 rfl) (fun hc29 => ?_) (fun hc29 => ?_)
    · refine pv_iincc (pc := 35) 5 1 (by decide) rfl (by decide) rfl (fm_dec dtX10_line 20 rfl) ?_
      dsimp only [List.set_cons_zero, List.set_cons_succ]
      refine pv_goto (pc := 38) 12 (by decide) (fm_dec dtX10_line 21 rfl) ?_
      rw [nI_succ1]
      refine ih (k + 1) (by omega) ?_
      have h9 := hq; simp only [lnV] at h9; rw [if_neg hc29] at h9; exact h9
    · refine pv_iload (pc := 32) (i := 5) rfl (fm_dec dtX10_line 18 rfl) ?_
      exact pv_ireturn (pc := 34) rfl (fm_dec dtX10_line 19 rfl) (by have h9 := hq; simp only [lnV] at h9; rw [if_pos hc29] at h9; exact h9)
set_option maxRecDepth 20000 in
theorem c_xline {M : fmM} {Q : fmR → fmM → Prop} {b v x y : Int32} (ht : rgR b v x y → Q (.inl (some (.int (lnV b v x y 17 0)))) M) (hf : ¬ rgR b v x y → Q (.inr fmIAE) (fmI M 0 16 (M.1 0 16 + 1))) : pvGood Tx 2 qX10_line [.ref 0, .int b, .int v, .int x, .int y] M Q := by
  refine pvGood_of (Nat.le_of_ble_eq_true rfl) ?_
  show pvEv Tx 2 qX10_line 0 [some (.ref 0), some (.int b), some (.int v), some (.int x), some (.int y), none] [] M Q
  refine pv_aloadn (pc := 0) (n := 0) 0 rfl rfl (fm_dec dtX10_line 0 rfl) ?_
  refine pv_iloadn (pc := 1) (n := 1) 1 rfl rfl (fm_dec dtX10_line 1 rfl) ?_
  refine pv_iloadn (pc := 2) (n := 2) 2 rfl rfl (fm_dec dtX10_line 2 rfl) ?_
  refine pv_iloadn (pc := 3) (n := 3) 3 rfl rfl (fm_dec dtX10_line 3 rfl) ?_
  refine pv_iload (pc := 4) (i := 4) rfl (fm_dec dtX10_line 4 rfl) ?_
  refine pv_invV4 (k := 0) (d' := 1) (pc := 6) pcv_X10_308 (by decide) rfl (Nat.le_of_ble_eq_true rfl) (by decide) (fm_dec dtX10_line 5 rfl) ?_
  refine c_needR (fun h6 => ?_) (fun h6 => ?_)
  · refine pv_then0 ?_
    refine pv_iconst (pc := 9) (v := 0) (by decide) (fm_dec dtX10_line 6 rfl) ?_
    refine pv_istore (pc := 10) (i := 5) (by decide) rfl (fm_dec dtX10_line 7 rfl) ?_
    dsimp only [List.set_cons_zero, List.set_cons_succ]
    exact ln_x 17 0 (by decide) (ht h6)
  · refine pv_thenX ?_
    exact hf h6
set_option maxRecDepth 20000 in
theorem c_isRum {M : fmM} {Q : fmR → fmM → Prop} {b v x y : Int32} (ht : rgR b v x y → Q (.inl (some (.int 1))) M) (hf : ¬ rgR b v x y → Q (.inl (some (.int 0))) M) : pvGood Tm 1 qX11_isRumour [.int b, .int v, .int x, .int y] M Q := by
  refine pvGood_of (Nat.le_of_ble_eq_true rfl) ?_
  show pvEv Tm 1 qX11_isRumour 0 [some (.int b), some (.int v), some (.int x), some (.int y)] [] M Q
  refine pv_iloadn (pc := 0) (n := 0) 0 rfl rfl (fm_dec dtX11_isRumour 0 rfl) ?_
  refine pv_iconst (pc := 1) (v := 0) (by decide) (fm_dec dtX11_isRumour 1 rfl) ?_
  refine pv_bipush (pc := 2) (v := 16) (by decide) (fm_dec dtX11_isRumour 2 rfl) ?_
  refine pv_iS3 (d' := 0) (pc := 4) pcs_X11_135 (Nat.le_of_ble_eq_true rfl) (by decide) (fm_dec dtX11_isRumour 3 rfl) ?_
  refine c_in (fun h4a h4b => ?_) (fun h4 => ?_)
  · refine pv_then1 ?_
    refine pv_if_eq (pc := 7) 47 (by decide) (fm_dec dtX11_isRumour 4 rfl) (fun hc7 => by exfalso; revert hc7; decide) (fun _ => ?_)
    refine pv_iloadn (pc := 10) (n := 1) 1 rfl rfl (fm_dec dtX11_isRumour 5 rfl) ?_
    refine pv_iconst (pc := 11) (v := 0) (by decide) (fm_dec dtX11_isRumour 6 rfl) ?_
    refine pv_sipush (pc := 12) (v := 999) (by decide) (fm_dec dtX11_isRumour 7 rfl) ?_
    refine pv_iS3 (d' := 0) (pc := 15) pcs_X11_135 (Nat.le_of_ble_eq_true rfl) (by decide) (fm_dec dtX11_isRumour 8 rfl) ?_
    refine c_in (fun h15a h15b => ?_) (fun h15 => ?_)
    · refine pv_then1 ?_
      refine pv_if_eq (pc := 18) 47 (by decide) (fm_dec dtX11_isRumour 9 rfl) (fun hc18 => by exfalso; revert hc18; decide) (fun _ => ?_)
      refine pv_iloadn (pc := 21) (n := 2) 2 rfl rfl (fm_dec dtX11_isRumour 10 rfl) ?_
      refine pv_iconst (pc := 22) (v := 0) (by decide) (fm_dec dtX11_isRumour 11 rfl) ?_
      refine pv_sipush (pc := 23) (v := 999) (by decide) (fm_dec dtX11_isRumour 12 rfl) ?_
      refine pv_iS3 (d' := 0) (pc := 26) pcs_X11_135 (Nat.le_of_ble_eq_true rfl) (by decide) (fm_dec dtX11_isRumour 13 rfl) ?_
      refine c_in (fun h26a h26b => ?_) (fun h26 => ?_)
      · refine pv_then1 ?_
        refine pv_if_eq (pc := 29) 47 (by decide) (fm_dec dtX11_isRumour 14 rfl) (fun hc29 => by exfalso; revert hc29; decide) (fun _ => ?_)
        refine pv_iloadn (pc := 32) (n := 3) 3 rfl rfl (fm_dec dtX11_isRumour 15 rfl) ?_
        refine pv_iconst (pc := 33) (v := 0) (by decide) (fm_dec dtX11_isRumour 16 rfl) ?_
        refine pv_sipush (pc := 34) (v := 999) (by decide) (fm_dec dtX11_isRumour 17 rfl) ?_
        refine pv_iS3 (d' := 0) (pc := 37) pcs_X11_135 (Nat.le_of_ble_eq_true rfl) (by decide) (fm_dec dtX11_isRumour 18 rfl) ?_
        refine c_in (fun h37a h37b => ?_) (fun h37 => ?_)
        · refine pv_then1 ?_
          refine pv_if_eq (pc := 40) 47 (by decide) (fm_dec dtX11_isRumour 19 rfl) (fun hc40 => by exfalso; revert hc40; decide) (fun _ => ?_)
          refine pv_iconst (pc := 43) (v := 1) (by decide) (fm_dec dtX11_isRumour 20 rfl) ?_
          refine pv_goto (pc := 44) 48 (by decide) (fm_dec dtX11_isRumour 21 rfl) ?_
          exact pv_zreturn (pc := 48) rfl (by first | exact Or.inr rfl | exact Or.inl rfl) (fm_dec dtX11_isRumour 23 rfl) (by first | exact ht ⟨⟨h4a, h4b⟩, ⟨h15a, h15b⟩, ⟨h26a, h26b⟩, ⟨h37a, h37b⟩⟩ | exact hf (fun h9 => h37 h9.2.2.2) | exact hf (fun h9 => h26 h9.2.2.1) | exact hf (fun h9 => h15 h9.2.1) | exact hf (fun h9 => h4 h9.1))
        · refine pv_then1 ?_
          refine pv_if_eq (pc := 40) 47 (by decide) (fm_dec dtX11_isRumour 19 rfl) (fun _ => ?_) (fun hc40 => by exfalso; revert hc40; decide)
          refine pv_iconst (pc := 47) (v := 0) (by decide) (fm_dec dtX11_isRumour 22 rfl) ?_
          exact pv_zreturn (pc := 48) rfl (by first | exact Or.inr rfl | exact Or.inl rfl) (fm_dec dtX11_isRumour 23 rfl) (by first | exact ht ⟨⟨h4a, h4b⟩, ⟨h15a, h15b⟩, ⟨h26a, h26b⟩, ⟨h37a, h37b⟩⟩ | exact hf (fun h9 => h37 h9.2.2.2) | exact hf (fun h9 => h26 h9.2.2.1) | exact hf (fun h9 => h15 h9.2.1) | exact hf (fun h9 => h4 h9.1))
      · refine pv_then1 ?_
        refine pv_if_eq (pc := 29) 47 (by decide) (fm_dec dtX11_isRumour 14 rfl) (fun _ => ?_) (fun hc29 => by exfalso; revert hc29; decide)
        refine pv_iconst (pc := 47) (v := 0) (by decide) (fm_dec dtX11_isRumour 22 rfl) ?_
        exact pv_zreturn (pc := 48) rfl (by first | exact Or.inr rfl | exact Or.inl rfl) (fm_dec dtX11_isRumour 23 rfl) (by first | exact ht ⟨⟨h4a, h4b⟩, ⟨h15a, h15b⟩, ⟨h26a, h26b⟩, ⟨h37a, h37b⟩⟩ | exact hf (fun h9 => h37 h9.2.2.2) | exact hf (fun h9 => h26 h9.2.2.1) | exact hf (fun h9 => h15 h9.2.1) | exact hf (fun h9 => h4 h9.1))
    · refine pv_then1 ?_
      refine pv_if_eq (pc := 18) 47 (by decide) (fm_dec dtX11_isRumour 9 rfl) (fun _ => ?_) (fun hc18 => by exfalso; revert hc18; decide)
      refine pv_iconst (pc := 47) (v := 0) (by decide) (fm_dec dtX11_isRumour 22 rfl) ?_
      exact pv_zreturn (pc := 48) rfl (by first | exact Or.inr rfl | exact Or.inl rfl) (fm_dec dtX11_isRumour 23 rfl) (by first | exact ht ⟨⟨h4a, h4b⟩, ⟨h15a, h15b⟩, ⟨h26a, h26b⟩, ⟨h37a, h37b⟩⟩ | exact hf (fun h9 => h37 h9.2.2.2) | exact hf (fun h9 => h26 h9.2.2.1) | exact hf (fun h9 => h15 h9.2.1) | exact hf (fun h9 => h4 h9.1))
  · refine pv_then1 ?_
    refine pv_if_eq (pc := 7) 47 (by decide) (fm_dec dtX11_isRumour 4 rfl) (fun _ => ?_) (fun hc7 => by exfalso; revert hc7; decide)
    refine pv_iconst (pc := 47) (v := 0) (by decide) (fm_dec dtX11_isRumour 22 rfl) ?_
    exact pv_zreturn (pc := 48) rfl (by first | exact Or.inr rfl | exact Or.inl rfl) (fm_dec dtX11_isRumour 23 rfl) (by first | exact ht ⟨⟨h4a, h4b⟩, ⟨h15a, h15b⟩, ⟨h26a, h26b⟩, ⟨h37a, h37b⟩⟩ | exact hf (fun h9 => h37 h9.2.2.2) | exact hf (fun h9 => h26 h9.2.2.1) | exact hf (fun h9 => h15 h9.2.1) | exact hf (fun h9 => h4 h9.1))
set_option maxRecDepth 20000 in
theorem c_bringsBy {M : fmM} {Q : fmR → fmM → Prop} {t b v x y w : Int32} (hq : Q (.inl (some (.int (mnV t b v x y w)))) M) : pvGood Tm 0 qX11_bringsBy [.int t, .int b, .int v, .int x, .int y, .int w] M Q := by
  refine pvGood_of (Nat.le_of_ble_eq_true rfl) ?_
  show pvEv Tm 0 qX11_bringsBy 0 [some (.int t), some (.int b), some (.int v), some (.int x), some (.int y), some (.int w)] [] M Q
  refine pv_iload (pc := 0) (i := 5) rfl (fm_dec dtX11_bringsBy 0 rfl) ?_
  refine pv_iconst (pc := 2) (v := 2) (by decide) (fm_dec dtX11_bringsBy 1 rfl) ?_
  refine pv_icmp_ne (pc := 3) 17 (by decide) (fm_dec dtX11_bringsBy 2 rfl) (fun hc3 => ?_) (fun hc3 => ?_)
  · refine pv_bipush (pc := 17) (v := 16) (by decide) (fm_dec dtX11_bringsBy 11 rfl) ?_
    refine pv_iloadn (pc := 19) (n := 0) 0 rfl rfl (fm_dec dtX11_bringsBy 12 rfl) ?_
    refine pv_iloadn (pc := 20) (n := 2) 2 rfl rfl (fm_dec dtX11_bringsBy 13 rfl) ?_
    refine pv_imul (pc := 21) (fm_dec dtX11_bringsBy 14 rfl) ?_
    refine pv_bipush (pc := 22) (v := 16) (by decide) (fm_dec dtX11_bringsBy 15 rfl) ?_
    refine pv_iloadn (pc := 24) (n := 0) 0 rfl rfl (fm_dec dtX11_bringsBy 16 rfl) ?_
    refine pv_isub (pc := 25) (fm_dec dtX11_bringsBy 17 rfl) ?_
    refine pv_iload (pc := 26) (i := 5) rfl (fm_dec dtX11_bringsBy 18 rfl) ?_
    refine pv_if_ne (pc := 28) 35 (by decide) (fm_dec dtX11_bringsBy 19 rfl) (fun hc28 => ?_) (fun hc28 => ?_)
    · refine pv_iload (pc := 35) (i := 4) rfl (fm_dec dtX11_bringsBy 22 rfl) ?_
      refine pv_imul (pc := 37) (fm_dec dtX11_bringsBy 23 rfl) ?_
      refine pv_isub (pc := 38) (fm_dec dtX11_bringsBy 24 rfl) ?_
      refine pv_imul (pc := 39) (fm_dec dtX11_bringsBy 25 rfl) ?_
      exact pv_ireturn (pc := 40) rfl (fm_dec dtX11_bringsBy 26 rfl) (by have h9 := hq; unfold mnV at h9; rw [if_neg hc3, if_neg hc28] at h9; exact h9)
    · refine pv_iloadn (pc := 31) (n := 3) 3 rfl rfl (fm_dec dtX11_bringsBy 20 rfl) ?_
      refine pv_goto (pc := 32) 37 (by decide) (fm_dec dtX11_bringsBy 21 rfl) ?_
      refine pv_imul (pc := 37) (fm_dec dtX11_bringsBy 23 rfl) ?_
      refine pv_isub (pc := 38) (fm_dec dtX11_bringsBy 24 rfl) ?_
      refine pv_imul (pc := 39) (fm_dec dtX11_bringsBy 25 rfl) ?_
      exact pv_ireturn (pc := 40) rfl (fm_dec dtX11_bringsBy 26 rfl) (by have h9 := hq; unfold mnV at h9; rw [if_neg hc3, if_pos hc28] at h9; exact h9)
  · refine pv_iloadn (pc := 6) (n := 0) 0 rfl rfl (fm_dec dtX11_bringsBy 3 rfl) ?_
    refine pv_bipush (pc := 7) (v := 16) (by decide) (fm_dec dtX11_bringsBy 4 rfl) ?_
    refine pv_iloadn (pc := 9) (n := 1) 1 rfl rfl (fm_dec dtX11_bringsBy 5 rfl) ?_
    refine pv_isub (pc := 10) (fm_dec dtX11_bringsBy 6 rfl) ?_
    refine pv_imul (pc := 11) (fm_dec dtX11_bringsBy 7 rfl) ?_
    refine pv_iloadn (pc := 12) (n := 2) 2 rfl rfl (fm_dec dtX11_bringsBy 8 rfl) ?_
    refine pv_imul (pc := 13) (fm_dec dtX11_bringsBy 9 rfl) ?_
    refine pv_goto (pc := 14) 40 (by decide) (fm_dec dtX11_bringsBy 10 rfl) ?_
    exact pv_ireturn (pc := 40) rfl (fm_dec dtX11_bringsBy 26 rfl) (by have h9 := hq; unfold mnV at h9; rw [if_pos hc3] at h9; exact h9)
set_option maxRecDepth 20000 in
theorem c_mbrings {M : fmM} {Q : fmR → fmM → Prop} {t b v x y w : Int32} (ht : inW t 0 16 ∧ rgR b v x y ∧ inW w 0 2 → Q (.inl (some (.int (mnV t b v x y w)))) (fmI M 0 0 0)) (hf : ¬ (inW t 0 16 ∧ rgR b v x y ∧ inW w 0 2) → ∀ M' : fmM, M'.1 0 0 = 1 → Q (.inl (some (.int 0))) M') : pvGood Tm 2 qX11_brings [.ref 0, .int t, .int b, .int v, .int x, .int y, .int w] M Q := by
  refine pvGood_of (Nat.le_of_ble_eq_true rfl) ?_
  show pvEv Tm 2 qX11_brings 0 [some (.ref 0), some (.int t), some (.int b), some (.int v), some (.int x), some (.int y), some (.int w)] [] M Q
  refine pv_aloadn (pc := 0) (n := 0) 0 rfl rfl (fm_dec dtX11_brings 0 rfl) ?_
  refine pv_iconst (pc := 1) (v := 0) (by decide) (fm_dec dtX11_brings 1 rfl) ?_
  refine pv_putI (k := 0) (j := 0) (ci := 11) (pc := 2) pfl_X11_101 (by decide) rfl (by decide) (fm_dec dtX11_brings 2 rfl) ?_
  refine pv_aloadn (pc := 5) (n := 0) 0 rfl rfl (fm_dec dtX11_brings 3 rfl) ?_
  refine pv_iloadn (pc := 6) (n := 1) 1 rfl rfl (fm_dec dtX11_brings 4 rfl) ?_
  refine pv_iconst (pc := 7) (v := 0) (by decide) (fm_dec dtX11_brings 5 rfl) ?_
  refine pv_bipush (pc := 8) (v := 16) (by decide) (fm_dec dtX11_brings 6 rfl) ?_
  refine pv_iS3 (d' := 0) (pc := 10) pcs_X11_135 (Nat.le_of_ble_eq_true rfl) (by decide) (fm_dec dtX11_brings 7 rfl) ?_
  refine c_in (fun h10a h10b => ?_) (fun h10 => ?_)
  · refine pv_then1 ?_
    refine pv_if_eq (pc := 13) 38 (by decide) (fm_dec dtX11_brings 8 rfl) (fun hc13 => by exfalso; revert hc13; decide) (fun _ => ?_)
    refine pv_iloadn (pc := 16) (n := 2) 2 rfl rfl (fm_dec dtX11_brings 9 rfl) ?_
    refine pv_iloadn (pc := 17) (n := 3) 3 rfl rfl (fm_dec dtX11_brings 10 rfl) ?_
    refine pv_iload (pc := 18) (i := 4) rfl (fm_dec dtX11_brings 11 rfl) ?_
    refine pv_iload (pc := 20) (i := 5) rfl (fm_dec dtX11_brings 12 rfl) ?_
    refine pv_iS4 (d' := 1) (pc := 22) pcs_X11_389 (Nat.le_of_ble_eq_true rfl) (by decide) (fm_dec dtX11_brings 13 rfl) ?_
    refine c_isRum (fun h22 => ?_) (fun h22 => ?_)
    · refine pv_then1 ?_
      refine pv_if_eq (pc := 25) 38 (by decide) (fm_dec dtX11_brings 14 rfl) (fun hc25 => by exfalso; revert hc25; decide) (fun _ => ?_)
      refine pv_iload (pc := 28) (i := 6) rfl (fm_dec dtX11_brings 15 rfl) ?_
      refine pv_iconst (pc := 30) (v := 0) (by decide) (fm_dec dtX11_brings 16 rfl) ?_
      refine pv_iconst (pc := 31) (v := 2) (by decide) (fm_dec dtX11_brings 17 rfl) ?_
      refine pv_iS3 (d' := 0) (pc := 32) pcs_X11_135 (Nat.le_of_ble_eq_true rfl) (by decide) (fm_dec dtX11_brings 18 rfl) ?_
      refine c_in (fun h32a h32b => ?_) (fun h32 => ?_)
      · refine pv_then1 ?_
        refine pv_if_ne (pc := 35) 42 (by decide) (fm_dec dtX11_brings 19 rfl) (fun _ => ?_) (fun hc35 => by exfalso; revert hc35; decide)
        refine pv_iconst (pc := 42) (v := 0) (by decide) (fm_dec dtX11_brings 22 rfl) ?_
        refine pv_iconst (pc := 43) (v := 1) (by decide) (fm_dec dtX11_brings 23 rfl) ?_
        refine pv_iconst (pc := 44) (v := 1) (by decide) (fm_dec dtX11_brings 24 rfl) ?_
        refine pv_invV3 (k := 0) (d' := 0) (pc := 45) pcv_X11_177 (by decide) rfl (Nat.le_of_ble_eq_true rfl) (by decide) (fm_dec dtX11_brings 25 rfl) ?_
        refine c_badF1 rfl ?_
        refine pv_then1 ?_
        refine pv_if_eq (pc := 48) 53 (by decide) (fm_dec dtX11_brings 26 rfl) (fun _ => ?_) (fun hc48 => by exfalso; revert hc48; decide)
        refine pv_iloadn (pc := 53) (n := 1) 1 rfl rfl (fm_dec dtX11_brings 29 rfl) ?_
        refine pv_iloadn (pc := 54) (n := 2) 2 rfl rfl (fm_dec dtX11_brings 30 rfl) ?_
        refine pv_iloadn (pc := 55) (n := 3) 3 rfl rfl (fm_dec dtX11_brings 31 rfl) ?_
        refine pv_iload (pc := 56) (i := 4) rfl (fm_dec dtX11_brings 32 rfl) ?_
        refine pv_iload (pc := 58) (i := 5) rfl (fm_dec dtX11_brings 33 rfl) ?_
        refine pv_iload (pc := 60) (i := 6) rfl (fm_dec dtX11_brings 34 rfl) ?_
        refine pv_iS6 (d' := 0) (pc := 62) pcs_X11_393 (Nat.le_of_ble_eq_true rfl) (by decide) (fm_dec dtX11_brings 35 rfl) ?_
        refine c_bringsBy ?_
        refine pv_then1 ?_
        exact pv_ireturn (pc := 65) rfl (fm_dec dtX11_brings 36 rfl) (ht ⟨⟨h10a, h10b⟩, h22, ⟨h32a, h32b⟩⟩)
      · refine pv_then1 ?_
        refine pv_if_ne (pc := 35) 42 (by decide) (fm_dec dtX11_brings 19 rfl) (fun hc35 => by exfalso; revert hc35; decide) (fun _ => ?_)
        refine pv_iconst (pc := 38) (v := 1) (by decide) (fm_dec dtX11_brings 20 rfl) ?_
        refine pv_goto (pc := 39) 43 (by decide) (fm_dec dtX11_brings 21 rfl) ?_
        refine pv_iconst (pc := 43) (v := 1) (by decide) (fm_dec dtX11_brings 23 rfl) ?_
        refine pv_iconst (pc := 44) (v := 1) (by decide) (fm_dec dtX11_brings 24 rfl) ?_
        refine pv_invV3 (k := 0) (d' := 0) (pc := 45) pcv_X11_177 (by decide) rfl (Nat.le_of_ble_eq_true rfl) (by decide) (fm_dec dtX11_brings 25 rfl) ?_
        refine c_badT1 rfl (by decide) ?_
        refine pv_then1 ?_
        refine pv_if_eq (pc := 48) 53 (by decide) (fm_dec dtX11_brings 26 rfl) (fun hc48 => by exfalso; revert hc48; decide) (fun _ => ?_)
        refine pv_iconst (pc := 51) (v := 0) (by decide) (fm_dec dtX11_brings 27 rfl) ?_
        exact pv_ireturn (pc := 52) rfl (fm_dec dtX11_brings 28 rfl) (hf (by intro h9; first | exact h32 h9.2.2 | exact h22 h9.2.1 | exact h10 h9.1) _ rfl)
    · refine pv_then1 ?_
      refine pv_if_eq (pc := 25) 38 (by decide) (fm_dec dtX11_brings 14 rfl) (fun _ => ?_) (fun hc25 => by exfalso; revert hc25; decide)
      refine pv_iconst (pc := 38) (v := 1) (by decide) (fm_dec dtX11_brings 20 rfl) ?_
      refine pv_goto (pc := 39) 43 (by decide) (fm_dec dtX11_brings 21 rfl) ?_
      refine pv_iconst (pc := 43) (v := 1) (by decide) (fm_dec dtX11_brings 23 rfl) ?_
      refine pv_iconst (pc := 44) (v := 1) (by decide) (fm_dec dtX11_brings 24 rfl) ?_
      refine pv_invV3 (k := 0) (d' := 0) (pc := 45) pcv_X11_177 (by decide) rfl (Nat.le_of_ble_eq_true rfl) (by decide) (fm_dec dtX11_brings 25 rfl) ?_
      refine c_badT1 rfl (by decide) ?_
      refine pv_then1 ?_
      refine pv_if_eq (pc := 48) 53 (by decide) (fm_dec dtX11_brings 26 rfl) (fun hc48 => by exfalso; revert hc48; decide) (fun _ => ?_)
      refine pv_iconst (pc := 51) (v := 0) (by decide) (fm_dec dtX11_brings 27 rfl) ?_
      exact pv_ireturn (pc := 52) rfl (fm_dec dtX11_brings 28 rfl) (hf (by intro h9; first | exact h32 h9.2.2 | exact h22 h9.2.1 | exact h10 h9.1) _ rfl)
  · refine pv_then1 ?_
    refine pv_if_eq (pc := 13) 38 (by decide) (fm_dec dtX11_brings 8 rfl) (fun _ => ?_) (fun hc13 => by exfalso; revert hc13; decide)
    refine pv_iconst (pc := 38) (v := 1) (by decide) (fm_dec dtX11_brings 20 rfl) ?_
    refine pv_goto (pc := 39) 43 (by decide) (fm_dec dtX11_brings 21 rfl) ?_
    refine pv_iconst (pc := 43) (v := 1) (by decide) (fm_dec dtX11_brings 23 rfl) ?_
    refine pv_iconst (pc := 44) (v := 1) (by decide) (fm_dec dtX11_brings 24 rfl) ?_
    refine pv_invV3 (k := 0) (d' := 0) (pc := 45) pcv_X11_177 (by decide) rfl (Nat.le_of_ble_eq_true rfl) (by decide) (fm_dec dtX11_brings 25 rfl) ?_
    refine c_badT1 rfl (by decide) ?_
    refine pv_then1 ?_
    refine pv_if_eq (pc := 48) 53 (by decide) (fm_dec dtX11_brings 26 rfl) (fun hc48 => by exfalso; revert hc48; decide) (fun _ => ?_)
    refine pv_iconst (pc := 51) (v := 0) (by decide) (fm_dec dtX11_brings 27 rfl) ?_
    exact pv_ireturn (pc := 52) rfl (fm_dec dtX11_brings 28 rfl) (hf (by intro h9; first | exact h32 h9.2.2 | exact h22 h9.2.1 | exact h10 h9.1) _ rfl)
set_option maxRecDepth 20000 in
theorem sb_0 {Q : fmR → fmM → Prop} {M : fmM} {t b v x y : Int32} (hy : mnV t b v x y 0 < mnV t b v x y 2 → Q (.inl (some (.int 2))) M) (hn : ¬ mnV t b v x y 0 < mnV t b v x y 2 → Q (.inl (some (.int 0))) M) : pvEv Tm 1 qX11_saysBy 6 [some (.int t), some (.int b), some (.int v), some (.int x), some (.int y), some (.int 0), some (.int 2)] [] M Q := by
  refine pv_iload (pc := 6) (i := 6) rfl (fm_dec dtX11_saysBy 4 rfl) ?_
  refine pv_iconst (pc := 8) (v := 3) (by decide) (fm_dec dtX11_saysBy 5 rfl) ?_
  refine pv_icmp_ge (pc := 9) 52 (by decide) (fm_dec dtX11_saysBy 6 rfl) (fun hc9 => by exfalso; revert hc9; decide) (fun _ => ?_)
  refine pv_iloadn (pc := 12) (n := 0) 0 rfl rfl (fm_dec dtX11_saysBy 7 rfl) ?_
  refine pv_iloadn (pc := 13) (n := 1) 1 rfl rfl (fm_dec dtX11_saysBy 8 rfl) ?_
  refine pv_iloadn (pc := 14) (n := 2) 2 rfl rfl (fm_dec dtX11_saysBy 9 rfl) ?_
  refine pv_iloadn (pc := 15) (n := 3) 3 rfl rfl (fm_dec dtX11_saysBy 10 rfl) ?_
  refine pv_iload (pc := 16) (i := 4) rfl (fm_dec dtX11_saysBy 11 rfl) ?_
  refine pv_iload (pc := 18) (i := 6) rfl (fm_dec dtX11_saysBy 12 rfl) ?_
  refine pv_iS6 (d' := 0) (pc := 20) pcs_X11_393 (Nat.le_of_ble_eq_true rfl) (by decide) (fm_dec dtX11_saysBy 13 rfl) ?_
  refine c_bringsBy ?_
  refine pv_then1 ?_
  refine pv_iloadn (pc := 23) (n := 0) 0 rfl rfl (fm_dec dtX11_saysBy 14 rfl) ?_
  refine pv_iloadn (pc := 24) (n := 1) 1 rfl rfl (fm_dec dtX11_saysBy 15 rfl) ?_
  refine pv_iloadn (pc := 25) (n := 2) 2 rfl rfl (fm_dec dtX11_saysBy 16 rfl) ?_
  refine pv_iloadn (pc := 26) (n := 3) 3 rfl rfl (fm_dec dtX11_saysBy 17 rfl) ?_
  refine pv_iload (pc := 27) (i := 4) rfl (fm_dec dtX11_saysBy 18 rfl) ?_
  refine pv_iload (pc := 29) (i := 5) rfl (fm_dec dtX11_saysBy 19 rfl) ?_
  refine pv_iS6 (d' := 0) (pc := 31) pcs_X11_393 (Nat.le_of_ble_eq_true rfl) (by decide) (fm_dec dtX11_saysBy 20 rfl) ?_
  refine c_bringsBy ?_
  refine pv_then1 ?_
  refine pv_icmp_le (pc := 34) 42 (by decide) (fm_dec dtX11_saysBy 21 rfl) (fun hc34 => ?_) (fun hc34 => ?_)
  · refine pv_iload (pc := 42) (i := 5) rfl (fm_dec dtX11_saysBy 24 rfl) ?_
    refine pv_istore (pc := 44) (i := 5) (by decide) rfl (fm_dec dtX11_saysBy 25 rfl) ?_
    dsimp only [List.set_cons_zero, List.set_cons_succ]
    refine pv_iincc (pc := 46) 6 1 (by decide) rfl (by decide) rfl (fm_dec dtX11_saysBy 26 rfl) ?_
    dsimp only [List.set_cons_zero, List.set_cons_succ]
    rw [show (2 : Int32) + 1 = 3 by decide]
    refine pv_goto (pc := 49) 6 (by decide) (fm_dec dtX11_saysBy 27 rfl) ?_
    refine pv_iload (pc := 6) (i := 6) rfl (fm_dec dtX11_saysBy 4 rfl) ?_
    refine pv_iconst (pc := 8) (v := 3) (by decide) (fm_dec dtX11_saysBy 5 rfl) ?_
    refine pv_icmp_ge (pc := 9) 52 (by decide) (fm_dec dtX11_saysBy 6 rfl) (fun _ => ?_) (fun hc9 => by exfalso; revert hc9; decide)
    refine pv_iload (pc := 52) (i := 5) rfl (fm_dec dtX11_saysBy 28 rfl) ?_
    exact pv_ireturn (pc := 54) rfl (fm_dec dtX11_saysBy 29 rfl) (hn (by rw [sc_lt]; rw [sc_le] at hc34; omega))
  · refine pv_iload (pc := 37) (i := 6) rfl (fm_dec dtX11_saysBy 22 rfl) ?_
    refine pv_goto (pc := 39) 44 (by decide) (fm_dec dtX11_saysBy 23 rfl) ?_
    refine pv_istore (pc := 44) (i := 5) (by decide) rfl (fm_dec dtX11_saysBy 25 rfl) ?_
    dsimp only [List.set_cons_zero, List.set_cons_succ]
    refine pv_iincc (pc := 46) 6 1 (by decide) rfl (by decide) rfl (fm_dec dtX11_saysBy 26 rfl) ?_
    dsimp only [List.set_cons_zero, List.set_cons_succ]
    rw [show (2 : Int32) + 1 = 3 by decide]
    refine pv_goto (pc := 49) 6 (by decide) (fm_dec dtX11_saysBy 27 rfl) ?_
    refine pv_iload (pc := 6) (i := 6) rfl (fm_dec dtX11_saysBy 4 rfl) ?_
    refine pv_iconst (pc := 8) (v := 3) (by decide) (fm_dec dtX11_saysBy 5 rfl) ?_
    refine pv_icmp_ge (pc := 9) 52 (by decide) (fm_dec dtX11_saysBy 6 rfl) (fun _ => ?_) (fun hc9 => by exfalso; revert hc9; decide)
    refine pv_iload (pc := 52) (i := 5) rfl (fm_dec dtX11_saysBy 28 rfl) ?_
    exact pv_ireturn (pc := 54) rfl (fm_dec dtX11_saysBy 29 rfl) (hy (by rw [sc_lt]; rw [sc_le] at hc34; omega))
set_option maxRecDepth 20000 in
theorem sb_1 {Q : fmR → fmM → Prop} {M : fmM} {t b v x y : Int32} (hy : mnV t b v x y 1 < mnV t b v x y 2 → Q (.inl (some (.int 2))) M) (hn : ¬ mnV t b v x y 1 < mnV t b v x y 2 → Q (.inl (some (.int 1))) M) : pvEv Tm 1 qX11_saysBy 6 [some (.int t), some (.int b), some (.int v), some (.int x), some (.int y), some (.int 1), some (.int 2)] [] M Q := by
  refine pv_iload (pc := 6) (i := 6) rfl (fm_dec dtX11_saysBy 4 rfl) ?_
  refine pv_iconst (pc := 8) (v := 3) (by decide) (fm_dec dtX11_saysBy 5 rfl) ?_
  refine pv_icmp_ge (pc := 9) 52 (by decide) (fm_dec dtX11_saysBy 6 rfl) (fun hc9 => by exfalso; revert hc9; decide) (fun _ => ?_)
  refine pv_iloadn (pc := 12) (n := 0) 0 rfl rfl (fm_dec dtX11_saysBy 7 rfl) ?_
  refine pv_iloadn (pc := 13) (n := 1) 1 rfl rfl (fm_dec dtX11_saysBy 8 rfl) ?_
  refine pv_iloadn (pc := 14) (n := 2) 2 rfl rfl (fm_dec dtX11_saysBy 9 rfl) ?_
  refine pv_iloadn (pc := 15) (n := 3) 3 rfl rfl (fm_dec dtX11_saysBy 10 rfl) ?_
  refine pv_iload (pc := 16) (i := 4) rfl (fm_dec dtX11_saysBy 11 rfl) ?_
  refine pv_iload (pc := 18) (i := 6) rfl (fm_dec dtX11_saysBy 12 rfl) ?_
  refine pv_iS6 (d' := 0) (pc := 20) pcs_X11_393 (Nat.le_of_ble_eq_true rfl) (by decide) (fm_dec dtX11_saysBy 13 rfl) ?_
  refine c_bringsBy ?_
  refine pv_then1 ?_
  refine pv_iloadn (pc := 23) (n := 0) 0 rfl rfl (fm_dec dtX11_saysBy 14 rfl) ?_
  refine pv_iloadn (pc := 24) (n := 1) 1 rfl rfl (fm_dec dtX11_saysBy 15 rfl) ?_
  refine pv_iloadn (pc := 25) (n := 2) 2 rfl rfl (fm_dec dtX11_saysBy 16 rfl) ?_
  refine pv_iloadn (pc := 26) (n := 3) 3 rfl rfl (fm_dec dtX11_saysBy 17 rfl) ?_
  refine pv_iload (pc := 27) (i := 4) rfl (fm_dec dtX11_saysBy 18 rfl) ?_
  refine pv_iload (pc := 29) (i := 5) rfl (fm_dec dtX11_saysBy 19 rfl) ?_
  refine pv_iS6 (d' := 0) (pc := 31) pcs_X11_393 (Nat.le_of_ble_eq_true rfl) (by decide) (fm_dec dtX11_saysBy 20 rfl) ?_
  refine c_bringsBy ?_
  refine pv_then1 ?_
  refine pv_icmp_le (pc := 34) 42 (by decide) (fm_dec dtX11_saysBy 21 rfl) (fun hc34 => ?_) (fun hc34 => ?_)
  · refine pv_iload (pc := 42) (i := 5) rfl (fm_dec dtX11_saysBy 24 rfl) ?_
    refine pv_istore (pc := 44) (i := 5) (by decide) rfl (fm_dec dtX11_saysBy 25 rfl) ?_
    dsimp only [List.set_cons_zero, List.set_cons_succ]
    refine pv_iincc (pc := 46) 6 1 (by decide) rfl (by decide) rfl (fm_dec dtX11_saysBy 26 rfl) ?_
    dsimp only [List.set_cons_zero, List.set_cons_succ]
    rw [show (2 : Int32) + 1 = 3 by decide]
    refine pv_goto (pc := 49) 6 (by decide) (fm_dec dtX11_saysBy 27 rfl) ?_
    refine pv_iload (pc := 6) (i := 6) rfl (fm_dec dtX11_saysBy 4 rfl) ?_
    refine pv_iconst (pc := 8) (v := 3) (by decide) (fm_dec dtX11_saysBy 5 rfl) ?_
    refine pv_icmp_ge (pc := 9) 52 (by decide) (fm_dec dtX11_saysBy 6 rfl) (fun _ => ?_) (fun hc9 => by exfalso; revert hc9; decide)
    refine pv_iload (pc := 52) (i := 5) rfl (fm_dec dtX11_saysBy 28 rfl) ?_
    exact pv_ireturn (pc := 54) rfl (fm_dec dtX11_saysBy 29 rfl) (hn (by rw [sc_lt]; rw [sc_le] at hc34; omega))
  · refine pv_iload (pc := 37) (i := 6) rfl (fm_dec dtX11_saysBy 22 rfl) ?_
    refine pv_goto (pc := 39) 44 (by decide) (fm_dec dtX11_saysBy 23 rfl) ?_
    refine pv_istore (pc := 44) (i := 5) (by decide) rfl (fm_dec dtX11_saysBy 25 rfl) ?_
    dsimp only [List.set_cons_zero, List.set_cons_succ]
    refine pv_iincc (pc := 46) 6 1 (by decide) rfl (by decide) rfl (fm_dec dtX11_saysBy 26 rfl) ?_
    dsimp only [List.set_cons_zero, List.set_cons_succ]
    rw [show (2 : Int32) + 1 = 3 by decide]
    refine pv_goto (pc := 49) 6 (by decide) (fm_dec dtX11_saysBy 27 rfl) ?_
    refine pv_iload (pc := 6) (i := 6) rfl (fm_dec dtX11_saysBy 4 rfl) ?_
    refine pv_iconst (pc := 8) (v := 3) (by decide) (fm_dec dtX11_saysBy 5 rfl) ?_
    refine pv_icmp_ge (pc := 9) 52 (by decide) (fm_dec dtX11_saysBy 6 rfl) (fun _ => ?_) (fun hc9 => by exfalso; revert hc9; decide)
    refine pv_iload (pc := 52) (i := 5) rfl (fm_dec dtX11_saysBy 28 rfl) ?_
    exact pv_ireturn (pc := 54) rfl (fm_dec dtX11_saysBy 29 rfl) (hy (by rw [sc_lt]; rw [sc_le] at hc34; omega))
set_option maxRecDepth 20000 in
theorem c_saysBy {M : fmM} {Q : fmR → fmM → Prop} {t b v x y : Int32} (hq : Q (.inl (some (.int (bwV t b v x y)))) M) : pvGood Tm 1 qX11_saysBy [.int t, .int b, .int v, .int x, .int y] M Q := by
  refine pvGood_of (Nat.le_of_ble_eq_true rfl) ?_
  show pvEv Tm 1 qX11_saysBy 0 [some (.int t), some (.int b), some (.int v), some (.int x), some (.int y), none, none] [] M Q
  refine pv_iconst (pc := 0) (v := 0) (by decide) (fm_dec dtX11_saysBy 0 rfl) ?_
  refine pv_istore (pc := 1) (i := 5) (by decide) rfl (fm_dec dtX11_saysBy 1 rfl) ?_
  dsimp only [List.set_cons_zero, List.set_cons_succ]
  refine pv_iconst (pc := 3) (v := 1) (by decide) (fm_dec dtX11_saysBy 2 rfl) ?_
  refine pv_istore (pc := 4) (i := 6) (by decide) rfl (fm_dec dtX11_saysBy 3 rfl) ?_
  dsimp only [List.set_cons_zero, List.set_cons_succ]
  refine pv_iload (pc := 6) (i := 6) rfl (fm_dec dtX11_saysBy 4 rfl) ?_
  refine pv_iconst (pc := 8) (v := 3) (by decide) (fm_dec dtX11_saysBy 5 rfl) ?_
  refine pv_icmp_ge (pc := 9) 52 (by decide) (fm_dec dtX11_saysBy 6 rfl) (fun hc9 => by exfalso; revert hc9; decide) (fun _ => ?_)
  refine pv_iloadn (pc := 12) (n := 0) 0 rfl rfl (fm_dec dtX11_saysBy 7 rfl) ?_
  refine pv_iloadn (pc := 13) (n := 1) 1 rfl rfl (fm_dec dtX11_saysBy 8 rfl) ?_
  refine pv_iloadn (pc := 14) (n := 2) 2 rfl rfl (fm_dec dtX11_saysBy 9 rfl) ?_
  refine pv_iloadn (pc := 15) (n := 3) 3 rfl rfl (fm_dec dtX11_saysBy 10 rfl) ?_
  refine pv_iload (pc := 16) (i := 4) rfl (fm_dec dtX11_saysBy 11 rfl) ?_
  refine pv_iload (pc := 18) (i := 6) rfl (fm_dec dtX11_saysBy 12 rfl) ?_
  refine pv_iS6 (d' := 0) (pc := 20) pcs_X11_393 (Nat.le_of_ble_eq_true rfl) (by decide) (fm_dec dtX11_saysBy 13 rfl) ?_
  refine c_bringsBy ?_
  refine pv_then1 ?_
  refine pv_iloadn (pc := 23) (n := 0) 0 rfl rfl (fm_dec dtX11_saysBy 14 rfl) ?_
  refine pv_iloadn (pc := 24) (n := 1) 1 rfl rfl (fm_dec dtX11_saysBy 15 rfl) ?_
  refine pv_iloadn (pc := 25) (n := 2) 2 rfl rfl (fm_dec dtX11_saysBy 16 rfl) ?_
  refine pv_iloadn (pc := 26) (n := 3) 3 rfl rfl (fm_dec dtX11_saysBy 17 rfl) ?_
  refine pv_iload (pc := 27) (i := 4) rfl (fm_dec dtX11_saysBy 18 rfl) ?_
  refine pv_iload (pc := 29) (i := 5) rfl (fm_dec dtX11_saysBy 19 rfl) ?_
  refine pv_iS6 (d' := 0) (pc := 31) pcs_X11_393 (Nat.le_of_ble_eq_true rfl) (by decide) (fm_dec dtX11_saysBy 20 rfl) ?_
  refine c_bringsBy ?_
  refine pv_then1 ?_
  refine pv_icmp_le (pc := 34) 42 (by decide) (fm_dec dtX11_saysBy 21 rfl) (fun hc34 => ?_) (fun hc34 => ?_)
  · refine pv_iload (pc := 42) (i := 5) rfl (fm_dec dtX11_saysBy 24 rfl) ?_
    refine pv_istore (pc := 44) (i := 5) (by decide) rfl (fm_dec dtX11_saysBy 25 rfl) ?_
    dsimp only [List.set_cons_zero, List.set_cons_succ]
    refine pv_iincc (pc := 46) 6 1 (by decide) rfl (by decide) rfl (fm_dec dtX11_saysBy 26 rfl) ?_
    dsimp only [List.set_cons_zero, List.set_cons_succ]
    rw [show (1 : Int32) + 1 = 2 by decide]
    refine pv_goto (pc := 49) 6 (by decide) (fm_dec dtX11_saysBy 27 rfl) ?_
    have e1 : b1V t b v x y = 0 := if_neg (by rw [sc_lt]; rw [sc_le] at hc34; omega)
    refine sb_0 (fun h => ?_) (fun h => ?_)
    · have h9 := hq; unfold bwV at h9; rw [e1, if_pos h] at h9; exact h9
    · have h9 := hq; unfold bwV at h9; rw [e1, if_neg h] at h9; exact h9
  · refine pv_iload (pc := 37) (i := 6) rfl (fm_dec dtX11_saysBy 22 rfl) ?_
    refine pv_goto (pc := 39) 44 (by decide) (fm_dec dtX11_saysBy 23 rfl) ?_
    refine pv_istore (pc := 44) (i := 5) (by decide) rfl (fm_dec dtX11_saysBy 25 rfl) ?_
    dsimp only [List.set_cons_zero, List.set_cons_succ]
    refine pv_iincc (pc := 46) 6 1 (by decide) rfl (by decide) rfl (fm_dec dtX11_saysBy 26 rfl) ?_
    dsimp only [List.set_cons_zero, List.set_cons_succ]
    rw [show (1 : Int32) + 1 = 2 by decide]
    refine pv_goto (pc := 49) 6 (by decide) (fm_dec dtX11_saysBy 27 rfl) ?_
    have e1 : b1V t b v x y = 1 := if_pos (by rw [sc_lt]; rw [sc_le] at hc34; omega)
    refine sb_1 (fun h => ?_) (fun h => ?_)
    · have h9 := hq; unfold bwV at h9; rw [e1, if_pos h] at h9; exact h9
    · have h9 := hq; unfold bwV at h9; rw [e1, if_neg h] at h9; exact h9
set_option maxRecDepth 20000 in
theorem c_msays {M : fmM} {Q : fmR → fmM → Prop} {t b v x y : Int32} (ht : inW t 0 16 ∧ rgR b v x y → Q (.inl (some (.int (bwV t b v x y)))) (fmI M 0 0 0)) (hf : ¬ (inW t 0 16 ∧ rgR b v x y) → ∀ M' : fmM, M'.1 0 0 = 1 → Q (.inl (some (.int 0))) M') : pvGood Tm 2 qX11_says [.ref 0, .int t, .int b, .int v, .int x, .int y] M Q := by
  refine pvGood_of (Nat.le_of_ble_eq_true rfl) ?_
  show pvEv Tm 2 qX11_says 0 [some (.ref 0), some (.int t), some (.int b), some (.int v), some (.int x), some (.int y)] [] M Q
  refine pv_aloadn (pc := 0) (n := 0) 0 rfl rfl (fm_dec dtX11_says 0 rfl) ?_
  refine pv_iconst (pc := 1) (v := 0) (by decide) (fm_dec dtX11_says 1 rfl) ?_
  refine pv_putI (k := 0) (j := 0) (ci := 11) (pc := 2) pfl_X11_101 (by decide) rfl (by decide) (fm_dec dtX11_says 2 rfl) ?_
  refine pv_aloadn (pc := 5) (n := 0) 0 rfl rfl (fm_dec dtX11_says 3 rfl) ?_
  refine pv_iloadn (pc := 6) (n := 1) 1 rfl rfl (fm_dec dtX11_says 4 rfl) ?_
  refine pv_iconst (pc := 7) (v := 0) (by decide) (fm_dec dtX11_says 5 rfl) ?_
  refine pv_bipush (pc := 8) (v := 16) (by decide) (fm_dec dtX11_says 6 rfl) ?_
  refine pv_iS3 (d' := 0) (pc := 10) pcs_X11_135 (Nat.le_of_ble_eq_true rfl) (by decide) (fm_dec dtX11_says 7 rfl) ?_
  refine c_in (fun h10a h10b => ?_) (fun h10 => ?_)
  · refine pv_then1 ?_
    refine pv_if_eq (pc := 13) 28 (by decide) (fm_dec dtX11_says 8 rfl) (fun hc13 => by exfalso; revert hc13; decide) (fun _ => ?_)
    refine pv_iloadn (pc := 16) (n := 2) 2 rfl rfl (fm_dec dtX11_says 9 rfl) ?_
    refine pv_iloadn (pc := 17) (n := 3) 3 rfl rfl (fm_dec dtX11_says 10 rfl) ?_
    refine pv_iload (pc := 18) (i := 4) rfl (fm_dec dtX11_says 11 rfl) ?_
    refine pv_iload (pc := 20) (i := 5) rfl (fm_dec dtX11_says 12 rfl) ?_
    refine pv_iS4 (d' := 1) (pc := 22) pcs_X11_389 (Nat.le_of_ble_eq_true rfl) (by decide) (fm_dec dtX11_says 13 rfl) ?_
    refine c_isRum (fun h22 => ?_) (fun h22 => ?_)
    · refine pv_then1 ?_
      refine pv_if_ne (pc := 25) 32 (by decide) (fm_dec dtX11_says 14 rfl) (fun _ => ?_) (fun hc25 => by exfalso; revert hc25; decide)
      refine pv_iconst (pc := 32) (v := 0) (by decide) (fm_dec dtX11_says 17 rfl) ?_
      refine pv_iconst (pc := 33) (v := 1) (by decide) (fm_dec dtX11_says 18 rfl) ?_
      refine pv_iconst (pc := 34) (v := 1) (by decide) (fm_dec dtX11_says 19 rfl) ?_
      refine pv_invV3 (k := 0) (d' := 0) (pc := 35) pcv_X11_177 (by decide) rfl (Nat.le_of_ble_eq_true rfl) (by decide) (fm_dec dtX11_says 20 rfl) ?_
      refine c_badF1 rfl ?_
      refine pv_then1 ?_
      refine pv_if_eq (pc := 38) 43 (by decide) (fm_dec dtX11_says 21 rfl) (fun _ => ?_) (fun hc38 => by exfalso; revert hc38; decide)
      refine pv_iloadn (pc := 43) (n := 1) 1 rfl rfl (fm_dec dtX11_says 24 rfl) ?_
      refine pv_iloadn (pc := 44) (n := 2) 2 rfl rfl (fm_dec dtX11_says 25 rfl) ?_
      refine pv_iloadn (pc := 45) (n := 3) 3 rfl rfl (fm_dec dtX11_says 26 rfl) ?_
      refine pv_iload (pc := 46) (i := 4) rfl (fm_dec dtX11_says 27 rfl) ?_
      refine pv_iload (pc := 48) (i := 5) rfl (fm_dec dtX11_says 28 rfl) ?_
      refine pv_iS5 (d' := 1) (pc := 50) pcs_X11_397 (Nat.le_of_ble_eq_true rfl) (by decide) (fm_dec dtX11_says 29 rfl) ?_
      refine c_saysBy ?_
      refine pv_then1 ?_
      exact pv_ireturn (pc := 53) rfl (fm_dec dtX11_says 30 rfl) (ht ⟨⟨h10a, h10b⟩, h22⟩)
    · refine pv_then1 ?_
      refine pv_if_ne (pc := 25) 32 (by decide) (fm_dec dtX11_says 14 rfl) (fun hc25 => by exfalso; revert hc25; decide) (fun _ => ?_)
      refine pv_iconst (pc := 28) (v := 1) (by decide) (fm_dec dtX11_says 15 rfl) ?_
      refine pv_goto (pc := 29) 33 (by decide) (fm_dec dtX11_says 16 rfl) ?_
      refine pv_iconst (pc := 33) (v := 1) (by decide) (fm_dec dtX11_says 18 rfl) ?_
      refine pv_iconst (pc := 34) (v := 1) (by decide) (fm_dec dtX11_says 19 rfl) ?_
      refine pv_invV3 (k := 0) (d' := 0) (pc := 35) pcv_X11_177 (by decide) rfl (Nat.le_of_ble_eq_true rfl) (by decide) (fm_dec dtX11_says 20 rfl) ?_
      refine c_badT1 rfl (by decide) ?_
      refine pv_then1 ?_
      refine pv_if_eq (pc := 38) 43 (by decide) (fm_dec dtX11_says 21 rfl) (fun hc38 => by exfalso; revert hc38; decide) (fun _ => ?_)
      refine pv_iconst (pc := 41) (v := 0) (by decide) (fm_dec dtX11_says 22 rfl) ?_
      exact pv_ireturn (pc := 42) rfl (fm_dec dtX11_says 23 rfl) (hf (by intro h9; first | exact h22 h9.2 | exact h10 h9.1) _ rfl)
  · refine pv_then1 ?_
    refine pv_if_eq (pc := 13) 28 (by decide) (fm_dec dtX11_says 8 rfl) (fun _ => ?_) (fun hc13 => by exfalso; revert hc13; decide)
    refine pv_iconst (pc := 28) (v := 1) (by decide) (fm_dec dtX11_says 15 rfl) ?_
    refine pv_goto (pc := 29) 33 (by decide) (fm_dec dtX11_says 16 rfl) ?_
    refine pv_iconst (pc := 33) (v := 1) (by decide) (fm_dec dtX11_says 18 rfl) ?_
    refine pv_iconst (pc := 34) (v := 1) (by decide) (fm_dec dtX11_says 19 rfl) ?_
    refine pv_invV3 (k := 0) (d' := 0) (pc := 35) pcv_X11_177 (by decide) rfl (Nat.le_of_ble_eq_true rfl) (by decide) (fm_dec dtX11_says 20 rfl) ?_
    refine c_badT1 rfl (by decide) ?_
    refine pv_then1 ?_
    refine pv_if_eq (pc := 38) 43 (by decide) (fm_dec dtX11_says 21 rfl) (fun hc38 => by exfalso; revert hc38; decide) (fun _ => ?_)
    refine pv_iconst (pc := 41) (v := 0) (by decide) (fm_dec dtX11_says 22 rfl) ?_
    exact pv_ireturn (pc := 42) rfl (fm_dec dtX11_says 23 rfl) (hf (by intro h9; first | exact h22 h9.2 | exact h10 h9.1) _ rfl)
set_option maxRecDepth 20000 in
theorem ln_m {Q : fmR → fmM → Prop} {M : fmM} {b v x y : Int32} : ∀ (n k : Nat), k + n = 17 → Q (.inl (some (.int (lnV b v x y n k)))) M → pvEv Tm 2 qX11_line 35 [some (.ref 0), some (.int b), some (.int v), some (.int x), some (.int y), some (.int (nI k))] [] M Q := by
  intro n
  induction n with
  | zero =>
    intro k hk hq
    refine pv_iload (pc := 35) (i := 5) rfl (fm_dec dtX11_line 21 rfl) ?_
    refine pv_bipush (pc := 37) (v := 16) (by decide) (fm_dec dtX11_line 22 rfl) ?_
    refine pv_icmp_gt (pc := 39) 64 (by decide) (fm_dec dtX11_line 23 rfl) (fun _ => ?_) (fun hc39 => by exfalso; apply hc39; rw [sc_lt]; have h8 : (16 : Int32).toInt = 16 := (by decide); have h7 : (nI k).toInt = (k : Int) := nI_toInt (by omega); omega)
    refine pv_iconst (pc := 64) (v := (-1)) (by decide) (fm_dec dtX11_line 35 rfl) ?_
    exact pv_ireturn (pc := 65) rfl (fm_dec dtX11_line 36 rfl) (hq : _)
  | succ n ih =>
    intro k hk hq
    refine pv_iload (pc := 35) (i := 5) rfl (fm_dec dtX11_line 21 rfl) ?_
    refine pv_bipush (pc := 37) (v := 16) (by decide) (fm_dec dtX11_line 22 rfl) ?_
    refine pv_icmp_gt (pc := 39) 64 (by decide) (fm_dec dtX11_line 23 rfl) (fun hc39 => by exfalso; rw [sc_lt] at hc39; have h8 : (16 : Int32).toInt = 16 := (by decide); have h7 : (nI k).toInt = (k : Int) := nI_toInt (by omega); omega) (fun _ => ?_)
    refine pv_iload (pc := 42) (i := 5) rfl (fm_dec dtX11_line 24 rfl) ?_
    refine pv_iloadn (pc := 44) (n := 1) 1 rfl rfl (fm_dec dtX11_line 25 rfl) ?_
    refine pv_iloadn (pc := 45) (n := 2) 2 rfl rfl (fm_dec dtX11_line 26 rfl) ?_
    refine pv_iloadn (pc := 46) (n := 3) 3 rfl rfl (fm_dec dtX11_line 27 rfl) ?_
    refine pv_iload (pc := 47) (i := 4) rfl (fm_dec dtX11_line 28 rfl) ?_
    refine pv_iS5 (d' := 1) (pc := 49) pcs_X11_397 (Nat.le_of_ble_eq_true rfl) (by decide) (fm_dec dtX11_line 29 rfl) ?_
    refine c_saysBy ?_
    refine pv_then1 ?_
    refine pv_if_ne (pc := 52) 58 (by decide) (fm_dec dtX11_line 30 rfl) (fun hc52 => ?_) (fun hc52 => ?_)
    · refine pv_iincc (pc := 58) 5 1 (by decide) rfl (by decide) rfl (fm_dec dtX11_line 33 rfl) ?_
      dsimp only [List.set_cons_zero, List.set_cons_succ]
      refine pv_goto (pc := 61) 35 (by decide) (fm_dec dtX11_line 34 rfl) ?_
      rw [nI_succ1]
      refine ih (k + 1) (by omega) ?_
      have h9 := hq; simp only [lnV] at h9; rw [if_neg hc52] at h9; exact h9
    · refine pv_iload (pc := 55) (i := 5) rfl (fm_dec dtX11_line 31 rfl) ?_
      exact pv_ireturn (pc := 57) rfl (fm_dec dtX11_line 32 rfl) (by have h9 := hq; simp only [lnV] at h9; rw [if_pos hc52] at h9; exact h9)
set_option maxRecDepth 20000 in
theorem c_mline {M : fmM} {Q : fmR → fmM → Prop} {b v x y : Int32} (ht : rgR b v x y → Q (.inl (some (.int (lnV b v x y 17 0)))) (fmI M 0 0 0)) (hf : ¬ (rgR b v x y) → ∀ M' : fmM, M'.1 0 0 = 1 → Q (.inl (some (.int 0))) M') : pvGood Tm 2 qX11_line [.ref 0, .int b, .int v, .int x, .int y] M Q := by
  refine pvGood_of (Nat.le_of_ble_eq_true rfl) ?_
  show pvEv Tm 2 qX11_line 0 [some (.ref 0), some (.int b), some (.int v), some (.int x), some (.int y), none] [] M Q
  refine pv_aloadn (pc := 0) (n := 0) 0 rfl rfl (fm_dec dtX11_line 0 rfl) ?_
  refine pv_iconst (pc := 1) (v := 0) (by decide) (fm_dec dtX11_line 1 rfl) ?_
  refine pv_putI (k := 0) (j := 0) (ci := 11) (pc := 2) pfl_X11_101 (by decide) rfl (by decide) (fm_dec dtX11_line 2 rfl) ?_
  refine pv_aloadn (pc := 5) (n := 0) 0 rfl rfl (fm_dec dtX11_line 3 rfl) ?_
  refine pv_iloadn (pc := 6) (n := 1) 1 rfl rfl (fm_dec dtX11_line 4 rfl) ?_
  refine pv_iloadn (pc := 7) (n := 2) 2 rfl rfl (fm_dec dtX11_line 5 rfl) ?_
  refine pv_iloadn (pc := 8) (n := 3) 3 rfl rfl (fm_dec dtX11_line 6 rfl) ?_
  refine pv_iload (pc := 9) (i := 4) rfl (fm_dec dtX11_line 7 rfl) ?_
  refine pv_iS4 (d' := 1) (pc := 11) pcs_X11_389 (Nat.le_of_ble_eq_true rfl) (by decide) (fm_dec dtX11_line 8 rfl) ?_
  refine c_isRum (fun h11 => ?_) (fun h11 => ?_)
  · refine pv_then1 ?_
    refine pv_if_ne (pc := 14) 21 (by decide) (fm_dec dtX11_line 9 rfl) (fun _ => ?_) (fun hc14 => by exfalso; revert hc14; decide)
    refine pv_iconst (pc := 21) (v := 0) (by decide) (fm_dec dtX11_line 12 rfl) ?_
    refine pv_iconst (pc := 22) (v := 1) (by decide) (fm_dec dtX11_line 13 rfl) ?_
    refine pv_iconst (pc := 23) (v := 1) (by decide) (fm_dec dtX11_line 14 rfl) ?_
    refine pv_invV3 (k := 0) (d' := 0) (pc := 24) pcv_X11_177 (by decide) rfl (Nat.le_of_ble_eq_true rfl) (by decide) (fm_dec dtX11_line 15 rfl) ?_
    refine c_badF1 rfl ?_
    refine pv_then1 ?_
    refine pv_if_eq (pc := 27) 32 (by decide) (fm_dec dtX11_line 16 rfl) (fun _ => ?_) (fun hc27 => by exfalso; revert hc27; decide)
    refine pv_iconst (pc := 32) (v := 0) (by decide) (fm_dec dtX11_line 19 rfl) ?_
    refine pv_istore (pc := 33) (i := 5) (by decide) rfl (fm_dec dtX11_line 20 rfl) ?_
    dsimp only [List.set_cons_zero, List.set_cons_succ]
    exact ln_m 17 0 (by decide) (ht h11)
  · refine pv_then1 ?_
    refine pv_if_ne (pc := 14) 21 (by decide) (fm_dec dtX11_line 9 rfl) (fun hc14 => by exfalso; revert hc14; decide) (fun _ => ?_)
    refine pv_iconst (pc := 17) (v := 1) (by decide) (fm_dec dtX11_line 10 rfl) ?_
    refine pv_goto (pc := 18) 22 (by decide) (fm_dec dtX11_line 11 rfl) ?_
    refine pv_iconst (pc := 22) (v := 1) (by decide) (fm_dec dtX11_line 13 rfl) ?_
    refine pv_iconst (pc := 23) (v := 1) (by decide) (fm_dec dtX11_line 14 rfl) ?_
    refine pv_invV3 (k := 0) (d' := 0) (pc := 24) pcv_X11_177 (by decide) rfl (Nat.le_of_ble_eq_true rfl) (by decide) (fm_dec dtX11_line 15 rfl) ?_
    refine c_badT1 rfl (by decide) ?_
    refine pv_then1 ?_
    refine pv_if_eq (pc := 27) 32 (by decide) (fm_dec dtX11_line 16 rfl) (fun hc27 => by exfalso; revert hc27; decide) (fun _ => ?_)
    refine pv_iconst (pc := 30) (v := 0) (by decide) (fm_dec dtX11_line 17 rfl) ?_
    exact pv_ireturn (pc := 31) rfl (fm_dec dtX11_line 18 rfl) (hf h11 _ rfl)
theorem xe_brings {M : fmM} {t b v x y w : Int32} : pvGood Tx 2 qX10_brings [.ref 0, .int t, .int b, .int v, .int x, .int y, .int w] M (fun r _ => ((inW t 0 16 ∧ rgR b v x y ∧ inW w 0 2) ∧ r = .inl (some (.int (mnV t b v x y w)))) ∨ (¬ (inW t 0 16 ∧ rgR b v x y ∧ inW w 0 2) ∧ r = .inr fmIAE)) := c_xbrings (fun h => Or.inl ⟨h, rfl⟩) (fun h => Or.inr ⟨h, rfl⟩)
theorem me_brings {M : fmM} {t b v x y w : Int32} : pvGood Tm 2 qX11_brings [.ref 0, .int t, .int b, .int v, .int x, .int y, .int w] M (fun r M' => ((inW t 0 16 ∧ rgR b v x y ∧ inW w 0 2) ∧ r = .inl (some (.int (mnV t b v x y w))) ∧ M'.1 0 0 = 0) ∨ (¬ (inW t 0 16 ∧ rgR b v x y ∧ inW w 0 2) ∧ M'.1 0 0 = 1)) := c_mbrings (fun h => Or.inl ⟨h, rfl, rfl⟩) (fun h M' e => Or.inr ⟨h, e⟩)
theorem xe_says {M : fmM} {t b v x y : Int32} : pvGood Tx 2 qX10_says [.ref 0, .int t, .int b, .int v, .int x, .int y] M (fun r _ => ((inW t 0 16 ∧ rgR b v x y) ∧ r = .inl (some (.int (bwV t b v x y)))) ∨ (¬ (inW t 0 16 ∧ rgR b v x y) ∧ r = .inr fmIAE)) := c_xsays (fun h => Or.inl ⟨h, rfl⟩) (fun h => Or.inr ⟨h, rfl⟩)
theorem me_says {M : fmM} {t b v x y : Int32} : pvGood Tm 2 qX11_says [.ref 0, .int t, .int b, .int v, .int x, .int y] M (fun r M' => ((inW t 0 16 ∧ rgR b v x y) ∧ r = .inl (some (.int (bwV t b v x y))) ∧ M'.1 0 0 = 0) ∨ (¬ (inW t 0 16 ∧ rgR b v x y) ∧ M'.1 0 0 = 1)) := c_msays (fun h => Or.inl ⟨h, rfl, rfl⟩) (fun h M' e => Or.inr ⟨h, e⟩)
theorem xe_line {M : fmM} {b v x y : Int32} : pvGood Tx 2 qX10_line [.ref 0, .int b, .int v, .int x, .int y] M (fun r _ => ((rgR b v x y) ∧ r = .inl (some (.int (lnV b v x y 17 0)))) ∨ (¬ (rgR b v x y) ∧ r = .inr fmIAE)) := c_xline (fun h => Or.inl ⟨h, rfl⟩) (fun h => Or.inr ⟨h, rfl⟩)
theorem me_line {M : fmM} {b v x y : Int32} : pvGood Tm 2 qX11_line [.ref 0, .int b, .int v, .int x, .int y] M (fun r M' => ((rgR b v x y) ∧ r = .inl (some (.int (lnV b v x y 17 0))) ∧ M'.1 0 0 = 0) ∨ (¬ (rgR b v x y) ∧ M'.1 0 0 = 1)) := c_mline (fun h => Or.inl ⟨h, rfl, rfl⟩) (fun h M' e => Or.inr ⟨h, e⟩)
end
