-- THE STEPS, safe
set_option maxRecDepth 20000 in
theorem xt_work2 {M : fmM} {Q : fmR → fmM → Prop} {nn : Int32} (hI : scInv Tx invX M) (hq : ∀ (r : fmR) (M' : fmM), rkI true false r → scInv Tx invX M' → Q r M') : pvGood Tx 213 qX10_work [.ref 0, .int nn] M Q := by
  refine pvGood_of (Nat.le_of_ble_eq_true rfl) ?_
  show pvEv Tx 213 qX10_work 0 [some (.ref 0), some (.int nn)] [] M Q
  refine pv_aloadn (pc := 0) (n := 0) 0 rfl rfl (fm_dec dtX10_work 0 rfl) ?_
  refine pv_iloadn (pc := 1) (n := 1) 1 rfl rfl (fm_dec dtX10_work 1 rfl) ?_
  refine pv_sipush (pc := 2) (v := 150) (by decide) (fm_dec dtX10_work 2 rfl) ?_
  refine pv_invV2 (k := 0) (d' := 1) (pc := 5) pcv_X10_108 (by decide) rfl (Nat.le_of_ble_eq_true rfl) (by omega) (fm_dec dtX10_work 3 rfl) ?_
  refine s_open (scq_t nn) (scq_t 150) hI (fun M5 hI5 f5 => ?_) (fun M5 hI5 f5 => ?_)
  · refine pv_then0 ?_
    refine pv_aloadn (pc := 8) (n := 0) 0 rfl rfl (fm_dec dtX10_work 4 rfl) ?_
    refine pv_getR (k := 0) (j := 9) (ci := 10) (pc := 9) 46 rfl (by decide) pfl_X10_75 (by decide) rfl (by decide) (fm_dec dtX10_work 5 rfl) ?_
    refine pv_getI (k := 46) (j := 2) (ci := 5) (pc := 12) pfl_X10_126 (by decide) rfl (by decide) (fm_dec dtX10_work 6 rfl) ?_
    refine pv_bipush (pc := 15) (v := 16) (by decide) (fm_dec dtX10_work 7 rfl) ?_
    refine pv_icmp_lt (pc := 17) 23 (by decide) (fm_dec dtX10_work 8 rfl) (fun hc17 => ?_) (fun hc17 => ?_)
    · refine pv_aloadn (pc := 23) (n := 0) 0 rfl rfl (fm_dec dtX10_work 11 rfl) ?_
      refine pv_getR (k := 0) (j := 5) (ci := 10) (pc := 24) 28 rfl (by decide) pfl_X10_43 (by decide) rfl (by decide) (fm_dec dtX10_work 12 rfl) ?_
      refine pv_aloadn (pc := 27) (n := 0) 0 rfl rfl (fm_dec dtX10_work 13 rfl) ?_
      refine pv_getR (k := 0) (j := 0) (ci := 10) (pc := 28) 1 rfl (by decide) pfl_X10_12 (by decide) rfl (by decide) (fm_dec dtX10_work 14 rfl) ?_
      refine pv_aloadn (pc := 31) (n := 0) 0 rfl rfl (fm_dec dtX10_work 15 rfl) ?_
      refine pv_getR (k := 0) (j := 1) (ci := 10) (pc := 32) 3 rfl (by decide) pfl_X10_19 (by decide) rfl (by decide) (fm_dec dtX10_work 16 rfl) ?_
      refine pv_getI (k := 3) (j := 9) (ci := 8) (pc := 35) pfl_X10_138 (by decide) rfl (by decide) (fm_dec dtX10_work 17 rfl) ?_
      refine pv_invV2 (k := 28) (d' := 27) (pc := 38) pcv_X10_142 (by decide) rfl (Nat.le_of_ble_eq_true rfl) (by omega) (fm_dec dtX10_work 18 rfl) ?_
      refine c_xread hI5 (hI5.1 3 9 (by decide)) (fun M38 z hI38 f38 h4 hz hz2 hS => ?_) (fun M38 hI38 f38 => ?_)  
      · refine pv_then1 ?_
        refine pv_if_ne (pc := 41) 55 (by decide) (fm_dec dtX10_work 19 rfl) (fun _ => ?_) (fun hc41 => by exfalso; revert hc41; decide)
        refine pv_aloadn (pc := 55) (n := 0) 0 rfl rfl (fm_dec dtX10_work 26 rfl) ?_
        refine pv_getR (k := 0) (j := 9) (ci := 10) (pc := 56) 46 rfl (by decide) pfl_X10_75 (by decide) rfl (by decide) (fm_dec dtX10_work 27 rfl) ?_
        refine pv_invV0 (k := 46) (d' := 1) (pc := 59) pcv_X10_145 (by decide) rfl (Nat.le_of_ble_eq_true rfl) (by omega) (fm_dec dtX10_work 28 rfl) ?_
        refine s_keepx hI38 (fun M59 hI59 f59 => ?_)
        refine pv_then0 ?_
        have hQ9 : xQ M59 z 0 := ⟨hz2, fun i a b => (hS i a b).up (Nat.le_refl _) (fun k hk => (f59 k i (kpW_k (by omega))).1), hI59, (by rw [(f59 28 4 (kpW_k (by decide))).1]; exact h4), by decide⟩
        refine pv_aloadn (pc := 62) (n := 0) 0 rfl rfl (fm_dec dtX10_work 29 rfl) ?_
        refine pv_getR (k := 0) (j := 5) (ci := 10) (pc := 63) 28 rfl (by decide) pfl_X10_43 (by decide) rfl (by decide) (fm_dec dtX10_work 30 rfl) ?_
        refine pv_aloadn (pc := 66) (n := 0) 0 rfl rfl (fm_dec dtX10_work 31 rfl) ?_
        refine pv_getR (k := 0) (j := 6) (ci := 10) (pc := 67) 32 rfl (by decide) pfl_X10_52 (by decide) rfl (by decide) (fm_dec dtX10_work 32 rfl) ?_
        refine pv_aloadn (pc := 70) (n := 0) 0 rfl rfl (fm_dec dtX10_work 33 rfl) ?_
        refine pv_getR (k := 0) (j := 9) (ci := 10) (pc := 71) 46 rfl (by decide) pfl_X10_75 (by decide) rfl (by decide) (fm_dec dtX10_work 34 rfl) ?_
        refine pv_getR (k := 46) (j := 0) (ci := 5) (pc := 74) 47 rfl (by decide) pfl_X10_90 (by decide) rfl (by decide) (fm_dec dtX10_work 35 rfl) ?_
        refine pv_iconst (pc := 77) (v := 0) (by decide) (fm_dec dtX10_work 36 rfl) ?_
        refine pv_aloadn (pc := 78) (n := 0) 0 rfl rfl (fm_dec dtX10_work 37 rfl) ?_
        refine pv_getR (k := 0) (j := 5) (ci := 10) (pc := 79) 28 rfl (by decide) pfl_X10_43 (by decide) rfl (by decide) (fm_dec dtX10_work 38 rfl) ?_
        refine pv_getI (k := 28) (j := 3) (ci := 9) (pc := 82) pfl_X10_148 (by decide) rfl (by decide) (fm_dec dtX10_work 39 rfl) ?_
        refine pv_iconst (pc := 85) (v := 0) (by decide) (fm_dec dtX10_work 40 rfl) ?_
        refine pv_invV5 (k := 28) (d' := (12 + 200)) (pc := 86) pcv_X10_151 (by decide) rfl (Nat.le_of_ble_eq_true rfl) (by omega) (fm_dec dtX10_work 41 rfl) ?_
        refine xp_G (xp_P 200) M59 _ z 0 0 z _ 0 0 hQ9 (by omega) (by decide) (by rw [(f59 28 3 (kpW_k (by decide))).1]; exact hz) (Nat.le_refl _) (fun M86 g86 hI86 f86 hg86 _ _ => ?_) 
        refine pv_then0 ?_
        refine pv_aloadn (pc := 89) (n := 0) 0 rfl rfl (fm_dec dtX10_work 42 rfl) ?_
        refine pv_aloadn (pc := 90) (n := 0) 0 rfl rfl (fm_dec dtX10_work 43 rfl) ?_
        refine pv_getR (k := 0) (j := 5) (ci := 10) (pc := 91) 28 rfl (by decide) pfl_X10_43 (by decide) rfl (by decide) (fm_dec dtX10_work 44 rfl) ?_
        refine pv_getI (k := 28) (j := 6) (ci := 9) (pc := 94) pfl_X10_155 (by decide) rfl (by decide) (fm_dec dtX10_work 45 rfl) ?_
        refine pv_putI (k := 0) (j := 14) (ci := 10) (pc := 97) pfl_X10_132 (by decide) rfl (by decide) (fm_dec dtX10_work 46 rfl) ?_
        refine pv_aloadn (pc := 100) (n := 0) 0 rfl rfl (fm_dec dtX10_work 47 rfl) ?_
        refine pv_getR (k := 0) (j := 7) (ci := 10) (pc := 101) 34 rfl (by decide) pfl_X10_61 (by decide) rfl (by decide) (fm_dec dtX10_work 48 rfl) ?_
        refine pv_invV0 (k := 34) (d' := 0) (pc := 104) pcv_X10_135 (by decide) rfl (Nat.le_of_ble_eq_true rfl) (by omega) (fm_dec dtX10_work 49 rfl) ?_
        refine s_forget (xInv.put hI86 (scq_t _)) (fun M104 hI104 f104 => ?_)
        refine pv_then0 ?_
        refine pv_aloadn (pc := 107) (n := 0) 0 rfl rfl (fm_dec dtX10_work 50 rfl) ?_
        refine pv_getR (k := 0) (j := 5) (ci := 10) (pc := 108) 28 rfl (by decide) pfl_X10_43 (by decide) rfl (by decide) (fm_dec dtX10_work 51 rfl) ?_
        refine pv_getI (k := 28) (j := 5) (ci := 9) (pc := 111) pfl_X10_158 (by decide) rfl (by decide) (fm_dec dtX10_work 52 rfl) ?_
        exact pv_ireturn (pc := 114) rfl (fm_dec dtX10_work 53 rfl) (hq _ _ (Or.inl ⟨_, rfl⟩) hI104)
      · refine pv_then1 ?_
        refine pv_if_ne (pc := 41) 55 (by decide) (fm_dec dtX10_work 19 rfl) (fun hc41 => by exfalso; revert hc41; decide) (fun _ => ?_)
        refine pv_aloadn (pc := 44) (n := 0) 0 rfl rfl (fm_dec dtX10_work 20 rfl) ?_
        refine pv_getR (k := 0) (j := 0) (ci := 10) (pc := 45) 1 rfl (by decide) pfl_X10_12 (by decide) rfl (by decide) (fm_dec dtX10_work 21 rfl) ?_
        refine pv_getI (k := 1) (j := 4) (ci := 7) (pc := 48) pfl_X10_116 (by decide) rfl (by decide) (fm_dec dtX10_work 22 rfl) ?_
        refine pv_bipush (pc := 51) (v := 10) (by decide) (fm_dec dtX10_work 23 rfl) ?_
        refine pv_isub (pc := 53) (fm_dec dtX10_work 24 rfl) ?_
        exact pv_ireturn (pc := 54) rfl (fm_dec dtX10_work 25 rfl) (hq _ _ (Or.inl ⟨_, rfl⟩) hI38)
    · refine pv_bipush (pc := 20) (v := (-20)) (by decide) (fm_dec dtX10_work 9 rfl) ?_
      exact pv_ireturn (pc := 22) rfl (fm_dec dtX10_work 10 rfl) (hq _ _ (Or.inl ⟨_, rfl⟩) hI5)
  · refine pv_thenX ?_
    exact hq _ _ (Or.inr (Or.inl ⟨rfl, rfl⟩)) hI5
theorem wsx_feed {M : fmM} {Q : fmR → fmM → Prop} {x1 : Int32} (bx1 : (-2147483648) ≤ x1.toInt ∧ x1.toInt ≤ 2147483647) {x2 : Int32} (bx2 : (-2147483648) ≤ x2.toInt ∧ x2.toInt ≤ 2147483647) {x3 : Int32} (bx3 : (-2147483648) ≤ x3.toInt ∧ x3.toInt ≤ 2147483647) {x4 : Int32} (bx4 : (-2147483648) ≤ x4.toInt ∧ x4.toInt ≤ 2147483647) {x5 : Int32} (bx5 : (-2147483648) ≤ x5.toInt ∧ x5.toInt ≤ 2147483647) (hI : scInv Tx invX M) (q0 : ∀ (n : Int32) (M' : fmM), ((-1) ≤ n.toInt ∧ n.toInt ≤ 600) → scInv Tx invX M' → scFr [(1, 1, 1), (2, 0, 600)] M M' → Q (.inl (some (.int n))) M') : pvGood Tx 1 qX10_feed [.ref 0, .int x1, .int x2, .int x3, .int x4, .int x5] M Q := (hh_X10_feed_0 M [x1.toInt, x2.toInt, x3.toInt, x4.toInt, x5.toInt] [.ref 0, .int x1, .int x2, .int x3, .int x4, .int x5] (scEk.c1 bx1 (scEk.c1 bx2 (scEk.c1 bx3 (scEk.c1 bx4 (scEk.c1 bx5 scEk.n0))))) ⟨⟨0, by simp, rfl⟩, ⟨x1, rfl, scEv.at rfl⟩, ⟨x2, rfl, scEv.at rfl⟩, ⟨x3, rfl, scEv.at rfl⟩, ⟨x4, rfl, scEv.at rfl⟩, ⟨x5, rfl, scEv.at rfl⟩, trivial⟩ (fun f hf => by cases hf) hI).imp (fun r M' h => by
  obtain ⟨⟨o, ho, hr, hf9, hm⟩, h1, h2⟩ := h
  rcases List.mem_cons.mp ho with rfl | ho
  · obtain ⟨n, rfl, c1, c2⟩ := hr; exact q0 n M' ⟨c1, c2⟩ h1 h2
  · cases ho)
theorem sx_feed {M : fmM} {a0 a1 a2 a3 a4 : Int32} (hI : scInv Tx invX M) : pvGood Tx 250 qX10_feed [.ref 0, .int a0, .int a1, .int a2, .int a3, .int a4] M (fun r M' => rkI false false r ∧ scInv Tx invX M') := (wsx_feed (scq_t a0) (scq_t a1) (scq_t a2) (scq_t a3) (scq_t a4) hI (fun n M' _ h1 _ => ⟨Or.inl ⟨n, rfl⟩, h1⟩)).up (by decide)
theorem wsx_drawer {M : fmM} {Q : fmR → fmM → Prop} {x1 : Int32} (bx1 : (-2147483648) ≤ x1.toInt ∧ x1.toInt ≤ 2147483647) (hI : scInv Tx invX M) (q0 : ∀ (n : Int32) (M' : fmM), ((-10) ≤ n.toInt ∧ n.toInt ≤ 8) → scInv Tx invX M' → scFr [(0, 13, 2), (0, 16, 1), (1, 1, 5), (3, 9, 6), (4, 0, 8), (5, 0, 8), (6, 0, 8), (7, 0, 8), (8, 0, 8), (9, 0, 8), (10, 0, 24), (11, 0, 24), (12, 0, 24), (13, 9, 6), (14, 0, 8), (15, 0, 8), (16, 0, 8), (17, 0, 8), (18, 0, 8), (19, 0, 8), (20, 0, 24), (21, 0, 24), (22, 0, 24), (23, 3, 1), (24, 0, 3), (27, 0, 3), (34, 5, 1), (46, 2, 1), (47, 1, 6), (48, 0, 8)] M M' → Q (.inl (some (.int n))) M') (q1 : ∀ M' : fmM, scInv Tx invX M' → scFr [(0, 13, 2), (0, 16, 1), (1, 1, 5), (3, 9, 6), (4, 0, 8), (5, 0, 8), (6, 0, 8), (7, 0, 8), (8, 0, 8), (9, 0, 8), (10, 0, 24), (11, 0, 24), (12, 0, 24), (13, 9, 6), (14, 0, 8), (15, 0, 8), (16, 0, 8), (17, 0, 8), (18, 0, 8), (19, 0, 8), (20, 0, 24), (21, 0, 24), (22, 0, 24), (23, 3, 1), (24, 0, 3), (27, 0, 3), (34, 5, 1), (46, 2, 1), (47, 1, 6), (48, 0, 8)] M M' → Q (.inr fmIAE) M') : pvGood Tx 8 qX10_drawer [.ref 0, .int x1] M Q := (hh_X10_drawer_0 M [x1.toInt] [.ref 0, .int x1] (scEk.c1 bx1 scEk.n0) ⟨⟨0, by simp, rfl⟩, ⟨x1, rfl, scEv.at rfl⟩, trivial⟩ (fun f hf => by cases hf) hI).imp (fun r M' h => by
  obtain ⟨⟨o, ho, hr, hf9, hm⟩, h1, h2⟩ := h
  rcases List.mem_cons.mp ho with rfl | ho
  · obtain ⟨n, rfl, c1, c2⟩ := hr; exact q0 n M' ⟨c1, c2⟩ h1 h2
  rcases List.mem_cons.mp ho with rfl | ho
  · have hr : r = .inr fmIAE := hr; subst hr; exact q1 M' h1 h2
  · cases ho)
theorem sx_drawer {M : fmM} {a0 : Int32} (hI : scInv Tx invX M) : pvGood Tx 250 qX10_drawer [.ref 0, .int a0] M (fun r M' => rkI true false r ∧ scInv Tx invX M') := (wsx_drawer (scq_t a0) hI (fun n M' _ h1 _ => ⟨Or.inl ⟨n, rfl⟩, h1⟩) (fun M' h1 _ => ⟨Or.inr (Or.inl ⟨rfl, rfl⟩), h1⟩)).up (by decide)
theorem wsx_law {M : fmM} {Q : fmR → fmM → Prop} {x1 : Int32} (bx1 : (-2147483648) ≤ x1.toInt ∧ x1.toInt ≤ 2147483647) (hI : scInv Tx invX M) (q0 : ∀ (n : Int32) (M' : fmM), ((-10) ≤ n.toInt ∧ n.toInt ≤ 1) → scInv Tx invX M' → scFr [(0, 16, 1), (1, 1, 5), (23, 3, 2), (24, 0, 150), (25, 0, 150), (34, 5, 1)] M M' → Q (.inl (some (.int n))) M') (q1 : ∀ M' : fmM, scInv Tx invX M' → scFr [(0, 16, 1), (1, 1, 5), (23, 3, 2), (24, 0, 150), (25, 0, 150), (34, 5, 1)] M M' → Q (.inr fmIAE) M') : pvGood Tx 34 qX10_law [.ref 0, .int x1] M Q := (hh_X10_law_0 M [x1.toInt] [.ref 0, .int x1] (scEk.c1 bx1 scEk.n0) ⟨⟨0, by simp, rfl⟩, ⟨x1, rfl, scEv.at rfl⟩, trivial⟩ (fun f hf => by cases hf) hI).imp (fun r M' h => by
  obtain ⟨⟨o, ho, hr, hf9, hm⟩, h1, h2⟩ := h
  rcases List.mem_cons.mp ho with rfl | ho
  · obtain ⟨n, rfl, c1, c2⟩ := hr; exact q0 n M' ⟨c1, c2⟩ h1 h2
  rcases List.mem_cons.mp ho with rfl | ho
  · have hr : r = .inr fmIAE := hr; subst hr; exact q1 M' h1 h2
  · cases ho)
theorem sx_law {M : fmM} {a0 : Int32} (hI : scInv Tx invX M) : pvGood Tx 250 qX10_law [.ref 0, .int a0] M (fun r M' => rkI true false r ∧ scInv Tx invX M') := (wsx_law (scq_t a0) hI (fun n M' _ h1 _ => ⟨Or.inl ⟨n, rfl⟩, h1⟩) (fun M' h1 _ => ⟨Or.inr (Or.inl ⟨rfl, rfl⟩), h1⟩)).up (by decide)
theorem sx_work {M : fmM} {a0 : Int32} (hI : scInv Tx invX M) : pvGood Tx 250 qX10_work [.ref 0, .int a0] M (fun r M' => rkI true false r ∧ scInv Tx invX M') := (xt_work2 hI (fun r M' h1 h2 => ⟨h1, h2⟩)).up (by decide)
theorem wsx_page {M : fmM} {Q : fmR → fmM → Prop} {x1 : Int32} (bx1 : (-2147483648) ≤ x1.toInt ∧ x1.toInt ≤ 2147483647) (hI : scInv Tx invX M) (q0 : ∀ (n : Int32) (M' : fmM), ((-2147483648) ≤ n.toInt ∧ n.toInt ≤ 2147483647) → scInv Tx invX M' → scFr [(0, 16, 1), (1, 1, 5), (27, 0, 3)] M M' → Q (.inl (some (.int n))) M') (q1 : ∀ M' : fmM, scInv Tx invX M' → scFr [(0, 16, 1), (1, 1, 5), (27, 0, 3)] M M' → Q (.inr fmIAE) M') : pvGood Tx 4 qX10_page [.ref 0, .int x1] M Q := (hh_X10_page_0 M [x1.toInt] [.ref 0, .int x1] (scEk.c1 bx1 scEk.n0) ⟨⟨0, by simp, rfl⟩, ⟨x1, rfl, scEv.at rfl⟩, trivial⟩ (fun f hf => by cases hf) hI).imp (fun r M' h => by
  obtain ⟨⟨o, ho, hr, hf9, hm⟩, h1, h2⟩ := h
  rcases List.mem_cons.mp ho with rfl | ho
  · obtain ⟨n, rfl, c1, c2⟩ := hr; exact q0 n M' ⟨c1, c2⟩ h1 h2
  rcases List.mem_cons.mp ho with rfl | ho
  · have hr : r = .inr fmIAE := hr; subst hr; exact q1 M' h1 h2
  · cases ho)
theorem sx_page {M : fmM} {a0 : Int32} (hI : scInv Tx invX M) : pvGood Tx 250 qX10_page [.ref 0, .int a0] M (fun r M' => rkI true false r ∧ scInv Tx invX M') := (wsx_page (scq_t a0) hI (fun n M' _ h1 _ => ⟨Or.inl ⟨n, rfl⟩, h1⟩) (fun M' h1 _ => ⟨Or.inr (Or.inl ⟨rfl, rfl⟩), h1⟩)).up (by decide)
theorem wsx_fault {M : fmM} {Q : fmR → fmM → Prop}  (hI : scInv Tx invX M) (q0 : ∀ (n : Int32) (M' : fmM), ((-1) ≤ n.toInt ∧ n.toInt ≤ 600) → scInv Tx invX M' → scFr [] M M' → Q (.inl (some (.int n))) M') : pvGood Tx 0 qX10_fault [.ref 0] M Q := (hh_X10_fault_0 M [] [.ref 0] scEk.n0 ⟨⟨0, by simp, rfl⟩, trivial⟩ (fun f hf => by cases hf) hI).imp (fun r M' h => by
  obtain ⟨⟨o, ho, hr, hf9, hm⟩, h1, h2⟩ := h
  rcases List.mem_cons.mp ho with rfl | ho
  · obtain ⟨n, rfl, c1, c2⟩ := hr; exact q0 n M' ⟨c1, c2⟩ h1 h2
  · cases ho)
theorem sx_fault {M : fmM} (hI : scInv Tx invX M) : pvGood Tx 250 qX10_fault [.ref 0] M (fun r M' => rkI false false r ∧ scInv Tx invX M') := (wsx_fault  hI (fun n M' _ h1 _ => ⟨Or.inl ⟨n, rfl⟩, h1⟩)).up (by decide)
theorem wsx_undo {M : fmM} {Q : fmR → fmM → Prop}  (hI : scInv Tx invX M) (q0 : ∀ (n : Int32) (M' : fmM), ((-1) ≤ n.toInt ∧ n.toInt ≤ 16) → scInv Tx invX M' → scFr [(0, 14, 1), (34, 5, 1), (46, 2, 1), (47, 1, 6), (48, 0, 8)] M M' → Q (.inl (some (.int n))) M') : pvGood Tx 2 qX10_undo [.ref 0] M Q := (hh_X10_undo_0 M [] [.ref 0] scEk.n0 ⟨⟨0, by simp, rfl⟩, trivial⟩ (fun f hf => by cases hf) hI).imp (fun r M' h => by
  obtain ⟨⟨o, ho, hr, hf9, hm⟩, h1, h2⟩ := h
  rcases List.mem_cons.mp ho with rfl | ho
  · obtain ⟨n, rfl, c1, c2⟩ := hr; exact q0 n M' ⟨c1, c2⟩ h1 h2
  · cases ho)
theorem sx_undo {M : fmM} (hI : scInv Tx invX M) : pvGood Tx 250 qX10_undo [.ref 0] M (fun r M' => rkI false false r ∧ scInv Tx invX M') := (wsx_undo  hI (fun n M' _ h1 _ => ⟨Or.inl ⟨n, rfl⟩, h1⟩)).up (by decide)
theorem wsx_told {M : fmM} {Q : fmR → fmM → Prop} {x1 : Int32} (bx1 : (-2147483648) ≤ x1.toInt ∧ x1.toInt ≤ 2147483647) (hI : scInv Tx invX M) (q0 : ∀ (n : Int32) (M' : fmM), ((-2147483648) ≤ n.toInt ∧ n.toInt ≤ 2147483647) → scInv Tx invX M' → scFr [(0, 16, 1)] M M' → Q (.inl (some (.int n))) M') (q1 : ∀ M' : fmM, scInv Tx invX M' → scFr [(0, 16, 1)] M M' → Q (.inr fmIAE) M') : pvGood Tx 1 qX10_told [.ref 0, .int x1] M Q := (hh_X10_told_0 M [x1.toInt] [.ref 0, .int x1] (scEk.c1 bx1 scEk.n0) ⟨⟨0, by simp, rfl⟩, ⟨x1, rfl, scEv.at rfl⟩, trivial⟩ (fun f hf => by cases hf) hI).imp (fun r M' h => by
  obtain ⟨⟨o, ho, hr, hf9, hm⟩, h1, h2⟩ := h
  rcases List.mem_cons.mp ho with rfl | ho
  · obtain ⟨n, rfl, c1, c2⟩ := hr; exact q0 n M' ⟨c1, c2⟩ h1 h2
  rcases List.mem_cons.mp ho with rfl | ho
  · have hr : r = .inr fmIAE := hr; subst hr; exact q1 M' h1 h2
  · cases ho)
theorem sx_told {M : fmM} {a0 : Int32} (hI : scInv Tx invX M) : pvGood Tx 250 qX10_told [.ref 0, .int a0] M (fun r M' => rkI true false r ∧ scInv Tx invX M') := (wsx_told (scq_t a0) hI (fun n M' _ h1 _ => ⟨Or.inl ⟨n, rfl⟩, h1⟩) (fun M' h1 _ => ⟨Or.inr (Or.inl ⟨rfl, rfl⟩), h1⟩)).up (by decide)
theorem wsx_life {M : fmM} {Q : fmR → fmM → Prop} {x1 : Int32} (bx1 : (-2147483648) ≤ x1.toInt ∧ x1.toInt ≤ 2147483647) {x2 : Int32} (bx2 : (-2147483648) ≤ x2.toInt ∧ x2.toInt ≤ 2147483647) (hI : scInv Tx invX M) (q0 : ∀ (n : Int32) (M' : fmM), ((-2147483648) ≤ n.toInt ∧ n.toInt ≤ 2147483647) → scInv Tx invX M' → scFr [(0, 15, 2)] M M' → Q (.inl (some (.int n))) M') (q1 : ∀ M' : fmM, scInv Tx invX M' → scFr [(0, 15, 2)] M M' → Q (.inr fmIAE) M') (q2 : ∀ M' : fmM, scInv Tx invX M' → scFr [(0, 15, 2)] M M' → Q (.inr fmNSE) M') : pvGood Tx 2 qX10_life [.ref 0, .int x1, .int x2] M Q := (hh_X10_life_0 M [x1.toInt, x2.toInt] [.ref 0, .int x1, .int x2] (scEk.c1 bx1 (scEk.c1 bx2 scEk.n0)) ⟨⟨0, by simp, rfl⟩, ⟨x1, rfl, scEv.at rfl⟩, ⟨x2, rfl, scEv.at rfl⟩, trivial⟩ (fun f hf => by cases hf) hI).imp (fun r M' h => by
  obtain ⟨⟨o, ho, hr, hf9, hm⟩, h1, h2⟩ := h
  rcases List.mem_cons.mp ho with rfl | ho
  · obtain ⟨n, rfl, c1, c2⟩ := hr; exact q0 n M' ⟨c1, c2⟩ h1 h2
  rcases List.mem_cons.mp ho with rfl | ho
  · have hr : r = .inr fmIAE := hr; subst hr; exact q1 M' h1 h2
  rcases List.mem_cons.mp ho with rfl | ho
  · have hr : r = .inr fmNSE := hr; subst hr; exact q2 M' h1 h2
  · cases ho)
theorem sx_life {M : fmM} {a0 a1 : Int32} (hI : scInv Tx invX M) : pvGood Tx 250 qX10_life [.ref 0, .int a0, .int a1] M (fun r M' => rkI true true r ∧ scInv Tx invX M') := (wsx_life (scq_t a0) (scq_t a1) hI (fun n M' _ h1 _ => ⟨Or.inl ⟨n, rfl⟩, h1⟩) (fun M' h1 _ => ⟨Or.inr (Or.inl ⟨rfl, rfl⟩), h1⟩) (fun M' h1 _ => ⟨Or.inr (Or.inr ⟨rfl, rfl⟩), h1⟩)).up (by decide)
theorem wsx_facts {M : fmM} {Q : fmR → fmM → Prop} {x1 : Int32} (bx1 : (-2147483648) ≤ x1.toInt ∧ x1.toInt ≤ 2147483647) (hI : scInv Tx invX M) (q0 : ∀ (n : Int32) (M' : fmM), ((-2147483648) ≤ n.toInt ∧ n.toInt ≤ 2147483647) → scInv Tx invX M' → scFr [(0, 15, 1)] M M' → Q (.inl (some (.int n))) M') (q1 : ∀ M' : fmM, scInv Tx invX M' → scFr [(0, 15, 1)] M M' → Q (.inr fmNSE) M') : pvGood Tx 1 qX10_facts [.ref 0, .int x1] M Q := (hh_X10_facts_0 M [x1.toInt] [.ref 0, .int x1] (scEk.c1 bx1 scEk.n0) ⟨⟨0, by simp, rfl⟩, ⟨x1, rfl, scEv.at rfl⟩, trivial⟩ (fun f hf => by cases hf) hI).imp (fun r M' h => by
  obtain ⟨⟨o, ho, hr, hf9, hm⟩, h1, h2⟩ := h
  rcases List.mem_cons.mp ho with rfl | ho
  · obtain ⟨n, rfl, c1, c2⟩ := hr; exact q0 n M' ⟨c1, c2⟩ h1 h2
  rcases List.mem_cons.mp ho with rfl | ho
  · have hr : r = .inr fmNSE := hr; subst hr; exact q1 M' h1 h2
  · cases ho)
theorem sx_facts {M : fmM} {a0 : Int32} (hI : scInv Tx invX M) : pvGood Tx 250 qX10_facts [.ref 0, .int a0] M (fun r M' => rkI false true r ∧ scInv Tx invX M') := (wsx_facts (scq_t a0) hI (fun n M' _ h1 _ => ⟨Or.inl ⟨n, rfl⟩, h1⟩) (fun M' h1 _ => ⟨Or.inr (Or.inr ⟨rfl, rfl⟩), h1⟩)).up (by decide)
theorem wsx_wrong {M : fmM} {Q : fmR → fmM → Prop} {x1 : Int32} (bx1 : (-2147483648) ≤ x1.toInt ∧ x1.toInt ≤ 2147483647) (hI : scInv Tx invX M) (q0 : ∀ (n : Int32) (M' : fmM), ((-1) ≤ n.toInt ∧ n.toInt ≤ 64) → scInv Tx invX M' → scFr [(0, 15, 1), (26, 0, 24)] M M' → Q (.inl (some (.int n))) M') (q1 : ∀ M' : fmM, scInv Tx invX M' → scFr [(0, 15, 1), (26, 0, 24)] M M' → Q (.inr fmNSE) M') : pvGood Tx 3 qX10_wrong [.ref 0, .int x1] M Q := (hh_X10_wrong_0 M [x1.toInt] [.ref 0, .int x1] (scEk.c1 bx1 scEk.n0) ⟨⟨0, by simp, rfl⟩, ⟨x1, rfl, scEv.at rfl⟩, trivial⟩ (fun f hf => by cases hf) hI).imp (fun r M' h => by
  obtain ⟨⟨o, ho, hr, hf9, hm⟩, h1, h2⟩ := h
  rcases List.mem_cons.mp ho with rfl | ho
  · obtain ⟨n, rfl, c1, c2⟩ := hr; exact q0 n M' ⟨c1, c2⟩ h1 h2
  rcases List.mem_cons.mp ho with rfl | ho
  · have hr : r = .inr fmNSE := hr; subst hr; exact q1 M' h1 h2
  · cases ho)
theorem sx_wrong {M : fmM} {a0 : Int32} (hI : scInv Tx invX M) : pvGood Tx 250 qX10_wrong [.ref 0, .int a0] M (fun r M' => rkI false true r ∧ scInv Tx invX M') := (wsx_wrong (scq_t a0) hI (fun n M' _ h1 _ => ⟨Or.inl ⟨n, rfl⟩, h1⟩) (fun M' h1 _ => ⟨Or.inr (Or.inr ⟨rfl, rfl⟩), h1⟩)).up (by decide)
theorem wsx_would {M : fmM} {Q : fmR → fmM → Prop} {x1 : Int32} (bx1 : (-2147483648) ≤ x1.toInt ∧ x1.toInt ≤ 2147483647) {x2 : Int32} (bx2 : (-2147483648) ≤ x2.toInt ∧ x2.toInt ≤ 2147483647) {x3 : Int32} (bx3 : (-2147483648) ≤ x3.toInt ∧ x3.toInt ≤ 2147483647) {x4 : Int32} (bx4 : (-2147483648) ≤ x4.toInt ∧ x4.toInt ≤ 2147483647) {x5 : Int32} (bx5 : (-2147483648) ≤ x5.toInt ∧ x5.toInt ≤ 2147483647) (hI : scInv Tx invX M) (q0 : ∀ (n : Int32) (M' : fmM), (0 ≤ n.toInt ∧ n.toInt ≤ 64) → scInv Tx invX M' → scFr [(0, 16, 1), (26, 0, 24)] M M' → Q (.inl (some (.int n))) M') (q1 : ∀ M' : fmM, scInv Tx invX M' → scFr [(0, 16, 1), (26, 0, 24)] M M' → Q (.inr fmIAE) M') : pvGood Tx 2 qX10_would [.ref 0, .int x1, .int x2, .int x3, .int x4, .int x5] M Q := (hh_X10_would_0 M [x1.toInt, x2.toInt, x3.toInt, x4.toInt, x5.toInt] [.ref 0, .int x1, .int x2, .int x3, .int x4, .int x5] (scEk.c1 bx1 (scEk.c1 bx2 (scEk.c1 bx3 (scEk.c1 bx4 (scEk.c1 bx5 scEk.n0))))) ⟨⟨0, by simp, rfl⟩, ⟨x1, rfl, scEv.at rfl⟩, ⟨x2, rfl, scEv.at rfl⟩, ⟨x3, rfl, scEv.at rfl⟩, ⟨x4, rfl, scEv.at rfl⟩, ⟨x5, rfl, scEv.at rfl⟩, trivial⟩ (fun f hf => by cases hf) hI).imp (fun r M' h => by
  obtain ⟨⟨o, ho, hr, hf9, hm⟩, h1, h2⟩ := h
  rcases List.mem_cons.mp ho with rfl | ho
  · obtain ⟨n, rfl, c1, c2⟩ := hr; exact q0 n M' ⟨c1, c2⟩ h1 h2
  rcases List.mem_cons.mp ho with rfl | ho
  · have hr : r = .inr fmIAE := hr; subst hr; exact q1 M' h1 h2
  · cases ho)
theorem sx_would {M : fmM} {a0 a1 a2 a3 a4 : Int32} (hI : scInv Tx invX M) : pvGood Tx 250 qX10_would [.ref 0, .int a0, .int a1, .int a2, .int a3, .int a4] M (fun r M' => rkI true false r ∧ scInv Tx invX M') := (wsx_would (scq_t a0) (scq_t a1) (scq_t a2) (scq_t a3) (scq_t a4) hI (fun n M' _ h1 _ => ⟨Or.inl ⟨n, rfl⟩, h1⟩) (fun M' h1 _ => ⟨Or.inr (Or.inl ⟨rfl, rfl⟩), h1⟩)).up (by decide)
theorem wsx_loss {M : fmM} {Q : fmR → fmM → Prop} {x1 : Int32} (bx1 : (-2147483648) ≤ x1.toInt ∧ x1.toInt ≤ 2147483647) (hI : scInv Tx invX M) (q0 : ∀ (n : Int64) (M' : fmM), ((-9223372036854775808) ≤ n.toInt ∧ n.toInt ≤ 9223372036854775807) → scInv Tx invX M' → scFr [(0, 16, 1)] M M' → Q (.inl (some (.long n))) M') (q1 : ∀ M' : fmM, scInv Tx invX M' → scFr [(0, 16, 1)] M M' → Q (.inr fmIAE) M') : pvGood Tx 2 qX10_loss [.ref 0, .int x1] M Q := (hh_X10_loss_0 M [x1.toInt] [.ref 0, .int x1] (scEk.c1 bx1 scEk.n0) ⟨⟨0, by simp, rfl⟩, ⟨x1, rfl, scEv.at rfl⟩, trivial⟩ (fun f hf => by cases hf) hI).imp (fun r M' h => by
  obtain ⟨⟨o, ho, hr, hf9, hm⟩, h1, h2⟩ := h
  rcases List.mem_cons.mp ho with rfl | ho
  · obtain ⟨n, rfl, c1, c2⟩ := hr; exact q0 n M' ⟨c1, c2⟩ h1 h2
  rcases List.mem_cons.mp ho with rfl | ho
  · have hr : r = .inr fmIAE := hr; subst hr; exact q1 M' h1 h2
  · cases ho)
theorem sx_loss {M : fmM} {a0 : Int32} (hI : scInv Tx invX M) : pvGood Tx 250 qX10_loss [.ref 0, .int a0] M (fun r M' => rkJ true false r ∧ scInv Tx invX M') := (wsx_loss (scq_t a0) hI (fun n M' _ h1 _ => ⟨Or.inl ⟨n, rfl⟩, h1⟩) (fun M' h1 _ => ⟨Or.inr (Or.inl ⟨rfl, rfl⟩), h1⟩)).up (by decide)
theorem wsx_cost {M : fmM} {Q : fmR → fmM → Prop} {x1 : Int32} (bx1 : (-2147483648) ≤ x1.toInt ∧ x1.toInt ≤ 2147483647) {x2 : Int32} (bx2 : (-2147483648) ≤ x2.toInt ∧ x2.toInt ≤ 2147483647) (hI : scInv Tx invX M) (q0 : ∀ (n : Int64) (M' : fmM), ((-9223372036854775808) ≤ n.toInt ∧ n.toInt ≤ 9223372036854775807) → scInv Tx invX M' → scFr [(0, 15, 2), (26, 0, 24)] M M' → Q (.inl (some (.long n))) M') (q1 : ∀ M' : fmM, scInv Tx invX M' → scFr [(0, 15, 2), (26, 0, 24)] M M' → Q (.inr fmIAE) M') (q2 : ∀ M' : fmM, scInv Tx invX M' → scFr [(0, 15, 2), (26, 0, 24)] M M' → Q (.inr fmNSE) M') : pvGood Tx 4 qX10_cost [.ref 0, .int x1, .int x2] M Q := (hh_X10_cost_0 M [x1.toInt, x2.toInt] [.ref 0, .int x1, .int x2] (scEk.c1 bx1 (scEk.c1 bx2 scEk.n0)) ⟨⟨0, by simp, rfl⟩, ⟨x1, rfl, scEv.at rfl⟩, ⟨x2, rfl, scEv.at rfl⟩, trivial⟩ (fun f hf => by cases hf) hI).imp (fun r M' h => by
  obtain ⟨⟨o, ho, hr, hf9, hm⟩, h1, h2⟩ := h
  rcases List.mem_cons.mp ho with rfl | ho
  · obtain ⟨n, rfl, c1, c2⟩ := hr; exact q0 n M' ⟨c1, c2⟩ h1 h2
  rcases List.mem_cons.mp ho with rfl | ho
  · have hr : r = .inr fmIAE := hr; subst hr; exact q1 M' h1 h2
  rcases List.mem_cons.mp ho with rfl | ho
  · have hr : r = .inr fmNSE := hr; subst hr; exact q2 M' h1 h2
  · cases ho)
theorem sx_cost {M : fmM} {a0 a1 : Int32} (hI : scInv Tx invX M) : pvGood Tx 250 qX10_cost [.ref 0, .int a0, .int a1] M (fun r M' => rkJ true true r ∧ scInv Tx invX M') := (wsx_cost (scq_t a0) (scq_t a1) hI (fun n M' _ h1 _ => ⟨Or.inl ⟨n, rfl⟩, h1⟩) (fun M' h1 _ => ⟨Or.inr (Or.inl ⟨rfl, rfl⟩), h1⟩) (fun M' h1 _ => ⟨Or.inr (Or.inr ⟨rfl, rfl⟩), h1⟩)).up (by decide)
theorem wsx_risk {M : fmM} {Q : fmR → fmM → Prop} {x1 : Int32} (bx1 : (-2147483648) ≤ x1.toInt ∧ x1.toInt ≤ 2147483647) (hI : scInv Tx invX M) (q0 : ∀ (n : Int64) (M' : fmM), ((-9223372036854775808) ≤ n.toInt ∧ n.toInt ≤ 9223372036854775807) → scInv Tx invX M' → scFr [(0, 16, 1), (26, 0, 24)] M M' → Q (.inl (some (.long n))) M') (q1 : ∀ M' : fmM, scInv Tx invX M' → scFr [(0, 16, 1), (26, 0, 24)] M M' → Q (.inr fmIAE) M') : pvGood Tx 5 qX10_risk [.ref 0, .int x1] M Q := (hh_X10_risk_0 M [x1.toInt] [.ref 0, .int x1] (scEk.c1 bx1 scEk.n0) ⟨⟨0, by simp, rfl⟩, ⟨x1, rfl, scEv.at rfl⟩, trivial⟩ (fun f hf => by cases hf) hI).imp (fun r M' h => by
  obtain ⟨⟨o, ho, hr, hf9, hm⟩, h1, h2⟩ := h
  rcases List.mem_cons.mp ho with rfl | ho
  · obtain ⟨n, rfl, c1, c2⟩ := hr; exact q0 n M' ⟨c1, c2⟩ h1 h2
  rcases List.mem_cons.mp ho with rfl | ho
  · have hr : r = .inr fmIAE := hr; subst hr; exact q1 M' h1 h2
  · cases ho)
theorem sx_risk {M : fmM} {a0 : Int32} (hI : scInv Tx invX M) : pvGood Tx 250 qX10_risk [.ref 0, .int a0] M (fun r M' => rkJ true false r ∧ scInv Tx invX M') := (wsx_risk (scq_t a0) hI (fun n M' _ h1 _ => ⟨Or.inl ⟨n, rfl⟩, h1⟩) (fun M' h1 _ => ⟨Or.inr (Or.inl ⟨rfl, rfl⟩), h1⟩)).up (by decide)
theorem wsx_saves {M : fmM} {Q : fmR → fmM → Prop} {x1 : Int32} (bx1 : (-2147483648) ≤ x1.toInt ∧ x1.toInt ≤ 2147483647) {x2 : Int32} (bx2 : (-2147483648) ≤ x2.toInt ∧ x2.toInt ≤ 2147483647) (hI : scInv Tx invX M) (q0 : ∀ (n : Int64) (M' : fmM), ((-9223372036854775808) ≤ n.toInt ∧ n.toInt ≤ 9223372036854775807) → scInv Tx invX M' → scFr [(0, 15, 2), (26, 0, 24)] M M' → Q (.inl (some (.long n))) M') (q1 : ∀ M' : fmM, scInv Tx invX M' → scFr [(0, 15, 2), (26, 0, 24)] M M' → Q (.inr fmIAE) M') (q2 : ∀ M' : fmM, scInv Tx invX M' → scFr [(0, 15, 2), (26, 0, 24)] M M' → Q (.inr fmNSE) M') : pvGood Tx 5 qX10_saves [.ref 0, .int x1, .int x2] M Q := (hh_X10_saves_0 M [x1.toInt, x2.toInt] [.ref 0, .int x1, .int x2] (scEk.c1 bx1 (scEk.c1 bx2 scEk.n0)) ⟨⟨0, by simp, rfl⟩, ⟨x1, rfl, scEv.at rfl⟩, ⟨x2, rfl, scEv.at rfl⟩, trivial⟩ (fun f hf => by cases hf) hI).imp (fun r M' h => by
  obtain ⟨⟨o, ho, hr, hf9, hm⟩, h1, h2⟩ := h
  rcases List.mem_cons.mp ho with rfl | ho
  · obtain ⟨n, rfl, c1, c2⟩ := hr; exact q0 n M' ⟨c1, c2⟩ h1 h2
  rcases List.mem_cons.mp ho with rfl | ho
  · have hr : r = .inr fmIAE := hr; subst hr; exact q1 M' h1 h2
  rcases List.mem_cons.mp ho with rfl | ho
  · have hr : r = .inr fmNSE := hr; subst hr; exact q2 M' h1 h2
  · cases ho)
theorem sx_saves {M : fmM} {a0 a1 : Int32} (hI : scInv Tx invX M) : pvGood Tx 250 qX10_saves [.ref 0, .int a0, .int a1] M (fun r M' => rkJ true true r ∧ scInv Tx invX M') := (wsx_saves (scq_t a0) (scq_t a1) hI (fun n M' _ h1 _ => ⟨Or.inl ⟨n, rfl⟩, h1⟩) (fun M' h1 _ => ⟨Or.inr (Or.inl ⟨rfl, rfl⟩), h1⟩) (fun M' h1 _ => ⟨Or.inr (Or.inr ⟨rfl, rfl⟩), h1⟩)).up (by decide)
theorem wsx_first {M : fmM} {Q : fmR → fmM → Prop}  (hI : scInv Tx invX M) (q0 : ∀ (n : Int32) (M' : fmM), ((-1) ≤ n.toInt ∧ n.toInt ≤ 7) → scInv Tx invX M' → scFr [(26, 0, 24), (33, 0, 8)] M M' → Q (.inl (some (.int n))) M') : pvGood Tx 6 qX10_first [.ref 0] M Q := (hh_X10_first_0 M [] [.ref 0] scEk.n0 ⟨⟨0, by simp, rfl⟩, trivial⟩ (fun f hf => by cases hf) hI).imp (fun r M' h => by
  obtain ⟨⟨o, ho, hr, hf9, hm⟩, h1, h2⟩ := h
  rcases List.mem_cons.mp ho with rfl | ho
  · obtain ⟨n, rfl, c1, c2⟩ := hr; exact q0 n M' ⟨c1, c2⟩ h1 h2
  · cases ho)
theorem sx_first {M : fmM} (hI : scInv Tx invX M) : pvGood Tx 250 qX10_first [.ref 0] M (fun r M' => rkI false false r ∧ scInv Tx invX M') := (wsx_first  hI (fun n M' _ h1 _ => ⟨Or.inl ⟨n, rfl⟩, h1⟩)).up (by decide)
theorem wsx_lacking {M : fmM} {Q : fmR → fmM → Prop}  (hI : scInv Tx invX M) (q0 : ∀ (n : Int32) (M' : fmM), ((-2147483648) ≤ n.toInt ∧ n.toInt ≤ 2147483647) → scInv Tx invX M' → scFr [] M M' → Q (.inl (some (.int n))) M') : pvGood Tx 1 qX10_lacking [.ref 0] M Q := (hh_X10_lacking_0 M [] [.ref 0] scEk.n0 ⟨⟨0, by simp, rfl⟩, trivial⟩ (fun f hf => by cases hf) hI).imp (fun r M' h => by
  obtain ⟨⟨o, ho, hr, hf9, hm⟩, h1, h2⟩ := h
  rcases List.mem_cons.mp ho with rfl | ho
  · obtain ⟨n, rfl, c1, c2⟩ := hr; exact q0 n M' ⟨c1, c2⟩ h1 h2
  · cases ho)
theorem sx_lacking {M : fmM} (hI : scInv Tx invX M) : pvGood Tx 250 qX10_lacking [.ref 0] M (fun r M' => rkI false false r ∧ scInv Tx invX M') := (wsx_lacking  hI (fun n M' _ h1 _ => ⟨Or.inl ⟨n, rfl⟩, h1⟩)).up (by decide)
theorem wsx_signed {M : fmM} {Q : fmR → fmM → Prop}  (hI : scInv Tx invX M) (q0 : ∀ (n : Int32) (M' : fmM), ((-2147483648) ≤ n.toInt ∧ n.toInt ≤ 2147483647) → scInv Tx invX M' → scFr [] M M' → Q (.inl (some (.int n))) M') : pvGood Tx 2 qX10_signed [.ref 0] M Q := (hh_X10_signed_0 M [] [.ref 0] scEk.n0 ⟨⟨0, by simp, rfl⟩, trivial⟩ (fun f hf => by cases hf) hI).imp (fun r M' h => by
  obtain ⟨⟨o, ho, hr, hf9, hm⟩, h1, h2⟩ := h
  rcases List.mem_cons.mp ho with rfl | ho
  · obtain ⟨n, rfl, c1, c2⟩ := hr; exact q0 n M' ⟨c1, c2⟩ h1 h2
  · cases ho)
theorem sx_signed {M : fmM} (hI : scInv Tx invX M) : pvGood Tx 250 qX10_signed [.ref 0] M (fun r M' => rkI false false r ∧ scInv Tx invX M') := (wsx_signed  hI (fun n M' _ h1 _ => ⟨Or.inl ⟨n, rfl⟩, h1⟩)).up (by decide)
theorem wsx_stale {M : fmM} {Q : fmR → fmM → Prop} {x1 : Int32} (bx1 : (-2147483648) ≤ x1.toInt ∧ x1.toInt ≤ 2147483647) (hI : scInv Tx invX M) (q0 : ∀ (n : Int32) (M' : fmM), ((-2147483648) ≤ n.toInt ∧ n.toInt ≤ 2147483647) → scInv Tx invX M' → scFr [(0, 16, 1), (26, 0, 24)] M M' → Q (.inl (some (.int n))) M') (q1 : ∀ M' : fmM, scInv Tx invX M' → scFr [(0, 16, 1), (26, 0, 24)] M M' → Q (.inr fmIAE) M') : pvGood Tx 4 qX10_stale [.ref 0, .int x1] M Q := (hh_X10_stale_0 M [x1.toInt] [.ref 0, .int x1] (scEk.c1 bx1 scEk.n0) ⟨⟨0, by simp, rfl⟩, ⟨x1, rfl, scEv.at rfl⟩, trivial⟩ (fun f hf => by cases hf) hI).imp (fun r M' h => by
  obtain ⟨⟨o, ho, hr, hf9, hm⟩, h1, h2⟩ := h
  rcases List.mem_cons.mp ho with rfl | ho
  · obtain ⟨n, rfl, c1, c2⟩ := hr; exact q0 n M' ⟨c1, c2⟩ h1 h2
  rcases List.mem_cons.mp ho with rfl | ho
  · have hr : r = .inr fmIAE := hr; subst hr; exact q1 M' h1 h2
  · cases ho)
theorem sx_stale {M : fmM} {a0 : Int32} (hI : scInv Tx invX M) : pvGood Tx 250 qX10_stale [.ref 0, .int a0] M (fun r M' => rkI true false r ∧ scInv Tx invX M') := (wsx_stale (scq_t a0) hI (fun n M' _ h1 _ => ⟨Or.inl ⟨n, rfl⟩, h1⟩) (fun M' h1 _ => ⟨Or.inr (Or.inl ⟨rfl, rfl⟩), h1⟩)).up (by decide)
theorem wsx_best {M : fmM} {Q : fmR → fmM → Prop} {x1 : Int32} (bx1 : (-2147483648) ≤ x1.toInt ∧ x1.toInt ≤ 2147483647) {x2 : Int32} (bx2 : (-2147483648) ≤ x2.toInt ∧ x2.toInt ≤ 2147483647) (hI : scInv Tx invX M) (q0 : ∀ (n : Int64) (M' : fmM), ((-9223372036854775808) ≤ n.toInt ∧ n.toInt ≤ 9223372036854775807) → scInv Tx invX M' → scFr [(0, 16, 1), (26, 0, 24), (34, 5, 2), (35, 0, 2197), (36, 0, 8), (37, 0, 24), (38, 0, 3)] M M' → Q (.inl (some (.long n))) M') (q1 : ∀ M' : fmM, scInv Tx invX M' → scFr [(0, 16, 1), (26, 0, 24), (34, 5, 2), (35, 0, 2197), (36, 0, 8), (37, 0, 24), (38, 0, 3)] M M' → Q (.inr fmIAE) M') : pvGood Tx 7 qX10_best [.ref 0, .int x1, .int x2] M Q := (hh_X10_best_0 M [x1.toInt, x2.toInt] [.ref 0, .int x1, .int x2] (scEk.c1 bx1 (scEk.c1 bx2 scEk.n0)) ⟨⟨0, by simp, rfl⟩, ⟨x1, rfl, scEv.at rfl⟩, ⟨x2, rfl, scEv.at rfl⟩, trivial⟩ (fun f hf => by cases hf) hI).imp (fun r M' h => by
  obtain ⟨⟨o, ho, hr, hf9, hm⟩, h1, h2⟩ := h
  rcases List.mem_cons.mp ho with rfl | ho
  · obtain ⟨n, rfl, c1, c2⟩ := hr; exact q0 n M' ⟨c1, c2⟩ h1 h2
  rcases List.mem_cons.mp ho with rfl | ho
  · have hr : r = .inr fmIAE := hr; subst hr; exact q1 M' h1 h2
  · cases ho)
theorem sx_best {M : fmM} {a0 a1 : Int32} (hI : scInv Tx invX M) : pvGood Tx 250 qX10_best [.ref 0, .int a0, .int a1] M (fun r M' => rkJ true false r ∧ scInv Tx invX M') := (wsx_best (scq_t a0) (scq_t a1) hI (fun n M' _ h1 _ => ⟨Or.inl ⟨n, rfl⟩, h1⟩) (fun M' h1 _ => ⟨Or.inr (Or.inl ⟨rfl, rfl⟩), h1⟩)).up (by decide)
theorem wsx_bestIn {M : fmM} {Q : fmR → fmM → Prop} {x1 : Int32} (bx1 : (-2147483648) ≤ x1.toInt ∧ x1.toInt ≤ 2147483647) {x2 : Int32} (bx2 : (-2147483648) ≤ x2.toInt ∧ x2.toInt ≤ 2147483647) (hI : scInv Tx invX M) (q0 : ∀ (n : Int32) (M' : fmM), (0 ≤ n.toInt ∧ n.toInt ≤ 255) → scInv Tx invX M' → scFr [(0, 16, 1), (26, 0, 24), (34, 5, 2), (35, 0, 2197), (36, 0, 8), (37, 0, 24), (38, 0, 3)] M M' → Q (.inl (some (.int n))) M') (q1 : ∀ M' : fmM, scInv Tx invX M' → scFr [(0, 16, 1), (26, 0, 24), (34, 5, 2), (35, 0, 2197), (36, 0, 8), (37, 0, 24), (38, 0, 3)] M M' → Q (.inr fmIAE) M') : pvGood Tx 7 qX10_bestIn [.ref 0, .int x1, .int x2] M Q := (hh_X10_bestIn_0 M [x1.toInt, x2.toInt] [.ref 0, .int x1, .int x2] (scEk.c1 bx1 (scEk.c1 bx2 scEk.n0)) ⟨⟨0, by simp, rfl⟩, ⟨x1, rfl, scEv.at rfl⟩, ⟨x2, rfl, scEv.at rfl⟩, trivial⟩ (fun f hf => by cases hf) hI).imp (fun r M' h => by
  obtain ⟨⟨o, ho, hr, hf9, hm⟩, h1, h2⟩ := h
  rcases List.mem_cons.mp ho with rfl | ho
  · obtain ⟨n, rfl, c1, c2⟩ := hr; exact q0 n M' ⟨c1, c2⟩ h1 h2
  rcases List.mem_cons.mp ho with rfl | ho
  · have hr : r = .inr fmIAE := hr; subst hr; exact q1 M' h1 h2
  · cases ho)
theorem sx_bestIn {M : fmM} {a0 a1 : Int32} (hI : scInv Tx invX M) : pvGood Tx 250 qX10_bestIn [.ref 0, .int a0, .int a1] M (fun r M' => rkI true false r ∧ scInv Tx invX M') := (wsx_bestIn (scq_t a0) (scq_t a1) hI (fun n M' _ h1 _ => ⟨Or.inl ⟨n, rfl⟩, h1⟩) (fun M' h1 _ => ⟨Or.inr (Or.inl ⟨rfl, rfl⟩), h1⟩)).up (by decide)
theorem wsx_often {M : fmM} {Q : fmR → fmM → Prop} {x1 : Int32} (bx1 : (-2147483648) ≤ x1.toInt ∧ x1.toInt ≤ 2147483647) {x2 : Int32} (bx2 : (-2147483648) ≤ x2.toInt ∧ x2.toInt ≤ 2147483647) (hI : scInv Tx invX M) (q0 : ∀ (n : Int32) (M' : fmM), (0 ≤ n.toInt ∧ n.toInt ≤ 2147483647) → scInv Tx invX M' → scFr [(0, 15, 2), (26, 0, 24)] M M' → Q (.inl (some (.int n))) M') (q1 : ∀ M' : fmM, scInv Tx invX M' → scFr [(0, 15, 2), (26, 0, 24)] M M' → Q (.inr fmIAE) M') (q2 : ∀ M' : fmM, scInv Tx invX M' → scFr [(0, 15, 2), (26, 0, 24)] M M' → Q (.inr fmNSE) M') : pvGood Tx 3 qX10_often [.ref 0, .int x1, .int x2] M Q := (hh_X10_often_0 M [x1.toInt, x2.toInt] [.ref 0, .int x1, .int x2] (scEk.c1 bx1 (scEk.c1 bx2 scEk.n0)) ⟨⟨0, by simp, rfl⟩, ⟨x1, rfl, scEv.at rfl⟩, ⟨x2, rfl, scEv.at rfl⟩, trivial⟩ (fun f hf => by cases hf) hI).imp (fun r M' h => by
  obtain ⟨⟨o, ho, hr, hf9, hm⟩, h1, h2⟩ := h
  rcases List.mem_cons.mp ho with rfl | ho
  · obtain ⟨n, rfl, c1, c2⟩ := hr; exact q0 n M' ⟨c1, c2⟩ h1 h2
  rcases List.mem_cons.mp ho with rfl | ho
  · have hr : r = .inr fmIAE := hr; subst hr; exact q1 M' h1 h2
  rcases List.mem_cons.mp ho with rfl | ho
  · have hr : r = .inr fmNSE := hr; subst hr; exact q2 M' h1 h2
  · cases ho)
theorem sx_often {M : fmM} {a0 a1 : Int32} (hI : scInv Tx invX M) : pvGood Tx 250 qX10_often [.ref 0, .int a0, .int a1] M (fun r M' => rkI true true r ∧ scInv Tx invX M') := (wsx_often (scq_t a0) (scq_t a1) hI (fun n M' _ h1 _ => ⟨Or.inl ⟨n, rfl⟩, h1⟩) (fun M' h1 _ => ⟨Or.inr (Or.inl ⟨rfl, rfl⟩), h1⟩) (fun M' h1 _ => ⟨Or.inr (Or.inr ⟨rfl, rfl⟩), h1⟩)).up (by decide)
theorem wsx_yearly {M : fmM} {Q : fmR → fmM → Prop} {x1 : Int32} (bx1 : (-2147483648) ≤ x1.toInt ∧ x1.toInt ≤ 2147483647) {x2 : Int32} (bx2 : (-2147483648) ≤ x2.toInt ∧ x2.toInt ≤ 2147483647) {x3 : Int32} (bx3 : (-2147483648) ≤ x3.toInt ∧ x3.toInt ≤ 2147483647) {x4 : Int32} (bx4 : (-2147483648) ≤ x4.toInt ∧ x4.toInt ≤ 2147483647) (hI : scInv Tx invX M) (q0 : ∀ (n : Int64) (M' : fmM), ((-9223372036854775808) ≤ n.toInt ∧ n.toInt ≤ 9223372036854775807) → scInv Tx invX M' → scFr [(0, 15, 2), (26, 0, 24)] M M' → Q (.inl (some (.long n))) M') (q1 : ∀ M' : fmM, scInv Tx invX M' → scFr [(0, 15, 2), (26, 0, 24)] M M' → Q (.inr fmIAE) M') (q2 : ∀ M' : fmM, scInv Tx invX M' → scFr [(0, 15, 2), (26, 0, 24)] M M' → Q (.inr fmNSE) M') : pvGood Tx 3 qX10_yearly [.ref 0, .int x1, .int x2, .int x3, .int x4] M Q := (hh_X10_yearly_0 M [x1.toInt, x2.toInt, x3.toInt, x4.toInt] [.ref 0, .int x1, .int x2, .int x3, .int x4] (scEk.c1 bx1 (scEk.c1 bx2 (scEk.c1 bx3 (scEk.c1 bx4 scEk.n0)))) ⟨⟨0, by simp, rfl⟩, ⟨x1, rfl, scEv.at rfl⟩, ⟨x2, rfl, scEv.at rfl⟩, ⟨x3, rfl, scEv.at rfl⟩, ⟨x4, rfl, scEv.at rfl⟩, trivial⟩ (fun f hf => by cases hf) hI).imp (fun r M' h => by
  obtain ⟨⟨o, ho, hr, hf9, hm⟩, h1, h2⟩ := h
  rcases List.mem_cons.mp ho with rfl | ho
  · obtain ⟨n, rfl, c1, c2⟩ := hr; exact q0 n M' ⟨c1, c2⟩ h1 h2
  rcases List.mem_cons.mp ho with rfl | ho
  · have hr : r = .inr fmIAE := hr; subst hr; exact q1 M' h1 h2
  rcases List.mem_cons.mp ho with rfl | ho
  · have hr : r = .inr fmNSE := hr; subst hr; exact q2 M' h1 h2
  · cases ho)
theorem sx_yearly {M : fmM} {a0 a1 a2 a3 : Int32} (hI : scInv Tx invX M) : pvGood Tx 250 qX10_yearly [.ref 0, .int a0, .int a1, .int a2, .int a3] M (fun r M' => rkJ true true r ∧ scInv Tx invX M') := (wsx_yearly (scq_t a0) (scq_t a1) (scq_t a2) (scq_t a3) hI (fun n M' _ h1 _ => ⟨Or.inl ⟨n, rfl⟩, h1⟩) (fun M' h1 _ => ⟨Or.inr (Or.inl ⟨rfl, rfl⟩), h1⟩) (fun M' h1 _ => ⟨Or.inr (Or.inr ⟨rfl, rfl⟩), h1⟩)).up (by decide)
theorem wsx_brings {M : fmM} {Q : fmR → fmM → Prop} {x1 : Int32} (bx1 : (-2147483648) ≤ x1.toInt ∧ x1.toInt ≤ 2147483647) {x2 : Int32} (bx2 : (-2147483648) ≤ x2.toInt ∧ x2.toInt ≤ 2147483647) {x3 : Int32} (bx3 : (-2147483648) ≤ x3.toInt ∧ x3.toInt ≤ 2147483647) {x4 : Int32} (bx4 : (-2147483648) ≤ x4.toInt ∧ x4.toInt ≤ 2147483647) {x5 : Int32} (bx5 : (-2147483648) ≤ x5.toInt ∧ x5.toInt ≤ 2147483647) {x6 : Int32} (bx6 : (-2147483648) ≤ x6.toInt ∧ x6.toInt ≤ 2147483647) (hI : scInv Tx invX M) (q0 : ∀ (n : Int32) (M' : fmM), ((-2147483648) ≤ n.toInt ∧ n.toInt ≤ 2147483647) → scInv Tx invX M' → scFr [(0, 16, 1)] M M' → Q (.inl (some (.int n))) M') (q1 : ∀ M' : fmM, scInv Tx invX M' → scFr [(0, 16, 1)] M M' → Q (.inr fmIAE) M') : pvGood Tx 2 qX10_brings [.ref 0, .int x1, .int x2, .int x3, .int x4, .int x5, .int x6] M Q := (hh_X10_brings_0 M [x1.toInt, x2.toInt, x3.toInt, x4.toInt, x5.toInt, x6.toInt] [.ref 0, .int x1, .int x2, .int x3, .int x4, .int x5, .int x6] (scEk.c1 bx1 (scEk.c1 bx2 (scEk.c1 bx3 (scEk.c1 bx4 (scEk.c1 bx5 (scEk.c1 bx6 scEk.n0)))))) ⟨⟨0, by simp, rfl⟩, ⟨x1, rfl, scEv.at rfl⟩, ⟨x2, rfl, scEv.at rfl⟩, ⟨x3, rfl, scEv.at rfl⟩, ⟨x4, rfl, scEv.at rfl⟩, ⟨x5, rfl, scEv.at rfl⟩, ⟨x6, rfl, scEv.at rfl⟩, trivial⟩ (fun f hf => by cases hf) hI).imp (fun r M' h => by
  obtain ⟨⟨o, ho, hr, hf9, hm⟩, h1, h2⟩ := h
  rcases List.mem_cons.mp ho with rfl | ho
  · obtain ⟨n, rfl, c1, c2⟩ := hr; exact q0 n M' ⟨c1, c2⟩ h1 h2
  rcases List.mem_cons.mp ho with rfl | ho
  · have hr : r = .inr fmIAE := hr; subst hr; exact q1 M' h1 h2
  · cases ho)
theorem sx_brings {M : fmM} {a0 a1 a2 a3 a4 a5 : Int32} (hI : scInv Tx invX M) : pvGood Tx 250 qX10_brings [.ref 0, .int a0, .int a1, .int a2, .int a3, .int a4, .int a5] M (fun r M' => rkI true false r ∧ scInv Tx invX M') := (wsx_brings (scq_t a0) (scq_t a1) (scq_t a2) (scq_t a3) (scq_t a4) (scq_t a5) hI (fun n M' _ h1 _ => ⟨Or.inl ⟨n, rfl⟩, h1⟩) (fun M' h1 _ => ⟨Or.inr (Or.inl ⟨rfl, rfl⟩), h1⟩)).up (by decide)
theorem wsx_says {M : fmM} {Q : fmR → fmM → Prop} {x1 : Int32} (bx1 : (-2147483648) ≤ x1.toInt ∧ x1.toInt ≤ 2147483647) {x2 : Int32} (bx2 : (-2147483648) ≤ x2.toInt ∧ x2.toInt ≤ 2147483647) {x3 : Int32} (bx3 : (-2147483648) ≤ x3.toInt ∧ x3.toInt ≤ 2147483647) {x4 : Int32} (bx4 : (-2147483648) ≤ x4.toInt ∧ x4.toInt ≤ 2147483647) {x5 : Int32} (bx5 : (-2147483648) ≤ x5.toInt ∧ x5.toInt ≤ 2147483647) (hI : scInv Tx invX M) (q0 : ∀ (n : Int32) (M' : fmM), (0 ≤ n.toInt ∧ n.toInt ≤ 2) → scInv Tx invX M' → scFr [(0, 16, 1)] M M' → Q (.inl (some (.int n))) M') (q1 : ∀ M' : fmM, scInv Tx invX M' → scFr [(0, 16, 1)] M M' → Q (.inr fmIAE) M') : pvGood Tx 2 qX10_says [.ref 0, .int x1, .int x2, .int x3, .int x4, .int x5] M Q := (hh_X10_says_0 M [x1.toInt, x2.toInt, x3.toInt, x4.toInt, x5.toInt] [.ref 0, .int x1, .int x2, .int x3, .int x4, .int x5] (scEk.c1 bx1 (scEk.c1 bx2 (scEk.c1 bx3 (scEk.c1 bx4 (scEk.c1 bx5 scEk.n0))))) ⟨⟨0, by simp, rfl⟩, ⟨x1, rfl, scEv.at rfl⟩, ⟨x2, rfl, scEv.at rfl⟩, ⟨x3, rfl, scEv.at rfl⟩, ⟨x4, rfl, scEv.at rfl⟩, ⟨x5, rfl, scEv.at rfl⟩, trivial⟩ (fun f hf => by cases hf) hI).imp (fun r M' h => by
  obtain ⟨⟨o, ho, hr, hf9, hm⟩, h1, h2⟩ := h
  rcases List.mem_cons.mp ho with rfl | ho
  · obtain ⟨n, rfl, c1, c2⟩ := hr; exact q0 n M' ⟨c1, c2⟩ h1 h2
  rcases List.mem_cons.mp ho with rfl | ho
  · have hr : r = .inr fmIAE := hr; subst hr; exact q1 M' h1 h2
  · cases ho)
theorem sx_says {M : fmM} {a0 a1 a2 a3 a4 : Int32} (hI : scInv Tx invX M) : pvGood Tx 250 qX10_says [.ref 0, .int a0, .int a1, .int a2, .int a3, .int a4] M (fun r M' => rkI true false r ∧ scInv Tx invX M') := (wsx_says (scq_t a0) (scq_t a1) (scq_t a2) (scq_t a3) (scq_t a4) hI (fun n M' _ h1 _ => ⟨Or.inl ⟨n, rfl⟩, h1⟩) (fun M' h1 _ => ⟨Or.inr (Or.inl ⟨rfl, rfl⟩), h1⟩)).up (by decide)
theorem wsx_line {M : fmM} {Q : fmR → fmM → Prop} {x1 : Int32} (bx1 : (-2147483648) ≤ x1.toInt ∧ x1.toInt ≤ 2147483647) {x2 : Int32} (bx2 : (-2147483648) ≤ x2.toInt ∧ x2.toInt ≤ 2147483647) {x3 : Int32} (bx3 : (-2147483648) ≤ x3.toInt ∧ x3.toInt ≤ 2147483647) {x4 : Int32} (bx4 : (-2147483648) ≤ x4.toInt ∧ x4.toInt ≤ 2147483647) (hI : scInv Tx invX M) (q0 : ∀ (n : Int32) (M' : fmM), ((-1) ≤ n.toInt ∧ n.toInt ≤ 16) → scInv Tx invX M' → scFr [(0, 16, 1)] M M' → Q (.inl (some (.int n))) M') (q1 : ∀ M' : fmM, scInv Tx invX M' → scFr [(0, 16, 1)] M M' → Q (.inr fmIAE) M') : pvGood Tx 2 qX10_line [.ref 0, .int x1, .int x2, .int x3, .int x4] M Q := (hh_X10_line_0 M [x1.toInt, x2.toInt, x3.toInt, x4.toInt] [.ref 0, .int x1, .int x2, .int x3, .int x4] (scEk.c1 bx1 (scEk.c1 bx2 (scEk.c1 bx3 (scEk.c1 bx4 scEk.n0)))) ⟨⟨0, by simp, rfl⟩, ⟨x1, rfl, scEv.at rfl⟩, ⟨x2, rfl, scEv.at rfl⟩, ⟨x3, rfl, scEv.at rfl⟩, ⟨x4, rfl, scEv.at rfl⟩, trivial⟩ (fun f hf => by cases hf) hI).imp (fun r M' h => by
  obtain ⟨⟨o, ho, hr, hf9, hm⟩, h1, h2⟩ := h
  rcases List.mem_cons.mp ho with rfl | ho
  · obtain ⟨n, rfl, c1, c2⟩ := hr; exact q0 n M' ⟨c1, c2⟩ h1 h2
  rcases List.mem_cons.mp ho with rfl | ho
  · have hr : r = .inr fmIAE := hr; subst hr; exact q1 M' h1 h2
  · cases ho)
theorem sx_line {M : fmM} {a0 a1 a2 a3 : Int32} (hI : scInv Tx invX M) : pvGood Tx 250 qX10_line [.ref 0, .int a0, .int a1, .int a2, .int a3] M (fun r M' => rkI true false r ∧ scInv Tx invX M') := (wsx_line (scq_t a0) (scq_t a1) (scq_t a2) (scq_t a3) hI (fun n M' _ h1 _ => ⟨Or.inl ⟨n, rfl⟩, h1⟩) (fun M' h1 _ => ⟨Or.inr (Or.inl ⟨rfl, rfl⟩), h1⟩)).up (by decide)
theorem wsx_room {M : fmM} {Q : fmR → fmM → Prop} {x1 : Int32} (bx1 : (-2147483648) ≤ x1.toInt ∧ x1.toInt ≤ 2147483647) {x2 : Int32} (bx2 : (-2147483648) ≤ x2.toInt ∧ x2.toInt ≤ 2147483647) (hI : scInv Tx invX M) (q0 : ∀ (n : Int32) (M' : fmM), ((-2147483648) ≤ n.toInt ∧ n.toInt ≤ 2147483647) → scInv Tx invX M' → scFr [(0, 16, 1), (45, 0, 201)] M M' → Q (.inl (some (.int n))) M') (q1 : ∀ M' : fmM, scInv Tx invX M' → scFr [(0, 16, 1), (45, 0, 201)] M M' → Q (.inr fmIAE) M') : pvGood Tx 3 qX10_room [.ref 0, .int x1, .int x2] M Q := (hh_X10_room_0 M [x1.toInt, x2.toInt] [.ref 0, .int x1, .int x2] (scEk.c1 bx1 (scEk.c1 bx2 scEk.n0)) ⟨⟨0, by simp, rfl⟩, ⟨x1, rfl, scEv.at rfl⟩, ⟨x2, rfl, scEv.at rfl⟩, trivial⟩ (fun f hf => by cases hf) hI).imp (fun r M' h => by
  obtain ⟨⟨o, ho, hr, hf9, hm⟩, h1, h2⟩ := h
  rcases List.mem_cons.mp ho with rfl | ho
  · obtain ⟨n, rfl, c1, c2⟩ := hr; exact q0 n M' ⟨c1, c2⟩ h1 h2
  rcases List.mem_cons.mp ho with rfl | ho
  · have hr : r = .inr fmIAE := hr; subst hr; exact q1 M' h1 h2
  · cases ho)
theorem sx_room {M : fmM} {a0 a1 : Int32} (hI : scInv Tx invX M) : pvGood Tx 250 qX10_room [.ref 0, .int a0, .int a1] M (fun r M' => rkI true false r ∧ scInv Tx invX M') := (wsx_room (scq_t a0) (scq_t a1) hI (fun n M' _ h1 _ => ⟨Or.inl ⟨n, rfl⟩, h1⟩) (fun M' h1 _ => ⟨Or.inr (Or.inl ⟨rfl, rfl⟩), h1⟩)).up (by decide)
theorem wsx_lines {M : fmM} {Q : fmR → fmM → Prop} {x1 : Int32} (bx1 : (-2147483648) ≤ x1.toInt ∧ x1.toInt ≤ 2147483647) {x2 : Int32} (bx2 : (-2147483648) ≤ x2.toInt ∧ x2.toInt ≤ 2147483647) {x3 : Int32} (bx3 : (-2147483648) ≤ x3.toInt ∧ x3.toInt ≤ 2147483647) (hI : scInv Tx invX M) (q0 : ∀ (n : Int32) (M' : fmM), (0 ≤ n.toInt ∧ n.toInt ≤ 99) → scInv Tx invX M' → scFr [(0, 15, 2), (45, 0, 201)] M M' → Q (.inl (some (.int n))) M') (q1 : ∀ M' : fmM, scInv Tx invX M' → scFr [(0, 15, 2), (45, 0, 201)] M M' → Q (.inr fmIAE) M') (q2 : ∀ M' : fmM, scInv Tx invX M' → scFr [(0, 15, 2), (45, 0, 201)] M M' → Q (.inr fmNSE) M') : pvGood Tx 3 qX10_lines [.ref 0, .int x1, .int x2, .int x3] M Q := (hh_X10_lines_0 M [x1.toInt, x2.toInt, x3.toInt] [.ref 0, .int x1, .int x2, .int x3] (scEk.c1 bx1 (scEk.c1 bx2 (scEk.c1 bx3 scEk.n0))) ⟨⟨0, by simp, rfl⟩, ⟨x1, rfl, scEv.at rfl⟩, ⟨x2, rfl, scEv.at rfl⟩, ⟨x3, rfl, scEv.at rfl⟩, trivial⟩ (fun f hf => by cases hf) hI).imp (fun r M' h => by
  obtain ⟨⟨o, ho, hr, hf9, hm⟩, h1, h2⟩ := h
  rcases List.mem_cons.mp ho with rfl | ho
  · obtain ⟨n, rfl, c1, c2⟩ := hr; exact q0 n M' ⟨c1, c2⟩ h1 h2
  rcases List.mem_cons.mp ho with rfl | ho
  · have hr : r = .inr fmIAE := hr; subst hr; exact q1 M' h1 h2
  rcases List.mem_cons.mp ho with rfl | ho
  · have hr : r = .inr fmNSE := hr; subst hr; exact q2 M' h1 h2
  · cases ho)
theorem sx_lines {M : fmM} {a0 a1 a2 : Int32} (hI : scInv Tx invX M) : pvGood Tx 250 qX10_lines [.ref 0, .int a0, .int a1, .int a2] M (fun r M' => rkI true true r ∧ scInv Tx invX M') := (wsx_lines (scq_t a0) (scq_t a1) (scq_t a2) hI (fun n M' _ h1 _ => ⟨Or.inl ⟨n, rfl⟩, h1⟩) (fun M' h1 _ => ⟨Or.inr (Or.inl ⟨rfl, rfl⟩), h1⟩) (fun M' h1 _ => ⟨Or.inr (Or.inr ⟨rfl, rfl⟩), h1⟩)).up (by decide)
theorem wsx_apart {M : fmM} {Q : fmR → fmM → Prop} {x1 : Int32} (bx1 : (-2147483648) ≤ x1.toInt ∧ x1.toInt ≤ 2147483647) {x2 : Int32} (bx2 : (-2147483648) ≤ x2.toInt ∧ x2.toInt ≤ 2147483647) (hI : scInv Tx invX M) (q0 : ∀ (n : Int32) (M' : fmM), ((-1) ≤ n.toInt ∧ n.toInt ≤ 2147483647) → scInv Tx invX M' → scFr [(0, 16, 1), (44, 0, 8)] M M' → Q (.inl (some (.int n))) M') (q1 : ∀ M' : fmM, scInv Tx invX M' → scFr [(0, 16, 1), (44, 0, 8)] M M' → Q (.inr fmIAE) M') : pvGood Tx 2 qX10_apart [.ref 0, .int x1, .int x2] M Q := (hh_X10_apart_0 M [x1.toInt, x2.toInt] [.ref 0, .int x1, .int x2] (scEk.c1 bx1 (scEk.c1 bx2 scEk.n0)) ⟨⟨0, by simp, rfl⟩, ⟨x1, rfl, scEv.at rfl⟩, ⟨x2, rfl, scEv.at rfl⟩, trivial⟩ (fun f hf => by cases hf) hI).imp (fun r M' h => by
  obtain ⟨⟨o, ho, hr, hf9, hm⟩, h1, h2⟩ := h
  rcases List.mem_cons.mp ho with rfl | ho
  · obtain ⟨n, rfl, c1, c2⟩ := hr; exact q0 n M' ⟨c1, c2⟩ h1 h2
  rcases List.mem_cons.mp ho with rfl | ho
  · have hr : r = .inr fmIAE := hr; subst hr; exact q1 M' h1 h2
  · cases ho)
theorem sx_apart {M : fmM} {a0 a1 : Int32} (hI : scInv Tx invX M) : pvGood Tx 250 qX10_apart [.ref 0, .int a0, .int a1] M (fun r M' => rkI true false r ∧ scInv Tx invX M') := (wsx_apart (scq_t a0) (scq_t a1) hI (fun n M' _ h1 _ => ⟨Or.inl ⟨n, rfl⟩, h1⟩) (fun M' h1 _ => ⟨Or.inr (Or.inl ⟨rfl, rfl⟩), h1⟩)).up (by decide)
theorem wsx_twins {M : fmM} {Q : fmR → fmM → Prop}  (hI : scInv Tx invX M) (q0 : ∀ (n : Int32) (M' : fmM), ((-1) ≤ n.toInt ∧ n.toInt ≤ 77) → scInv Tx invX M' → scFr [(44, 0, 8)] M M' → Q (.inl (some (.int n))) M') : pvGood Tx 2 qX10_twins [.ref 0] M Q := (hh_X10_twins_0 M [] [.ref 0] scEk.n0 ⟨⟨0, by simp, rfl⟩, trivial⟩ (fun f hf => by cases hf) hI).imp (fun r M' h => by
  obtain ⟨⟨o, ho, hr, hf9, hm⟩, h1, h2⟩ := h
  rcases List.mem_cons.mp ho with rfl | ho
  · obtain ⟨n, rfl, c1, c2⟩ := hr; exact q0 n M' ⟨c1, c2⟩ h1 h2
  · cases ho)
theorem sx_twins {M : fmM} (hI : scInv Tx invX M) : pvGood Tx 250 qX10_twins [.ref 0] M (fun r M' => rkI false false r ∧ scInv Tx invX M') := (wsx_twins  hI (fun n M' _ h1 _ => ⟨Or.inl ⟨n, rfl⟩, h1⟩)).up (by decide)
theorem wsx_written {M : fmM} {Q : fmR → fmM → Prop} {x1 : Int32} (bx1 : (-2147483648) ≤ x1.toInt ∧ x1.toInt ≤ 2147483647) (hI : scInv Tx invX M) (q0 : ∀ (n : Int64) (M' : fmM), ((-9223372036854775808) ≤ n.toInt ∧ n.toInt ≤ 9223372036854775807) → scInv Tx invX M' → scFr [(0, 15, 1)] M M' → Q (.inl (some (.long n))) M') (q1 : ∀ M' : fmM, scInv Tx invX M' → scFr [(0, 15, 1)] M M' → Q (.inr fmNSE) M') : pvGood Tx 2 qX10_written [.ref 0, .int x1] M Q := (hh_X10_written_0 M [x1.toInt] [.ref 0, .int x1] (scEk.c1 bx1 scEk.n0) ⟨⟨0, by simp, rfl⟩, ⟨x1, rfl, scEv.at rfl⟩, trivial⟩ (fun f hf => by cases hf) hI).imp (fun r M' h => by
  obtain ⟨⟨o, ho, hr, hf9, hm⟩, h1, h2⟩ := h
  rcases List.mem_cons.mp ho with rfl | ho
  · obtain ⟨n, rfl, c1, c2⟩ := hr; exact q0 n M' ⟨c1, c2⟩ h1 h2
  rcases List.mem_cons.mp ho with rfl | ho
  · have hr : r = .inr fmNSE := hr; subst hr; exact q1 M' h1 h2
  · cases ho)
theorem sx_written {M : fmM} {a0 : Int32} (hI : scInv Tx invX M) : pvGood Tx 250 qX10_written [.ref 0, .int a0] M (fun r M' => rkJ false true r ∧ scInv Tx invX M') := (wsx_written (scq_t a0) hI (fun n M' _ h1 _ => ⟨Or.inl ⟨n, rfl⟩, h1⟩) (fun M' h1 _ => ⟨Or.inr (Or.inr ⟨rfl, rfl⟩), h1⟩)).up (by decide)
theorem wsx_whose {M : fmM} {Q : fmR → fmM → Prop}  (hI : scInv Tx invX M) (q0 : ∀ (n : Int32) (M' : fmM), ((-2147483648) ≤ n.toInt ∧ n.toInt ≤ 2147483647) → scInv Tx invX M' → scFr [] M M' → Q (.inl (some (.int n))) M') : pvGood Tx 2 qX10_whose [.ref 0] M Q := (hh_X10_whose_0 M [] [.ref 0] scEk.n0 ⟨⟨0, by simp, rfl⟩, trivial⟩ (fun f hf => by cases hf) hI).imp (fun r M' h => by
  obtain ⟨⟨o, ho, hr, hf9, hm⟩, h1, h2⟩ := h
  rcases List.mem_cons.mp ho with rfl | ho
  · obtain ⟨n, rfl, c1, c2⟩ := hr; exact q0 n M' ⟨c1, c2⟩ h1 h2
  · cases ho)
theorem sx_whose {M : fmM} (hI : scInv Tx invX M) : pvGood Tx 250 qX10_whose [.ref 0] M (fun r M' => rkI false false r ∧ scInv Tx invX M') := (wsx_whose  hI (fun n M' _ h1 _ => ⟨Or.inl ⟨n, rfl⟩, h1⟩)).up (by decide)
theorem wsx_ahead {M : fmM} {Q : fmR → fmM → Prop} {x1 : Int32} (bx1 : (-2147483648) ≤ x1.toInt ∧ x1.toInt ≤ 2147483647) {x2 : Int32} (bx2 : (-2147483648) ≤ x2.toInt ∧ x2.toInt ≤ 2147483647) (hI : scInv Tx invX M) (q0 : ∀ (n : Int64) (M' : fmM), ((-9223372036854775808) ≤ n.toInt ∧ n.toInt ≤ 9223372036854775807) → scInv Tx invX M' → scFr [(0, 16, 1), (26, 0, 24)] M M' → Q (.inl (some (.long n))) M') (q1 : ∀ M' : fmM, scInv Tx invX M' → scFr [(0, 16, 1), (26, 0, 24)] M M' → Q (.inr fmIAE) M') : pvGood Tx 5 qX10_ahead [.ref 0, .int x1, .int x2] M Q := (hh_X10_ahead_0 M [x1.toInt, x2.toInt] [.ref 0, .int x1, .int x2] (scEk.c1 bx1 (scEk.c1 bx2 scEk.n0)) ⟨⟨0, by simp, rfl⟩, ⟨x1, rfl, scEv.at rfl⟩, ⟨x2, rfl, scEv.at rfl⟩, trivial⟩ (fun f hf => by cases hf) hI).imp (fun r M' h => by
  obtain ⟨⟨o, ho, hr, hf9, hm⟩, h1, h2⟩ := h
  rcases List.mem_cons.mp ho with rfl | ho
  · obtain ⟨n, rfl, c1, c2⟩ := hr; exact q0 n M' ⟨c1, c2⟩ h1 h2
  rcases List.mem_cons.mp ho with rfl | ho
  · have hr : r = .inr fmIAE := hr; subst hr; exact q1 M' h1 h2
  · cases ho)
theorem sx_ahead {M : fmM} {a0 a1 : Int32} (hI : scInv Tx invX M) : pvGood Tx 250 qX10_ahead [.ref 0, .int a0, .int a1] M (fun r M' => rkJ true false r ∧ scInv Tx invX M') := (wsx_ahead (scq_t a0) (scq_t a1) hI (fun n M' _ h1 _ => ⟨Or.inl ⟨n, rfl⟩, h1⟩) (fun M' h1 _ => ⟨Or.inr (Or.inl ⟨rfl, rfl⟩), h1⟩)).up (by decide)
theorem wsx_lives {M : fmM} {Q : fmR → fmM → Prop} {x1 : Int32} (bx1 : (-2147483648) ≤ x1.toInt ∧ x1.toInt ≤ 2147483647) {x2 : Int32} (bx2 : (-2147483648) ≤ x2.toInt ∧ x2.toInt ≤ 2147483647) {x3 : Int32} (bx3 : (-2147483648) ≤ x3.toInt ∧ x3.toInt ≤ 2147483647) (hI : scInv Tx invX M) (q0 : ∀ (n : Int64) (M' : fmM), ((-9223372036854775808) ≤ n.toInt ∧ n.toInt ≤ 9223372036854775807) → scInv Tx invX M' → scFr [(0, 15, 2)] M M' → Q (.inl (some (.long n))) M') (q1 : ∀ M' : fmM, scInv Tx invX M' → scFr [(0, 15, 2)] M M' → Q (.inr fmIAE) M') (q2 : ∀ M' : fmM, scInv Tx invX M' → scFr [(0, 15, 2)] M M' → Q (.inr fmNSE) M') : pvGood Tx 2 qX10_lives [.ref 0, .int x1, .int x2, .int x3] M Q := (hh_X10_lives_0 M [x1.toInt, x2.toInt, x3.toInt] [.ref 0, .int x1, .int x2, .int x3] (scEk.c1 bx1 (scEk.c1 bx2 (scEk.c1 bx3 scEk.n0))) ⟨⟨0, by simp, rfl⟩, ⟨x1, rfl, scEv.at rfl⟩, ⟨x2, rfl, scEv.at rfl⟩, ⟨x3, rfl, scEv.at rfl⟩, trivial⟩ (fun f hf => by cases hf) hI).imp (fun r M' h => by
  obtain ⟨⟨o, ho, hr, hf9, hm⟩, h1, h2⟩ := h
  rcases List.mem_cons.mp ho with rfl | ho
  · obtain ⟨n, rfl, c1, c2⟩ := hr; exact q0 n M' ⟨c1, c2⟩ h1 h2
  rcases List.mem_cons.mp ho with rfl | ho
  · have hr : r = .inr fmIAE := hr; subst hr; exact q1 M' h1 h2
  rcases List.mem_cons.mp ho with rfl | ho
  · have hr : r = .inr fmNSE := hr; subst hr; exact q2 M' h1 h2
  · cases ho)
theorem sx_lives {M : fmM} {a0 a1 a2 : Int32} (hI : scInv Tx invX M) : pvGood Tx 250 qX10_lives [.ref 0, .int a0, .int a1, .int a2] M (fun r M' => rkJ true true r ∧ scInv Tx invX M') := (wsx_lives (scq_t a0) (scq_t a1) (scq_t a2) hI (fun n M' _ h1 _ => ⟨Or.inl ⟨n, rfl⟩, h1⟩) (fun M' h1 _ => ⟨Or.inr (Or.inl ⟨rfl, rfl⟩), h1⟩) (fun M' h1 _ => ⟨Or.inr (Or.inr ⟨rfl, rfl⟩), h1⟩)).up (by decide)
theorem wsx_oldest {M : fmM} {Q : fmR → fmM → Prop}  (hI : scInv Tx invX M) (q0 : ∀ (n : Int32) (M' : fmM), ((-1) ≤ n.toInt ∧ n.toInt ≤ 7) → scInv Tx invX M' → scFr [] M M' → Q (.inl (some (.int n))) M') : pvGood Tx 0 qX10_oldest [.ref 0] M Q := (hh_X10_oldest_0 M [] [.ref 0] scEk.n0 ⟨⟨0, by simp, rfl⟩, trivial⟩ (fun f hf => by cases hf) hI).imp (fun r M' h => by
  obtain ⟨⟨o, ho, hr, hf9, hm⟩, h1, h2⟩ := h
  rcases List.mem_cons.mp ho with rfl | ho
  · obtain ⟨n, rfl, c1, c2⟩ := hr; exact q0 n M' ⟨c1, c2⟩ h1 h2
  · cases ho)
theorem sx_oldest {M : fmM} (hI : scInv Tx invX M) : pvGood Tx 250 qX10_oldest [.ref 0] M (fun r M' => rkI false false r ∧ scInv Tx invX M') := (wsx_oldest  hI (fun n M' _ h1 _ => ⟨Or.inl ⟨n, rfl⟩, h1⟩)).up (by decide)
theorem wsx_chain {M : fmM} {Q : fmR → fmM → Prop} {x1 : Int32} (bx1 : (-2147483648) ≤ x1.toInt ∧ x1.toInt ≤ 2147483647) {x2 : Int32} (bx2 : (-2147483648) ≤ x2.toInt ∧ x2.toInt ≤ 2147483647) (hI : scInv Tx invX M) (q0 : ∀ (n : Int32) (M' : fmM), (0 ≤ n.toInt ∧ n.toInt ≤ 63) → scInv Tx invX M' → scFr [(0, 15, 2)] M M' → Q (.inl (some (.int n))) M') (q1 : ∀ M' : fmM, scInv Tx invX M' → scFr [(0, 15, 2)] M M' → Q (.inr fmIAE) M') (q2 : ∀ M' : fmM, scInv Tx invX M' → scFr [(0, 15, 2)] M M' → Q (.inr fmNSE) M') : pvGood Tx 1 qX10_chain [.ref 0, .int x1, .int x2] M Q := (hh_X10_chain_0 M [x1.toInt, x2.toInt] [.ref 0, .int x1, .int x2] (scEk.c1 bx1 (scEk.c1 bx2 scEk.n0)) ⟨⟨0, by simp, rfl⟩, ⟨x1, rfl, scEv.at rfl⟩, ⟨x2, rfl, scEv.at rfl⟩, trivial⟩ (fun f hf => by cases hf) hI).imp (fun r M' h => by
  obtain ⟨⟨o, ho, hr, hf9, hm⟩, h1, h2⟩ := h
  rcases List.mem_cons.mp ho with rfl | ho
  · obtain ⟨n, rfl, c1, c2⟩ := hr; exact q0 n M' ⟨c1, c2⟩ h1 h2
  rcases List.mem_cons.mp ho with rfl | ho
  · have hr : r = .inr fmIAE := hr; subst hr; exact q1 M' h1 h2
  rcases List.mem_cons.mp ho with rfl | ho
  · have hr : r = .inr fmNSE := hr; subst hr; exact q2 M' h1 h2
  · cases ho)
theorem sx_chain {M : fmM} {a0 a1 : Int32} (hI : scInv Tx invX M) : pvGood Tx 250 qX10_chain [.ref 0, .int a0, .int a1] M (fun r M' => rkI true true r ∧ scInv Tx invX M') := (wsx_chain (scq_t a0) (scq_t a1) hI (fun n M' _ h1 _ => ⟨Or.inl ⟨n, rfl⟩, h1⟩) (fun M' h1 _ => ⟨Or.inr (Or.inl ⟨rfl, rfl⟩), h1⟩) (fun M' h1 _ => ⟨Or.inr (Or.inr ⟨rfl, rfl⟩), h1⟩)).up (by decide)
theorem wsx_due {M : fmM} {Q : fmR → fmM → Prop} {x1 : Int32} (bx1 : (-2147483648) ≤ x1.toInt ∧ x1.toInt ≤ 2147483647) {x2 : Int32} (bx2 : (-2147483648) ≤ x2.toInt ∧ x2.toInt ≤ 2147483647) (hI : scInv Tx invX M) (q0 : ∀ (n : Int32) (M' : fmM), ((-1) ≤ n.toInt ∧ n.toInt ≤ 60) → scInv Tx invX M' → scFr [(0, 15, 2), (26, 0, 24)] M M' → Q (.inl (some (.int n))) M') (q1 : ∀ M' : fmM, scInv Tx invX M' → scFr [(0, 15, 2), (26, 0, 24)] M M' → Q (.inr fmIAE) M') (q2 : ∀ M' : fmM, scInv Tx invX M' → scFr [(0, 15, 2), (26, 0, 24)] M M' → Q (.inr fmNSE) M') : pvGood Tx 3 qX10_due [.ref 0, .int x1, .int x2] M Q := (hh_X10_due_0 M [x1.toInt, x2.toInt] [.ref 0, .int x1, .int x2] (scEk.c1 bx1 (scEk.c1 bx2 scEk.n0)) ⟨⟨0, by simp, rfl⟩, ⟨x1, rfl, scEv.at rfl⟩, ⟨x2, rfl, scEv.at rfl⟩, trivial⟩ (fun f hf => by cases hf) hI).imp (fun r M' h => by
  obtain ⟨⟨o, ho, hr, hf9, hm⟩, h1, h2⟩ := h
  rcases List.mem_cons.mp ho with rfl | ho
  · obtain ⟨n, rfl, c1, c2⟩ := hr; exact q0 n M' ⟨c1, c2⟩ h1 h2
  rcases List.mem_cons.mp ho with rfl | ho
  · have hr : r = .inr fmIAE := hr; subst hr; exact q1 M' h1 h2
  rcases List.mem_cons.mp ho with rfl | ho
  · have hr : r = .inr fmNSE := hr; subst hr; exact q2 M' h1 h2
  · cases ho)
theorem sx_due {M : fmM} {a0 a1 : Int32} (hI : scInv Tx invX M) : pvGood Tx 250 qX10_due [.ref 0, .int a0, .int a1] M (fun r M' => rkI true true r ∧ scInv Tx invX M') := (wsx_due (scq_t a0) (scq_t a1) hI (fun n M' _ h1 _ => ⟨Or.inl ⟨n, rfl⟩, h1⟩) (fun M' h1 _ => ⟨Or.inr (Or.inl ⟨rfl, rfl⟩), h1⟩) (fun M' h1 _ => ⟨Or.inr (Or.inr ⟨rfl, rfl⟩), h1⟩)).up (by decide)
theorem wsx_news {M : fmM} {Q : fmR → fmM → Prop} {x1 : Int32} (bx1 : (-2147483648) ≤ x1.toInt ∧ x1.toInt ≤ 2147483647) (hI : scInv Tx invX M) (q0 : ∀ (n : Int32) (M' : fmM), ((-1) ≤ n.toInt ∧ n.toInt ≤ 60) → scInv Tx invX M' → scFr [(0, 15, 1)] M M' → Q (.inl (some (.int n))) M') (q1 : ∀ M' : fmM, scInv Tx invX M' → scFr [(0, 15, 1)] M M' → Q (.inr fmNSE) M') : pvGood Tx 1 qX10_news [.ref 0, .int x1] M Q := (hh_X10_news_0 M [x1.toInt] [.ref 0, .int x1] (scEk.c1 bx1 scEk.n0) ⟨⟨0, by simp, rfl⟩, ⟨x1, rfl, scEv.at rfl⟩, trivial⟩ (fun f hf => by cases hf) hI).imp (fun r M' h => by
  obtain ⟨⟨o, ho, hr, hf9, hm⟩, h1, h2⟩ := h
  rcases List.mem_cons.mp ho with rfl | ho
  · obtain ⟨n, rfl, c1, c2⟩ := hr; exact q0 n M' ⟨c1, c2⟩ h1 h2
  rcases List.mem_cons.mp ho with rfl | ho
  · have hr : r = .inr fmNSE := hr; subst hr; exact q1 M' h1 h2
  · cases ho)
theorem sx_news {M : fmM} {a0 : Int32} (hI : scInv Tx invX M) : pvGood Tx 250 qX10_news [.ref 0, .int a0] M (fun r M' => rkI false true r ∧ scInv Tx invX M') := (wsx_news (scq_t a0) hI (fun n M' _ h1 _ => ⟨Or.inl ⟨n, rfl⟩, h1⟩) (fun M' h1 _ => ⟨Or.inr (Or.inr ⟨rfl, rfl⟩), h1⟩)).up (by decide)
theorem wsx_expects {M : fmM} {Q : fmR → fmM → Prop} {x1 : Int32} (bx1 : (-2147483648) ≤ x1.toInt ∧ x1.toInt ≤ 2147483647) {x2 : Int32} (bx2 : (-2147483648) ≤ x2.toInt ∧ x2.toInt ≤ 2147483647) {x3 : Int32} (bx3 : (-2147483648) ≤ x3.toInt ∧ x3.toInt ≤ 2147483647) (hI : scInv Tx invX M) (q0 : ∀ (n : Int64) (M' : fmM), ((-9223372036854775808) ≤ n.toInt ∧ n.toInt ≤ 9223372036854775807) → scInv Tx invX M' → scFr [(0, 15, 2), (26, 0, 24)] M M' → Q (.inl (some (.long n))) M') (q1 : ∀ M' : fmM, scInv Tx invX M' → scFr [(0, 15, 2), (26, 0, 24)] M M' → Q (.inr fmIAE) M') (q2 : ∀ M' : fmM, scInv Tx invX M' → scFr [(0, 15, 2), (26, 0, 24)] M M' → Q (.inr fmNSE) M') : pvGood Tx 5 qX10_expects [.ref 0, .int x1, .int x2, .int x3] M Q := (hh_X10_expects_0 M [x1.toInt, x2.toInt, x3.toInt] [.ref 0, .int x1, .int x2, .int x3] (scEk.c1 bx1 (scEk.c1 bx2 (scEk.c1 bx3 scEk.n0))) ⟨⟨0, by simp, rfl⟩, ⟨x1, rfl, scEv.at rfl⟩, ⟨x2, rfl, scEv.at rfl⟩, ⟨x3, rfl, scEv.at rfl⟩, trivial⟩ (fun f hf => by cases hf) hI).imp (fun r M' h => by
  obtain ⟨⟨o, ho, hr, hf9, hm⟩, h1, h2⟩ := h
  rcases List.mem_cons.mp ho with rfl | ho
  · obtain ⟨n, rfl, c1, c2⟩ := hr; exact q0 n M' ⟨c1, c2⟩ h1 h2
  rcases List.mem_cons.mp ho with rfl | ho
  · have hr : r = .inr fmIAE := hr; subst hr; exact q1 M' h1 h2
  rcases List.mem_cons.mp ho with rfl | ho
  · have hr : r = .inr fmNSE := hr; subst hr; exact q2 M' h1 h2
  · cases ho)
theorem sx_expects {M : fmM} {a0 a1 a2 : Int32} (hI : scInv Tx invX M) : pvGood Tx 250 qX10_expects [.ref 0, .int a0, .int a1, .int a2] M (fun r M' => rkJ true true r ∧ scInv Tx invX M') := (wsx_expects (scq_t a0) (scq_t a1) (scq_t a2) hI (fun n M' _ h1 _ => ⟨Or.inl ⟨n, rfl⟩, h1⟩) (fun M' h1 _ => ⟨Or.inr (Or.inl ⟨rfl, rfl⟩), h1⟩) (fun M' h1 _ => ⟨Or.inr (Or.inr ⟨rfl, rfl⟩), h1⟩)).up (by decide)
theorem wsx_worst {M : fmM} {Q : fmR → fmM → Prop}  (hI : scInv Tx invX M) (q0 : ∀ (n : Int32) (M' : fmM), (0 ≤ n.toInt ∧ n.toInt ≤ 2147483647) → scInv Tx invX M' → scFr [(26, 0, 24)] M M' → Q (.inl (some (.int n))) M') : pvGood Tx 5 qX10_worst [.ref 0] M Q := (hh_X10_worst_0 M [] [.ref 0] scEk.n0 ⟨⟨0, by simp, rfl⟩, trivial⟩ (fun f hf => by cases hf) hI).imp (fun r M' h => by
  obtain ⟨⟨o, ho, hr, hf9, hm⟩, h1, h2⟩ := h
  rcases List.mem_cons.mp ho with rfl | ho
  · obtain ⟨n, rfl, c1, c2⟩ := hr; exact q0 n M' ⟨c1, c2⟩ h1 h2
  · cases ho)
theorem sx_worst {M : fmM} (hI : scInv Tx invX M) : pvGood Tx 250 qX10_worst [.ref 0] M (fun r M' => rkI false false r ∧ scInv Tx invX M') := (wsx_worst  hI (fun n M' _ h1 _ => ⟨Or.inl ⟨n, rfl⟩, h1⟩)).up (by decide)
theorem wsx_years {M : fmM} {Q : fmR → fmM → Prop} {x1 : Int32} (bx1 : (-2147483648) ≤ x1.toInt ∧ x1.toInt ≤ 2147483647) {x2 : Int32} (bx2 : (-2147483648) ≤ x2.toInt ∧ x2.toInt ≤ 2147483647) {x3 : Int32} (bx3 : (-2147483648) ≤ x3.toInt ∧ x3.toInt ≤ 2147483647) (hI : scInv Tx invX M) (q0 : ∀ (n : Int32) (M' : fmM), ((-2147483648) ≤ n.toInt ∧ n.toInt ≤ 2147483647) → scInv Tx invX M' → scFr [(0, 16, 1), (26, 0, 24), (39, 1, 1), (39, 4, 1), (40, 0, 8), (41, 1, 6), (42, 0, 8)] M M' → Q (.inl (some (.int n))) M') (q1 : ∀ M' : fmM, scInv Tx invX M' → scFr [(0, 16, 1), (26, 0, 24), (39, 1, 1), (39, 4, 1), (40, 0, 8), (41, 1, 6), (42, 0, 8)] M M' → Q (.inr fmIAE) M') : pvGood Tx 7 qX10_years [.ref 0, .int x1, .int x2, .int x3] M Q := (hh_X10_years_0 M [x1.toInt, x2.toInt, x3.toInt] [.ref 0, .int x1, .int x2, .int x3] (scEk.c1 bx1 (scEk.c1 bx2 (scEk.c1 bx3 scEk.n0))) ⟨⟨0, by simp, rfl⟩, ⟨x1, rfl, scEv.at rfl⟩, ⟨x2, rfl, scEv.at rfl⟩, ⟨x3, rfl, scEv.at rfl⟩, trivial⟩ (fun f hf => by cases hf) hI).imp (fun r M' h => by
  obtain ⟨⟨o, ho, hr, hf9, hm⟩, h1, h2⟩ := h
  rcases List.mem_cons.mp ho with rfl | ho
  · obtain ⟨n, rfl, c1, c2⟩ := hr; exact q0 n M' ⟨c1, c2⟩ h1 h2
  rcases List.mem_cons.mp ho with rfl | ho
  · have hr : r = .inr fmIAE := hr; subst hr; exact q1 M' h1 h2
  · cases ho)
theorem sx_years {M : fmM} {a0 a1 a2 : Int32} (hI : scInv Tx invX M) : pvGood Tx 250 qX10_years [.ref 0, .int a0, .int a1, .int a2] M (fun r M' => rkI true false r ∧ scInv Tx invX M') := (wsx_years (scq_t a0) (scq_t a1) (scq_t a2) hI (fun n M' _ h1 _ => ⟨Or.inl ⟨n, rfl⟩, h1⟩) (fun M' h1 _ => ⟨Or.inr (Or.inl ⟨rfl, rfl⟩), h1⟩)).up (by decide)
theorem wsx_span {M : fmM} {Q : fmR → fmM → Prop} {x1 : Int32} (bx1 : (-2147483648) ≤ x1.toInt ∧ x1.toInt ≤ 2147483647) {x2 : Int32} (bx2 : (-2147483648) ≤ x2.toInt ∧ x2.toInt ≤ 2147483647) {x3 : Int32} (bx3 : (-2147483648) ≤ x3.toInt ∧ x3.toInt ≤ 2147483647) {x4 : Int32} (bx4 : (-2147483648) ≤ x4.toInt ∧ x4.toInt ≤ 2147483647) {x5 : Int32} (bx5 : (-2147483648) ≤ x5.toInt ∧ x5.toInt ≤ 2147483647) (hI : scInv Tx invX M) (q0 : ∀ (n : Int32) (M' : fmM), ((-2147483648) ≤ n.toInt ∧ n.toInt ≤ 2147483647) → scInv Tx invX M' → scFr [(0, 16, 1), (26, 0, 24), (39, 1, 1), (39, 4, 1), (40, 0, 8), (41, 1, 6), (42, 0, 8)] M M' → Q (.inl (some (.int n))) M') (q1 : ∀ M' : fmM, scInv Tx invX M' → scFr [(0, 16, 1), (26, 0, 24), (39, 1, 1), (39, 4, 1), (40, 0, 8), (41, 1, 6), (42, 0, 8)] M M' → Q (.inr fmIAE) M') : pvGood Tx 7 qX10_span [.ref 0, .int x1, .int x2, .int x3, .int x4, .int x5] M Q := (hh_X10_span_0 M [x1.toInt, x2.toInt, x3.toInt, x4.toInt, x5.toInt] [.ref 0, .int x1, .int x2, .int x3, .int x4, .int x5] (scEk.c1 bx1 (scEk.c1 bx2 (scEk.c1 bx3 (scEk.c1 bx4 (scEk.c1 bx5 scEk.n0))))) ⟨⟨0, by simp, rfl⟩, ⟨x1, rfl, scEv.at rfl⟩, ⟨x2, rfl, scEv.at rfl⟩, ⟨x3, rfl, scEv.at rfl⟩, ⟨x4, rfl, scEv.at rfl⟩, ⟨x5, rfl, scEv.at rfl⟩, trivial⟩ (fun f hf => by cases hf) hI).imp (fun r M' h => by
  obtain ⟨⟨o, ho, hr, hf9, hm⟩, h1, h2⟩ := h
  rcases List.mem_cons.mp ho with rfl | ho
  · obtain ⟨n, rfl, c1, c2⟩ := hr; exact q0 n M' ⟨c1, c2⟩ h1 h2
  rcases List.mem_cons.mp ho with rfl | ho
  · have hr : r = .inr fmIAE := hr; subst hr; exact q1 M' h1 h2
  · cases ho)
theorem sx_span {M : fmM} {a0 a1 a2 a3 a4 : Int32} (hI : scInv Tx invX M) : pvGood Tx 250 qX10_span [.ref 0, .int a0, .int a1, .int a2, .int a3, .int a4] M (fun r M' => rkI true false r ∧ scInv Tx invX M') := (wsx_span (scq_t a0) (scq_t a1) (scq_t a2) (scq_t a3) (scq_t a4) hI (fun n M' _ h1 _ => ⟨Or.inl ⟨n, rfl⟩, h1⟩) (fun M' h1 _ => ⟨Or.inr (Or.inl ⟨rfl, rfl⟩), h1⟩)).up (by decide)
theorem wsx_image {M : fmM} {Q : fmR → fmM → Prop}  (hI : scInv Tx invX M) (q0 : ∀ (n : Int32) (M' : fmM), ((-1) ≤ n.toInt ∧ n.toInt ≤ 3) → scInv Tx invX M' → scFr [(0, 13, 1), (82, 2, 1), (83, 1, 6), (84, 0, 8), (86, 1, 6), (87, 1, 6), (88, 1, 6), (89, 1, 6), (90, 1, 6), (91, 1, 6), (92, 1, 6), (93, 1, 6), (94, 1, 6), (95, 1, 6), (96, 1, 6), (97, 1, 6), (98, 1, 6), (99, 1, 6), (100, 1, 6), (101, 1, 6), (102, 0, 8), (103, 0, 8), (104, 0, 8), (105, 0, 8), (106, 0, 8), (107, 0, 8), (108, 0, 8), (109, 0, 8), (110, 0, 8), (111, 0, 8), (112, 0, 8), (113, 0, 8), (114, 0, 8), (115, 0, 8), (116, 0, 8), (117, 0, 8), (118, 2, 1), (119, 1, 6), (120, 0, 8), (122, 1, 6), (123, 1, 6), (124, 1, 6), (125, 1, 6), (126, 1, 6), (127, 1, 6), (128, 1, 6), (129, 1, 6), (130, 1, 6), (131, 1, 6), (132, 1, 6), (133, 1, 6), (134, 1, 6), (135, 1, 6), (136, 1, 6), (137, 1, 6), (138, 0, 8), (139, 0, 8), (140, 0, 8), (141, 0, 8), (142, 0, 8), (143, 0, 8), (144, 0, 8), (145, 0, 8), (146, 0, 8), (147, 0, 8), (148, 0, 8), (149, 0, 8), (150, 0, 8), (151, 0, 8), (152, 0, 8), (153, 0, 8), (154, 2, 1), (155, 1, 6), (156, 0, 8), (158, 1, 6), (159, 1, 6), (160, 1, 6), (161, 1, 6), (162, 1, 6), (163, 1, 6), (164, 1, 6), (165, 1, 6), (166, 1, 6), (167, 1, 6), (168, 1, 6), (169, 1, 6), (170, 1, 6), (171, 1, 6), (172, 1, 6), (173, 1, 6), (174, 0, 8), (175, 0, 8), (176, 0, 8), (177, 0, 8), (178, 0, 8), (179, 0, 8), (180, 0, 8), (181, 0, 8), (182, 0, 8), (183, 0, 8), (184, 0, 8), (185, 0, 8), (186, 0, 8), (187, 0, 8), (188, 0, 8), (189, 0, 8)] M M' → Q (.inl (some (.int n))) M') : pvGood Tx 2 qX10_image [.ref 0] M Q := (hh_X10_image_0 M [] [.ref 0] scEk.n0 ⟨⟨0, by simp, rfl⟩, trivial⟩ (fun f hf => by cases hf) hI).imp (fun r M' h => by
  obtain ⟨⟨o, ho, hr, hf9, hm⟩, h1, h2⟩ := h
  rcases List.mem_cons.mp ho with rfl | ho
  · obtain ⟨n, rfl, c1, c2⟩ := hr; exact q0 n M' ⟨c1, c2⟩ h1 h2
  · cases ho)
theorem sx_image {M : fmM} (hI : scInv Tx invX M) : pvGood Tx 250 qX10_image [.ref 0] M (fun r M' => rkI false false r ∧ scInv Tx invX M') := (wsx_image  hI (fun n M' _ h1 _ => ⟨Or.inl ⟨n, rfl⟩, h1⟩)).up (by decide)
theorem wsx_restore {M : fmM} {Q : fmR → fmM → Prop}  (hI : scInv Tx invX M) (q0 : ∀ (n : Int32) (M' : fmM), ((-1) ≤ n.toInt ∧ n.toInt ≤ 2) → scInv Tx invX M' → scFr [(0, 13, 2), (34, 5, 1), (46, 2, 1), (47, 1, 6), (48, 0, 8), (50, 1, 6), (51, 1, 6), (52, 1, 6), (53, 1, 6), (54, 1, 6), (55, 1, 6), (56, 1, 6), (57, 1, 6), (58, 1, 6), (59, 1, 6), (60, 1, 6), (61, 1, 6), (62, 1, 6), (63, 1, 6), (64, 1, 6), (65, 1, 6), (66, 0, 8), (67, 0, 8), (68, 0, 8), (69, 0, 8), (70, 0, 8), (71, 0, 8), (72, 0, 8), (73, 0, 8), (74, 0, 8), (75, 0, 8), (76, 0, 8), (77, 0, 8), (78, 0, 8), (79, 0, 8), (80, 0, 8), (81, 0, 8)] M M' → Q (.inl (some (.int n))) M') : pvGood Tx 2 qX10_restore [.ref 0] M Q := (hh_X10_restore_0 M [] [.ref 0] scEk.n0 ⟨⟨0, by simp, rfl⟩, trivial⟩ (fun f hf => by cases hf) hI).imp (fun r M' h => by
  obtain ⟨⟨o, ho, hr, hf9, hm⟩, h1, h2⟩ := h
  rcases List.mem_cons.mp ho with rfl | ho
  · obtain ⟨n, rfl, c1, c2⟩ := hr; exact q0 n M' ⟨c1, c2⟩ h1 h2
  · cases ho)
theorem sx_restore {M : fmM} (hI : scInv Tx invX M) : pvGood Tx 250 qX10_restore [.ref 0] M (fun r M' => rkI false false r ∧ scInv Tx invX M') := (wsx_restore  hI (fun n M' _ h1 _ => ⟨Or.inl ⟨n, rfl⟩, h1⟩)).up (by decide)
theorem wsx_status {M : fmM} {Q : fmR → fmM → Prop} {x1 : Int32} (bx1 : (-2147483648) ≤ x1.toInt ∧ x1.toInt ≤ 2147483647) (hI : scInv Tx invX M) (q0 : ∀ (n : Int32) (M' : fmM), ((-2147483648) ≤ n.toInt ∧ n.toInt ≤ 2147483647) → scInv Tx invX M' → scFr [] M M' → Q (.inl (some (.int n))) M') : pvGood Tx 0 qX10_status [.ref 0, .int x1] M Q := (hh_X10_status_0 M [x1.toInt] [.ref 0, .int x1] (scEk.c1 bx1 scEk.n0) ⟨⟨0, by simp, rfl⟩, ⟨x1, rfl, scEv.at rfl⟩, trivial⟩ (fun f hf => by cases hf) hI).imp (fun r M' h => by
  obtain ⟨⟨o, ho, hr, hf9, hm⟩, h1, h2⟩ := h
  rcases List.mem_cons.mp ho with rfl | ho
  · obtain ⟨n, rfl, c1, c2⟩ := hr; exact q0 n M' ⟨c1, c2⟩ h1 h2
  · cases ho)
theorem sx_status {M : fmM} {a0 : Int32} (hI : scInv Tx invX M) : pvGood Tx 250 qX10_status [.ref 0, .int a0] M (fun r M' => rkI false false r ∧ scInv Tx invX M') := (wsx_status (scq_t a0) hI (fun n M' _ h1 _ => ⟨Or.inl ⟨n, rfl⟩, h1⟩)).up (by decide)
theorem wsx_count {M : fmM} {Q : fmR → fmM → Prop} {x1 : Int32} (bx1 : (-2147483648) ≤ x1.toInt ∧ x1.toInt ≤ 2147483647) (hI : scInv Tx invX M) (q0 : ∀ (n : Int32) (M' : fmM), ((-1) ≤ n.toInt ∧ n.toInt ≤ 600) → scInv Tx invX M' → scFr [] M M' → Q (.inl (some (.int n))) M') : pvGood Tx 0 qX10_count [.ref 0, .int x1] M Q := (hh_X10_count_0 M [x1.toInt] [.ref 0, .int x1] (scEk.c1 bx1 scEk.n0) ⟨⟨0, by simp, rfl⟩, ⟨x1, rfl, scEv.at rfl⟩, trivial⟩ (fun f hf => by cases hf) hI).imp (fun r M' h => by
  obtain ⟨⟨o, ho, hr, hf9, hm⟩, h1, h2⟩ := h
  rcases List.mem_cons.mp ho with rfl | ho
  · obtain ⟨n, rfl, c1, c2⟩ := hr; exact q0 n M' ⟨c1, c2⟩ h1 h2
  · cases ho)
theorem sx_count {M : fmM} {a0 : Int32} (hI : scInv Tx invX M) : pvGood Tx 250 qX10_count [.ref 0, .int a0] M (fun r M' => rkI false false r ∧ scInv Tx invX M') := (wsx_count (scq_t a0) hI (fun n M' _ h1 _ => ⟨Or.inl ⟨n, rfl⟩, h1⟩)).up (by decide)
