theorem wsm_feed {M : fmM} {Q : fmR → fmM → Prop} {x1 : Int32} (bx1 : (-2147483648) ≤ x1.toInt ∧ x1.toInt ≤ 2147483647) {x2 : Int32} (bx2 : (-2147483648) ≤ x2.toInt ∧ x2.toInt ≤ 2147483647) {x3 : Int32} (bx3 : (-2147483648) ≤ x3.toInt ∧ x3.toInt ≤ 2147483647) {x4 : Int32} (bx4 : (-2147483648) ≤ x4.toInt ∧ x4.toInt ≤ 2147483647) {x5 : Int32} (bx5 : (-2147483648) ≤ x5.toInt ∧ x5.toInt ≤ 2147483647) (hI : scInv Tm invM M) (q0 : ∀ (n : Int32) (M' : fmM), ((-1) ≤ n.toInt ∧ n.toInt ≤ 600) → scInv Tm invM M' → scFr [(0, 0, 2), (1, 0, 600)] M M' → Q (.inl (some (.int n))) M') : pvGood Tm 0 qX11_feed [.ref 0, .int x1, .int x2, .int x3, .int x4, .int x5] M Q := (hh_X11_feed_0 M [x1.toInt, x2.toInt, x3.toInt, x4.toInt, x5.toInt] [.ref 0, .int x1, .int x2, .int x3, .int x4, .int x5] (scEk.c1 bx1 (scEk.c1 bx2 (scEk.c1 bx3 (scEk.c1 bx4 (scEk.c1 bx5 scEk.n0))))) ⟨⟨0, by simp, rfl⟩, ⟨x1, rfl, scEv.at rfl⟩, ⟨x2, rfl, scEv.at rfl⟩, ⟨x3, rfl, scEv.at rfl⟩, ⟨x4, rfl, scEv.at rfl⟩, ⟨x5, rfl, scEv.at rfl⟩, trivial⟩ (fun f hf => by cases hf) hI).imp (fun r M' h => by
  obtain ⟨⟨o, ho, hr, hf9, hm⟩, h1, h2⟩ := h
  rcases List.mem_cons.mp ho with rfl | ho
  · obtain ⟨n, rfl, c1, c2⟩ := hr; exact q0 n M' ⟨c1, c2⟩ h1 h2
  · cases ho)
theorem sm_feed {M : fmM} {a0 a1 a2 a3 a4 : Int32} (hI : scInv Tm invM M) : pvGood Tm 250 qX11_feed [.ref 0, .int a0, .int a1, .int a2, .int a3, .int a4] M (fun r M' => tI r ∧ scInv Tm invM M') := (wsm_feed (scq_t a0) (scq_t a1) (scq_t a2) (scq_t a3) (scq_t a4) hI (fun n M' _ h1 _ => ⟨⟨n, rfl⟩, h1⟩)).up (by decide)
theorem sm_drawer {M : fmM} {a0 : Int32} (hI : scInv Tm invM M) : pvGood Tm 250 qX11_drawer [.ref 0, .int a0] M (fun r M' => tI r ∧ scInv Tm invM M') := (t_drawer hI (fun r M' h1 h2 => ⟨h1, h2⟩)).up (by decide)
theorem sm_law {M : fmM} {a0 : Int32} (hI : scInv Tm invM M) : pvGood Tm 250 qX11_law [.ref 0, .int a0] M (fun r M' => tI r ∧ scInv Tm invM M') := (t_law hI (fun r M' h1 h2 => ⟨h1, h2⟩)).up (by decide)
theorem sm_work {M : fmM} {a0 : Int32} (hI : scInv Tm invM M) : pvGood Tm 250 qX11_work [.ref 0, .int a0] M (fun r M' => tI r ∧ scInv Tm invM M') := (t_work hI (fun r M' h1 h2 => ⟨h1, h2⟩)).up (by decide)
theorem sm_page {M : fmM} {a0 : Int32} (hI : scInv Tm invM M) : pvGood Tm 250 qX11_page [.ref 0, .int a0] M (fun r M' => tI r ∧ scInv Tm invM M') := (t_page hI (fun r M' h1 h2 => ⟨h1, h2⟩)).up (by decide)
theorem wsm_fault {M : fmM} {Q : fmR → fmM → Prop}  (hI : scInv Tm invM M) (q0 : ∀ (n : Int32) (M' : fmM), ((-1) ≤ n.toInt ∧ n.toInt ≤ 600) → scInv Tm invM M' → scFr [(0, 0, 1)] M M' → Q (.inl (some (.int n))) M') : pvGood Tm 0 qX11_fault [.ref 0] M Q := (hh_X11_fault_0 M [] [.ref 0] scEk.n0 ⟨⟨0, by simp, rfl⟩, trivial⟩ (fun f hf => by cases hf) hI).imp (fun r M' h => by
  obtain ⟨⟨o, ho, hr, hf9, hm⟩, h1, h2⟩ := h
  rcases List.mem_cons.mp ho with rfl | ho
  · obtain ⟨n, rfl, c1, c2⟩ := hr; exact q0 n M' ⟨c1, c2⟩ h1 h2
  · cases ho)
theorem sm_fault {M : fmM} (hI : scInv Tm invM M) : pvGood Tm 250 qX11_fault [.ref 0] M (fun r M' => tI r ∧ scInv Tm invM M') := (wsm_fault  hI (fun n M' _ h1 _ => ⟨⟨n, rfl⟩, h1⟩)).up (by decide)
theorem wsm_undo {M : fmM} {Q : fmR → fmM → Prop}  (hI : scInv Tm invM M) (q0 : ∀ (n : Int32) (M' : fmM), ((-1) ≤ n.toInt ∧ n.toInt ≤ 15) → scInv Tm invM M' → scFr [(0, 0, 1), (0, 32, 2), (7, 0, 14)] M M' → Q (.inl (some (.int n))) M') : pvGood Tm 1 qX11_undo [.ref 0] M Q := (hh_X11_undo_0 M [] [.ref 0] scEk.n0 ⟨⟨0, by simp, rfl⟩, trivial⟩ (fun f hf => by cases hf) hI).imp (fun r M' h => by
  obtain ⟨⟨o, ho, hr, hf9, hm⟩, h1, h2⟩ := h
  rcases List.mem_cons.mp ho with rfl | ho
  · obtain ⟨n, rfl, c1, c2⟩ := hr; exact q0 n M' ⟨c1, c2⟩ h1 h2
  · cases ho)
theorem sm_undo {M : fmM} (hI : scInv Tm invM M) : pvGood Tm 250 qX11_undo [.ref 0] M (fun r M' => tI r ∧ scInv Tm invM M') := (wsm_undo  hI (fun n M' _ h1 _ => ⟨⟨n, rfl⟩, h1⟩)).up (by decide)
theorem wsm_told {M : fmM} {Q : fmR → fmM → Prop} {x1 : Int32} (bx1 : (-2147483648) ≤ x1.toInt ∧ x1.toInt ≤ 2147483647) (hI : scInv Tm invM M) (q0 : ∀ (n : Int32) (M' : fmM), ((-2147483648) ≤ n.toInt ∧ n.toInt ≤ 2147483647) → scInv Tm invM M' → scFr [(0, 0, 1), (2, 1, 1)] M M' → Q (.inl (some (.int n))) M') : pvGood Tm 2 qX11_told [.ref 0, .int x1] M Q := (hh_X11_told_0 M [x1.toInt] [.ref 0, .int x1] (scEk.c1 bx1 scEk.n0) ⟨⟨0, by simp, rfl⟩, ⟨x1, rfl, scEv.at rfl⟩, trivial⟩ (fun f hf => by cases hf) hI).imp (fun r M' h => by
  obtain ⟨⟨o, ho, hr, hf9, hm⟩, h1, h2⟩ := h
  rcases List.mem_cons.mp ho with rfl | ho
  · obtain ⟨n, rfl, c1, c2⟩ := hr; exact q0 n M' ⟨c1, c2⟩ h1 h2
  · cases ho)
theorem sm_told {M : fmM} {a0 : Int32} (hI : scInv Tm invM M) : pvGood Tm 250 qX11_told [.ref 0, .int a0] M (fun r M' => tI r ∧ scInv Tm invM M') := (wsm_told (scq_t a0) hI (fun n M' _ h1 _ => ⟨⟨n, rfl⟩, h1⟩)).up (by decide)
theorem wsm_life {M : fmM} {Q : fmR → fmM → Prop} {x1 : Int32} (bx1 : (-2147483648) ≤ x1.toInt ∧ x1.toInt ≤ 2147483647) {x2 : Int32} (bx2 : (-2147483648) ≤ x2.toInt ∧ x2.toInt ≤ 2147483647) (hI : scInv Tm invM M) (q0 : ∀ (n : Int32) (M' : fmM), ((-200) ≤ n.toInt ∧ n.toInt ≤ 1200) → scInv Tm invM M' → scFr [(0, 0, 1), (2, 0, 2)] M M' → Q (.inl (some (.int n))) M') : pvGood Tm 2 qX11_life [.ref 0, .int x1, .int x2] M Q := (hh_X11_life_0 M [x1.toInt, x2.toInt] [.ref 0, .int x1, .int x2] (scEk.c1 bx1 (scEk.c1 bx2 scEk.n0)) ⟨⟨0, by simp, rfl⟩, ⟨x1, rfl, scEv.at rfl⟩, ⟨x2, rfl, scEv.at rfl⟩, trivial⟩ (fun f hf => by cases hf) hI).imp (fun r M' h => by
  obtain ⟨⟨o, ho, hr, hf9, hm⟩, h1, h2⟩ := h
  rcases List.mem_cons.mp ho with rfl | ho
  · obtain ⟨n, rfl, c1, c2⟩ := hr; exact q0 n M' ⟨c1, c2⟩ h1 h2
  · cases ho)
theorem sm_life {M : fmM} {a0 a1 : Int32} (hI : scInv Tm invM M) : pvGood Tm 250 qX11_life [.ref 0, .int a0, .int a1] M (fun r M' => tI r ∧ scInv Tm invM M') := (wsm_life (scq_t a0) (scq_t a1) hI (fun n M' _ h1 _ => ⟨⟨n, rfl⟩, h1⟩)).up (by decide)
theorem wsm_facts {M : fmM} {Q : fmR → fmM → Prop} {x1 : Int32} (bx1 : (-2147483648) ≤ x1.toInt ∧ x1.toInt ≤ 2147483647) (hI : scInv Tm invM M) (q0 : ∀ (n : Int32) (M' : fmM), ((-2147483648) ≤ n.toInt ∧ n.toInt ≤ 2147483647) → scInv Tm invM M' → scFr [(0, 0, 1), (2, 0, 1)] M M' → Q (.inl (some (.int n))) M') : pvGood Tm 2 qX11_facts [.ref 0, .int x1] M Q := (hh_X11_facts_0 M [x1.toInt] [.ref 0, .int x1] (scEk.c1 bx1 scEk.n0) ⟨⟨0, by simp, rfl⟩, ⟨x1, rfl, scEv.at rfl⟩, trivial⟩ (fun f hf => by cases hf) hI).imp (fun r M' h => by
  obtain ⟨⟨o, ho, hr, hf9, hm⟩, h1, h2⟩ := h
  rcases List.mem_cons.mp ho with rfl | ho
  · obtain ⟨n, rfl, c1, c2⟩ := hr; exact q0 n M' ⟨c1, c2⟩ h1 h2
  · cases ho)
theorem sm_facts {M : fmM} {a0 : Int32} (hI : scInv Tm invM M) : pvGood Tm 250 qX11_facts [.ref 0, .int a0] M (fun r M' => tI r ∧ scInv Tm invM M') := (wsm_facts (scq_t a0) hI (fun n M' _ h1 _ => ⟨⟨n, rfl⟩, h1⟩)).up (by decide)
theorem wsm_wrong {M : fmM} {Q : fmR → fmM → Prop} {x1 : Int32} (bx1 : (-2147483648) ≤ x1.toInt ∧ x1.toInt ≤ 2147483647) (hI : scInv Tm invM M) (q0 : ∀ (n : Int32) (M' : fmM), ((-1) ≤ n.toInt ∧ n.toInt ≤ 64) → scInv Tm invM M' → scFr [(0, 0, 1), (2, 0, 1), (5, 0, 160), (6, 0, 5)] M M' → Q (.inl (some (.int n))) M') : pvGood Tm 7 qX11_wrong [.ref 0, .int x1] M Q := (hh_X11_wrong_0 M [x1.toInt] [.ref 0, .int x1] (scEk.c1 bx1 scEk.n0) ⟨⟨0, by simp, rfl⟩, ⟨x1, rfl, scEv.at rfl⟩, trivial⟩ (fun f hf => by cases hf) hI).imp (fun r M' h => by
  obtain ⟨⟨o, ho, hr, hf9, hm⟩, h1, h2⟩ := h
  rcases List.mem_cons.mp ho with rfl | ho
  · obtain ⟨n, rfl, c1, c2⟩ := hr; exact q0 n M' ⟨c1, c2⟩ h1 h2
  · cases ho)
theorem sm_wrong {M : fmM} {a0 : Int32} (hI : scInv Tm invM M) : pvGood Tm 250 qX11_wrong [.ref 0, .int a0] M (fun r M' => tI r ∧ scInv Tm invM M') := (wsm_wrong (scq_t a0) hI (fun n M' _ h1 _ => ⟨⟨n, rfl⟩, h1⟩)).up (by decide)
theorem wsm_would {M : fmM} {Q : fmR → fmM → Prop} {x1 : Int32} (bx1 : (-2147483648) ≤ x1.toInt ∧ x1.toInt ≤ 2147483647) {x2 : Int32} (bx2 : (-2147483648) ≤ x2.toInt ∧ x2.toInt ≤ 2147483647) {x3 : Int32} (bx3 : (-2147483648) ≤ x3.toInt ∧ x3.toInt ≤ 2147483647) {x4 : Int32} (bx4 : (-2147483648) ≤ x4.toInt ∧ x4.toInt ≤ 2147483647) {x5 : Int32} (bx5 : (-2147483648) ≤ x5.toInt ∧ x5.toInt ≤ 2147483647) (hI : scInv Tm invM M) (q0 : ∀ (n : Int32) (M' : fmM), (0 ≤ n.toInt ∧ n.toInt ≤ 64) → scInv Tm invM M' → scFr [(0, 0, 1), (2, 1, 1), (5, 0, 160), (6, 0, 5)] M M' → Q (.inl (some (.int n))) M') : pvGood Tm 5 qX11_would [.ref 0, .int x1, .int x2, .int x3, .int x4, .int x5] M Q := (hh_X11_would_0 M [x1.toInt, x2.toInt, x3.toInt, x4.toInt, x5.toInt] [.ref 0, .int x1, .int x2, .int x3, .int x4, .int x5] (scEk.c1 bx1 (scEk.c1 bx2 (scEk.c1 bx3 (scEk.c1 bx4 (scEk.c1 bx5 scEk.n0))))) ⟨⟨0, by simp, rfl⟩, ⟨x1, rfl, scEv.at rfl⟩, ⟨x2, rfl, scEv.at rfl⟩, ⟨x3, rfl, scEv.at rfl⟩, ⟨x4, rfl, scEv.at rfl⟩, ⟨x5, rfl, scEv.at rfl⟩, trivial⟩ (fun f hf => by cases hf) hI).imp (fun r M' h => by
  obtain ⟨⟨o, ho, hr, hf9, hm⟩, h1, h2⟩ := h
  rcases List.mem_cons.mp ho with rfl | ho
  · obtain ⟨n, rfl, c1, c2⟩ := hr; exact q0 n M' ⟨c1, c2⟩ h1 h2
  · cases ho)
theorem sm_would {M : fmM} {a0 a1 a2 a3 a4 : Int32} (hI : scInv Tm invM M) : pvGood Tm 250 qX11_would [.ref 0, .int a0, .int a1, .int a2, .int a3, .int a4] M (fun r M' => tI r ∧ scInv Tm invM M') := (wsm_would (scq_t a0) (scq_t a1) (scq_t a2) (scq_t a3) (scq_t a4) hI (fun n M' _ h1 _ => ⟨⟨n, rfl⟩, h1⟩)).up (by decide)
theorem wsm_loss {M : fmM} {Q : fmR → fmM → Prop} {x1 : Int32} (bx1 : (-2147483648) ≤ x1.toInt ∧ x1.toInt ≤ 2147483647) (hI : scInv Tm invM M) (q0 : ∀ (n : Int64) (M' : fmM), ((-9223372036854775808) ≤ n.toInt ∧ n.toInt ≤ 9223372036854775807) → scInv Tm invM M' → scFr [(0, 0, 1), (2, 1, 1)] M M' → Q (.inl (some (.long n))) M') : pvGood Tm 2 qX11_loss [.ref 0, .int x1] M Q := (hh_X11_loss_0 M [x1.toInt] [.ref 0, .int x1] (scEk.c1 bx1 scEk.n0) ⟨⟨0, by simp, rfl⟩, ⟨x1, rfl, scEv.at rfl⟩, trivial⟩ (fun f hf => by cases hf) hI).imp (fun r M' h => by
  obtain ⟨⟨o, ho, hr, hf9, hm⟩, h1, h2⟩ := h
  rcases List.mem_cons.mp ho with rfl | ho
  · obtain ⟨n, rfl, c1, c2⟩ := hr; exact q0 n M' ⟨c1, c2⟩ h1 h2
  · cases ho)
theorem sm_loss {M : fmM} {a0 : Int32} (hI : scInv Tm invM M) : pvGood Tm 250 qX11_loss [.ref 0, .int a0] M (fun r M' => tJ r ∧ scInv Tm invM M') := (wsm_loss (scq_t a0) hI (fun n M' _ h1 _ => ⟨⟨n, rfl⟩, h1⟩)).up (by decide)
theorem wsm_cost {M : fmM} {Q : fmR → fmM → Prop} {x1 : Int32} (bx1 : (-2147483648) ≤ x1.toInt ∧ x1.toInt ≤ 2147483647) {x2 : Int32} (bx2 : (-2147483648) ≤ x2.toInt ∧ x2.toInt ≤ 2147483647) (hI : scInv Tm invM M) (q0 : ∀ (n : Int64) (M' : fmM), ((-9223372036854775808) ≤ n.toInt ∧ n.toInt ≤ 9223372036854775807) → scInv Tm invM M' → scFr [(0, 0, 1), (2, 0, 2), (5, 0, 160), (6, 0, 5)] M M' → Q (.inl (some (.long n))) M') : pvGood Tm 8 qX11_cost [.ref 0, .int x1, .int x2] M Q := (hh_X11_cost_0 M [x1.toInt, x2.toInt] [.ref 0, .int x1, .int x2] (scEk.c1 bx1 (scEk.c1 bx2 scEk.n0)) ⟨⟨0, by simp, rfl⟩, ⟨x1, rfl, scEv.at rfl⟩, ⟨x2, rfl, scEv.at rfl⟩, trivial⟩ (fun f hf => by cases hf) hI).imp (fun r M' h => by
  obtain ⟨⟨o, ho, hr, hf9, hm⟩, h1, h2⟩ := h
  rcases List.mem_cons.mp ho with rfl | ho
  · obtain ⟨n, rfl, c1, c2⟩ := hr; exact q0 n M' ⟨c1, c2⟩ h1 h2
  · cases ho)
theorem sm_cost {M : fmM} {a0 a1 : Int32} (hI : scInv Tm invM M) : pvGood Tm 250 qX11_cost [.ref 0, .int a0, .int a1] M (fun r M' => tJ r ∧ scInv Tm invM M') := (wsm_cost (scq_t a0) (scq_t a1) hI (fun n M' _ h1 _ => ⟨⟨n, rfl⟩, h1⟩)).up (by decide)
theorem wsm_risk {M : fmM} {Q : fmR → fmM → Prop} {x1 : Int32} (bx1 : (-2147483648) ≤ x1.toInt ∧ x1.toInt ≤ 2147483647) (hI : scInv Tm invM M) (q0 : ∀ (n : Int64) (M' : fmM), ((-9223372036854775808) ≤ n.toInt ∧ n.toInt ≤ 9223372036854775807) → scInv Tm invM M' → scFr [(0, 0, 1), (2, 1, 1), (5, 0, 160), (6, 0, 5)] M M' → Q (.inl (some (.long n))) M') : pvGood Tm 9 qX11_risk [.ref 0, .int x1] M Q := (hh_X11_risk_0 M [x1.toInt] [.ref 0, .int x1] (scEk.c1 bx1 scEk.n0) ⟨⟨0, by simp, rfl⟩, ⟨x1, rfl, scEv.at rfl⟩, trivial⟩ (fun f hf => by cases hf) hI).imp (fun r M' h => by
  obtain ⟨⟨o, ho, hr, hf9, hm⟩, h1, h2⟩ := h
  rcases List.mem_cons.mp ho with rfl | ho
  · obtain ⟨n, rfl, c1, c2⟩ := hr; exact q0 n M' ⟨c1, c2⟩ h1 h2
  · cases ho)
theorem sm_risk {M : fmM} {a0 : Int32} (hI : scInv Tm invM M) : pvGood Tm 250 qX11_risk [.ref 0, .int a0] M (fun r M' => tJ r ∧ scInv Tm invM M') := (wsm_risk (scq_t a0) hI (fun n M' _ h1 _ => ⟨⟨n, rfl⟩, h1⟩)).up (by decide)
theorem sm_saves {M : fmM} {a0 a1 : Int32} (hI : scInv Tm invM M) : pvGood Tm 250 qX11_saves [.ref 0, .int a0, .int a1] M (fun r M' => tJ r ∧ scInv Tm invM M') := (t_saves hI (fun r M' h1 h2 => ⟨h1, h2⟩)).up (by decide)
theorem wsm_first {M : fmM} {Q : fmR → fmM → Prop}  (hI : scInv Tm invM M) (q0 : ∀ (n : Int32) (M' : fmM), ((-1) ≤ n.toInt ∧ n.toInt ≤ 7) → scInv Tm invM M' → scFr [(0, 0, 1), (5, 0, 160), (6, 0, 5)] M M' → Q (.inl (some (.int n))) M') : pvGood Tm 10 qX11_first [.ref 0] M Q := (hh_X11_first_0 M [] [.ref 0] scEk.n0 ⟨⟨0, by simp, rfl⟩, trivial⟩ (fun f hf => by cases hf) hI).imp (fun r M' h => by
  obtain ⟨⟨o, ho, hr, hf9, hm⟩, h1, h2⟩ := h
  rcases List.mem_cons.mp ho with rfl | ho
  · obtain ⟨n, rfl, c1, c2⟩ := hr; exact q0 n M' ⟨c1, c2⟩ h1 h2
  · cases ho)
theorem sm_first {M : fmM} (hI : scInv Tm invM M) : pvGood Tm 250 qX11_first [.ref 0] M (fun r M' => tI r ∧ scInv Tm invM M') := (wsm_first  hI (fun n M' _ h1 _ => ⟨⟨n, rfl⟩, h1⟩)).up (by decide)
theorem wsm_lacking {M : fmM} {Q : fmR → fmM → Prop}  (hI : scInv Tm invM M) (q0 : ∀ (n : Int32) (M' : fmM), ((-2147483648) ≤ n.toInt ∧ n.toInt ≤ 2147483647) → scInv Tm invM M' → scFr [(0, 0, 1)] M M' → Q (.inl (some (.int n))) M') : pvGood Tm 1 qX11_lacking [.ref 0] M Q := (hh_X11_lacking_0 M [] [.ref 0] scEk.n0 ⟨⟨0, by simp, rfl⟩, trivial⟩ (fun f hf => by cases hf) hI).imp (fun r M' h => by
  obtain ⟨⟨o, ho, hr, hf9, hm⟩, h1, h2⟩ := h
  rcases List.mem_cons.mp ho with rfl | ho
  · obtain ⟨n, rfl, c1, c2⟩ := hr; exact q0 n M' ⟨c1, c2⟩ h1 h2
  · cases ho)
theorem sm_lacking {M : fmM} (hI : scInv Tm invM M) : pvGood Tm 250 qX11_lacking [.ref 0] M (fun r M' => tI r ∧ scInv Tm invM M') := (wsm_lacking  hI (fun n M' _ h1 _ => ⟨⟨n, rfl⟩, h1⟩)).up (by decide)
theorem wsm_signed {M : fmM} {Q : fmR → fmM → Prop}  (hI : scInv Tm invM M) (q0 : ∀ (n : Int32) (M' : fmM), ((-2147483648) ≤ n.toInt ∧ n.toInt ≤ 2147483647) → scInv Tm invM M' → scFr [(0, 0, 1)] M M' → Q (.inl (some (.int n))) M') : pvGood Tm 2 qX11_signed [.ref 0] M Q := (hh_X11_signed_0 M [] [.ref 0] scEk.n0 ⟨⟨0, by simp, rfl⟩, trivial⟩ (fun f hf => by cases hf) hI).imp (fun r M' h => by
  obtain ⟨⟨o, ho, hr, hf9, hm⟩, h1, h2⟩ := h
  rcases List.mem_cons.mp ho with rfl | ho
  · obtain ⟨n, rfl, c1, c2⟩ := hr; exact q0 n M' ⟨c1, c2⟩ h1 h2
  · cases ho)
theorem sm_signed {M : fmM} (hI : scInv Tm invM M) : pvGood Tm 250 qX11_signed [.ref 0] M (fun r M' => tI r ∧ scInv Tm invM M') := (wsm_signed  hI (fun n M' _ h1 _ => ⟨⟨n, rfl⟩, h1⟩)).up (by decide)
theorem wsm_stale {M : fmM} {Q : fmR → fmM → Prop} {x1 : Int32} (bx1 : (-2147483648) ≤ x1.toInt ∧ x1.toInt ≤ 2147483647) (hI : scInv Tm invM M) (q0 : ∀ (n : Int32) (M' : fmM), ((-2147483648) ≤ n.toInt ∧ n.toInt ≤ 2147483647) → scInv Tm invM M' → scFr [(0, 0, 1), (2, 1, 1), (5, 0, 160), (6, 0, 5)] M M' → Q (.inl (some (.int n))) M') : pvGood Tm 7 qX11_stale [.ref 0, .int x1] M Q := (hh_X11_stale_0 M [x1.toInt] [.ref 0, .int x1] (scEk.c1 bx1 scEk.n0) ⟨⟨0, by simp, rfl⟩, ⟨x1, rfl, scEv.at rfl⟩, trivial⟩ (fun f hf => by cases hf) hI).imp (fun r M' h => by
  obtain ⟨⟨o, ho, hr, hf9, hm⟩, h1, h2⟩ := h
  rcases List.mem_cons.mp ho with rfl | ho
  · obtain ⟨n, rfl, c1, c2⟩ := hr; exact q0 n M' ⟨c1, c2⟩ h1 h2
  · cases ho)
theorem sm_stale {M : fmM} {a0 : Int32} (hI : scInv Tm invM M) : pvGood Tm 250 qX11_stale [.ref 0, .int a0] M (fun r M' => tI r ∧ scInv Tm invM M') := (wsm_stale (scq_t a0) hI (fun n M' _ h1 _ => ⟨⟨n, rfl⟩, h1⟩)).up (by decide)
theorem wsm_best {M : fmM} {Q : fmR → fmM → Prop} {x1 : Int32} (bx1 : (-2147483648) ≤ x1.toInt ∧ x1.toInt ≤ 2147483647) {x2 : Int32} (bx2 : (-2147483648) ≤ x2.toInt ∧ x2.toInt ≤ 2147483647) (hI : scInv Tm invM M) (q0 : ∀ (n : Int64) (M' : fmM), ((-9223372036854775808) ≤ n.toInt ∧ n.toInt ≤ 9223372036854775807) → scInv Tm invM M' → scFr [(0, 0, 1), (0, 43, 1), (2, 1, 1), (5, 0, 160), (6, 0, 5), (9, 0, 2197), (10, 0, 2197), (11, 0, 2197), (12, 0, 2197), (13, 0, 3)] M M' → Q (.inl (some (.long n))) M') : pvGood Tm 9 qX11_best [.ref 0, .int x1, .int x2] M Q := (hh_X11_best_0 M [x1.toInt, x2.toInt] [.ref 0, .int x1, .int x2] (scEk.c1 bx1 (scEk.c1 bx2 scEk.n0)) ⟨⟨0, by simp, rfl⟩, ⟨x1, rfl, scEv.at rfl⟩, ⟨x2, rfl, scEv.at rfl⟩, trivial⟩ (fun f hf => by cases hf) hI).imp (fun r M' h => by
  obtain ⟨⟨o, ho, hr, hf9, hm⟩, h1, h2⟩ := h
  rcases List.mem_cons.mp ho with rfl | ho
  · obtain ⟨n, rfl, c1, c2⟩ := hr; exact q0 n M' ⟨c1, c2⟩ h1 h2
  · cases ho)
theorem sm_best {M : fmM} {a0 a1 : Int32} (hI : scInv Tm invM M) : pvGood Tm 250 qX11_best [.ref 0, .int a0, .int a1] M (fun r M' => tJ r ∧ scInv Tm invM M') := (wsm_best (scq_t a0) (scq_t a1) hI (fun n M' _ h1 _ => ⟨⟨n, rfl⟩, h1⟩)).up (by decide)
theorem wsm_bestIn {M : fmM} {Q : fmR → fmM → Prop} {x1 : Int32} (bx1 : (-2147483648) ≤ x1.toInt ∧ x1.toInt ≤ 2147483647) {x2 : Int32} (bx2 : (-2147483648) ≤ x2.toInt ∧ x2.toInt ≤ 2147483647) (hI : scInv Tm invM M) (q0 : ∀ (n : Int32) (M' : fmM), ((-2147483648) ≤ n.toInt ∧ n.toInt ≤ 2147483647) → scInv Tm invM M' → scFr [(0, 0, 1), (0, 43, 1), (2, 1, 1), (5, 0, 160), (6, 0, 5), (9, 0, 2197), (10, 0, 2197), (11, 0, 2197), (12, 0, 2197), (13, 0, 3)] M M' → Q (.inl (some (.int n))) M') : pvGood Tm 9 qX11_bestIn [.ref 0, .int x1, .int x2] M Q := (hh_X11_bestIn_0 M [x1.toInt, x2.toInt] [.ref 0, .int x1, .int x2] (scEk.c1 bx1 (scEk.c1 bx2 scEk.n0)) ⟨⟨0, by simp, rfl⟩, ⟨x1, rfl, scEv.at rfl⟩, ⟨x2, rfl, scEv.at rfl⟩, trivial⟩ (fun f hf => by cases hf) hI).imp (fun r M' h => by
  obtain ⟨⟨o, ho, hr, hf9, hm⟩, h1, h2⟩ := h
  rcases List.mem_cons.mp ho with rfl | ho
  · obtain ⟨n, rfl, c1, c2⟩ := hr; exact q0 n M' ⟨c1, c2⟩ h1 h2
  · cases ho)
theorem sm_bestIn {M : fmM} {a0 a1 : Int32} (hI : scInv Tm invM M) : pvGood Tm 250 qX11_bestIn [.ref 0, .int a0, .int a1] M (fun r M' => tI r ∧ scInv Tm invM M') := (wsm_bestIn (scq_t a0) (scq_t a1) hI (fun n M' _ h1 _ => ⟨⟨n, rfl⟩, h1⟩)).up (by decide)
theorem wsm_often {M : fmM} {Q : fmR → fmM → Prop} {x1 : Int32} (bx1 : (-2147483648) ≤ x1.toInt ∧ x1.toInt ≤ 2147483647) {x2 : Int32} (bx2 : (-2147483648) ≤ x2.toInt ∧ x2.toInt ≤ 2147483647) (hI : scInv Tm invM M) (q0 : ∀ (n : Int32) (M' : fmM), (0 ≤ n.toInt ∧ n.toInt ≤ 2147483647) → scInv Tm invM M' → scFr [(0, 0, 1), (2, 0, 2), (5, 0, 160), (6, 0, 5)] M M' → Q (.inl (some (.int n))) M') : pvGood Tm 6 qX11_often [.ref 0, .int x1, .int x2] M Q := (hh_X11_often_0 M [x1.toInt, x2.toInt] [.ref 0, .int x1, .int x2] (scEk.c1 bx1 (scEk.c1 bx2 scEk.n0)) ⟨⟨0, by simp, rfl⟩, ⟨x1, rfl, scEv.at rfl⟩, ⟨x2, rfl, scEv.at rfl⟩, trivial⟩ (fun f hf => by cases hf) hI).imp (fun r M' h => by
  obtain ⟨⟨o, ho, hr, hf9, hm⟩, h1, h2⟩ := h
  rcases List.mem_cons.mp ho with rfl | ho
  · obtain ⟨n, rfl, c1, c2⟩ := hr; exact q0 n M' ⟨c1, c2⟩ h1 h2
  · cases ho)
theorem sm_often {M : fmM} {a0 a1 : Int32} (hI : scInv Tm invM M) : pvGood Tm 250 qX11_often [.ref 0, .int a0, .int a1] M (fun r M' => tI r ∧ scInv Tm invM M') := (wsm_often (scq_t a0) (scq_t a1) hI (fun n M' _ h1 _ => ⟨⟨n, rfl⟩, h1⟩)).up (by decide)
theorem wsm_yearly {M : fmM} {Q : fmR → fmM → Prop} {x1 : Int32} (bx1 : (-2147483648) ≤ x1.toInt ∧ x1.toInt ≤ 2147483647) {x2 : Int32} (bx2 : (-2147483648) ≤ x2.toInt ∧ x2.toInt ≤ 2147483647) {x3 : Int32} (bx3 : (-2147483648) ≤ x3.toInt ∧ x3.toInt ≤ 2147483647) {x4 : Int32} (bx4 : (-2147483648) ≤ x4.toInt ∧ x4.toInt ≤ 2147483647) (hI : scInv Tm invM M) (q0 : ∀ (n : Int64) (M' : fmM), ((-9223372036854775808) ≤ n.toInt ∧ n.toInt ≤ 9223372036854775807) → scInv Tm invM M' → scFr [(0, 0, 1), (2, 0, 2), (5, 0, 160), (6, 0, 5)] M M' → Q (.inl (some (.long n))) M') : pvGood Tm 6 qX11_yearly [.ref 0, .int x1, .int x2, .int x3, .int x4] M Q := (hh_X11_yearly_0 M [x1.toInt, x2.toInt, x3.toInt, x4.toInt] [.ref 0, .int x1, .int x2, .int x3, .int x4] (scEk.c1 bx1 (scEk.c1 bx2 (scEk.c1 bx3 (scEk.c1 bx4 scEk.n0)))) ⟨⟨0, by simp, rfl⟩, ⟨x1, rfl, scEv.at rfl⟩, ⟨x2, rfl, scEv.at rfl⟩, ⟨x3, rfl, scEv.at rfl⟩, ⟨x4, rfl, scEv.at rfl⟩, trivial⟩ (fun f hf => by cases hf) hI).imp (fun r M' h => by
  obtain ⟨⟨o, ho, hr, hf9, hm⟩, h1, h2⟩ := h
  rcases List.mem_cons.mp ho with rfl | ho
  · obtain ⟨n, rfl, c1, c2⟩ := hr; exact q0 n M' ⟨c1, c2⟩ h1 h2
  · cases ho)
theorem sm_yearly {M : fmM} {a0 a1 a2 a3 : Int32} (hI : scInv Tm invM M) : pvGood Tm 250 qX11_yearly [.ref 0, .int a0, .int a1, .int a2, .int a3] M (fun r M' => tJ r ∧ scInv Tm invM M') := (wsm_yearly (scq_t a0) (scq_t a1) (scq_t a2) (scq_t a3) hI (fun n M' _ h1 _ => ⟨⟨n, rfl⟩, h1⟩)).up (by decide)
theorem wsm_brings {M : fmM} {Q : fmR → fmM → Prop} {x1 : Int32} (bx1 : (-2147483648) ≤ x1.toInt ∧ x1.toInt ≤ 2147483647) {x2 : Int32} (bx2 : (-2147483648) ≤ x2.toInt ∧ x2.toInt ≤ 2147483647) {x3 : Int32} (bx3 : (-2147483648) ≤ x3.toInt ∧ x3.toInt ≤ 2147483647) {x4 : Int32} (bx4 : (-2147483648) ≤ x4.toInt ∧ x4.toInt ≤ 2147483647) {x5 : Int32} (bx5 : (-2147483648) ≤ x5.toInt ∧ x5.toInt ≤ 2147483647) {x6 : Int32} (bx6 : (-2147483648) ≤ x6.toInt ∧ x6.toInt ≤ 2147483647) (hI : scInv Tm invM M) (q0 : ∀ (n : Int32) (M' : fmM), ((-2147483648) ≤ n.toInt ∧ n.toInt ≤ 2147483647) → scInv Tm invM M' → scFr [(0, 0, 1), (2, 1, 1)] M M' → Q (.inl (some (.int n))) M') : pvGood Tm 2 qX11_brings [.ref 0, .int x1, .int x2, .int x3, .int x4, .int x5, .int x6] M Q := (hh_X11_brings_0 M [x1.toInt, x2.toInt, x3.toInt, x4.toInt, x5.toInt, x6.toInt] [.ref 0, .int x1, .int x2, .int x3, .int x4, .int x5, .int x6] (scEk.c1 bx1 (scEk.c1 bx2 (scEk.c1 bx3 (scEk.c1 bx4 (scEk.c1 bx5 (scEk.c1 bx6 scEk.n0)))))) ⟨⟨0, by simp, rfl⟩, ⟨x1, rfl, scEv.at rfl⟩, ⟨x2, rfl, scEv.at rfl⟩, ⟨x3, rfl, scEv.at rfl⟩, ⟨x4, rfl, scEv.at rfl⟩, ⟨x5, rfl, scEv.at rfl⟩, ⟨x6, rfl, scEv.at rfl⟩, trivial⟩ (fun f hf => by cases hf) hI).imp (fun r M' h => by
  obtain ⟨⟨o, ho, hr, hf9, hm⟩, h1, h2⟩ := h
  rcases List.mem_cons.mp ho with rfl | ho
  · obtain ⟨n, rfl, c1, c2⟩ := hr; exact q0 n M' ⟨c1, c2⟩ h1 h2
  · cases ho)
theorem sm_brings {M : fmM} {a0 a1 a2 a3 a4 a5 : Int32} (hI : scInv Tm invM M) : pvGood Tm 250 qX11_brings [.ref 0, .int a0, .int a1, .int a2, .int a3, .int a4, .int a5] M (fun r M' => tI r ∧ scInv Tm invM M') := (wsm_brings (scq_t a0) (scq_t a1) (scq_t a2) (scq_t a3) (scq_t a4) (scq_t a5) hI (fun n M' _ h1 _ => ⟨⟨n, rfl⟩, h1⟩)).up (by decide)
theorem wsm_says {M : fmM} {Q : fmR → fmM → Prop} {x1 : Int32} (bx1 : (-2147483648) ≤ x1.toInt ∧ x1.toInt ≤ 2147483647) {x2 : Int32} (bx2 : (-2147483648) ≤ x2.toInt ∧ x2.toInt ≤ 2147483647) {x3 : Int32} (bx3 : (-2147483648) ≤ x3.toInt ∧ x3.toInt ≤ 2147483647) {x4 : Int32} (bx4 : (-2147483648) ≤ x4.toInt ∧ x4.toInt ≤ 2147483647) {x5 : Int32} (bx5 : (-2147483648) ≤ x5.toInt ∧ x5.toInt ≤ 2147483647) (hI : scInv Tm invM M) (q0 : ∀ (n : Int32) (M' : fmM), (0 ≤ n.toInt ∧ n.toInt ≤ 2) → scInv Tm invM M' → scFr [(0, 0, 1), (2, 1, 1)] M M' → Q (.inl (some (.int n))) M') : pvGood Tm 2 qX11_says [.ref 0, .int x1, .int x2, .int x3, .int x4, .int x5] M Q := (hh_X11_says_0 M [x1.toInt, x2.toInt, x3.toInt, x4.toInt, x5.toInt] [.ref 0, .int x1, .int x2, .int x3, .int x4, .int x5] (scEk.c1 bx1 (scEk.c1 bx2 (scEk.c1 bx3 (scEk.c1 bx4 (scEk.c1 bx5 scEk.n0))))) ⟨⟨0, by simp, rfl⟩, ⟨x1, rfl, scEv.at rfl⟩, ⟨x2, rfl, scEv.at rfl⟩, ⟨x3, rfl, scEv.at rfl⟩, ⟨x4, rfl, scEv.at rfl⟩, ⟨x5, rfl, scEv.at rfl⟩, trivial⟩ (fun f hf => by cases hf) hI).imp (fun r M' h => by
  obtain ⟨⟨o, ho, hr, hf9, hm⟩, h1, h2⟩ := h
  rcases List.mem_cons.mp ho with rfl | ho
  · obtain ⟨n, rfl, c1, c2⟩ := hr; exact q0 n M' ⟨c1, c2⟩ h1 h2
  · cases ho)
theorem sm_says {M : fmM} {a0 a1 a2 a3 a4 : Int32} (hI : scInv Tm invM M) : pvGood Tm 250 qX11_says [.ref 0, .int a0, .int a1, .int a2, .int a3, .int a4] M (fun r M' => tI r ∧ scInv Tm invM M') := (wsm_says (scq_t a0) (scq_t a1) (scq_t a2) (scq_t a3) (scq_t a4) hI (fun n M' _ h1 _ => ⟨⟨n, rfl⟩, h1⟩)).up (by decide)
theorem wsm_line {M : fmM} {Q : fmR → fmM → Prop} {x1 : Int32} (bx1 : (-2147483648) ≤ x1.toInt ∧ x1.toInt ≤ 2147483647) {x2 : Int32} (bx2 : (-2147483648) ≤ x2.toInt ∧ x2.toInt ≤ 2147483647) {x3 : Int32} (bx3 : (-2147483648) ≤ x3.toInt ∧ x3.toInt ≤ 2147483647) {x4 : Int32} (bx4 : (-2147483648) ≤ x4.toInt ∧ x4.toInt ≤ 2147483647) (hI : scInv Tm invM M) (q0 : ∀ (n : Int32) (M' : fmM), ((-1) ≤ n.toInt ∧ n.toInt ≤ 16) → scInv Tm invM M' → scFr [(0, 0, 1), (2, 1, 1)] M M' → Q (.inl (some (.int n))) M') : pvGood Tm 2 qX11_line [.ref 0, .int x1, .int x2, .int x3, .int x4] M Q := (hh_X11_line_0 M [x1.toInt, x2.toInt, x3.toInt, x4.toInt] [.ref 0, .int x1, .int x2, .int x3, .int x4] (scEk.c1 bx1 (scEk.c1 bx2 (scEk.c1 bx3 (scEk.c1 bx4 scEk.n0)))) ⟨⟨0, by simp, rfl⟩, ⟨x1, rfl, scEv.at rfl⟩, ⟨x2, rfl, scEv.at rfl⟩, ⟨x3, rfl, scEv.at rfl⟩, ⟨x4, rfl, scEv.at rfl⟩, trivial⟩ (fun f hf => by cases hf) hI).imp (fun r M' h => by
  obtain ⟨⟨o, ho, hr, hf9, hm⟩, h1, h2⟩ := h
  rcases List.mem_cons.mp ho with rfl | ho
  · obtain ⟨n, rfl, c1, c2⟩ := hr; exact q0 n M' ⟨c1, c2⟩ h1 h2
  · cases ho)
theorem sm_line {M : fmM} {a0 a1 a2 a3 : Int32} (hI : scInv Tm invM M) : pvGood Tm 250 qX11_line [.ref 0, .int a0, .int a1, .int a2, .int a3] M (fun r M' => tI r ∧ scInv Tm invM M') := (wsm_line (scq_t a0) (scq_t a1) (scq_t a2) (scq_t a3) hI (fun n M' _ h1 _ => ⟨⟨n, rfl⟩, h1⟩)).up (by decide)
theorem wsm_room {M : fmM} {Q : fmR → fmM → Prop} {x1 : Int32} (bx1 : (-2147483648) ≤ x1.toInt ∧ x1.toInt ≤ 2147483647) {x2 : Int32} (bx2 : (-2147483648) ≤ x2.toInt ∧ x2.toInt ≤ 2147483647) (hI : scInv Tm invM M) (q0 : ∀ (n : Int32) (M' : fmM), ((-2147483648) ≤ n.toInt ∧ n.toInt ≤ 2147483647) → scInv Tm invM M' → scFr [(0, 0, 1), (0, 46, 1), (2, 1, 1), (14, 0, 8), (15, 0, 8)] M M' → Q (.inl (some (.int n))) M') : pvGood Tm 10 qX11_room [.ref 0, .int x1, .int x2] M Q := (hh_X11_room_0 M [x1.toInt, x2.toInt] [.ref 0, .int x1, .int x2] (scEk.c1 bx1 (scEk.c1 bx2 scEk.n0)) ⟨⟨0, by simp, rfl⟩, ⟨x1, rfl, scEv.at rfl⟩, ⟨x2, rfl, scEv.at rfl⟩, trivial⟩ (fun f hf => by cases hf) hI).imp (fun r M' h => by
  obtain ⟨⟨o, ho, hr, hf9, hm⟩, h1, h2⟩ := h
  rcases List.mem_cons.mp ho with rfl | ho
  · obtain ⟨n, rfl, c1, c2⟩ := hr; exact q0 n M' ⟨c1, c2⟩ h1 h2
  · cases ho)
theorem sm_room {M : fmM} {a0 a1 : Int32} (hI : scInv Tm invM M) : pvGood Tm 250 qX11_room [.ref 0, .int a0, .int a1] M (fun r M' => tI r ∧ scInv Tm invM M') := (wsm_room (scq_t a0) (scq_t a1) hI (fun n M' _ h1 _ => ⟨⟨n, rfl⟩, h1⟩)).up (by decide)
theorem wsm_lines {M : fmM} {Q : fmR → fmM → Prop} {x1 : Int32} (bx1 : (-2147483648) ≤ x1.toInt ∧ x1.toInt ≤ 2147483647) {x2 : Int32} (bx2 : (-2147483648) ≤ x2.toInt ∧ x2.toInt ≤ 2147483647) {x3 : Int32} (bx3 : (-2147483648) ≤ x3.toInt ∧ x3.toInt ≤ 2147483647) (hI : scInv Tm invM M) (q0 : ∀ (n : Int32) (M' : fmM), (0 ≤ n.toInt ∧ n.toInt ≤ 99) → scInv Tm invM M' → scFr [(0, 0, 1), (0, 46, 1), (2, 0, 2), (14, 0, 8), (15, 0, 8)] M M' → Q (.inl (some (.int n))) M') : pvGood Tm 10 qX11_lines [.ref 0, .int x1, .int x2, .int x3] M Q := (hh_X11_lines_0 M [x1.toInt, x2.toInt, x3.toInt] [.ref 0, .int x1, .int x2, .int x3] (scEk.c1 bx1 (scEk.c1 bx2 (scEk.c1 bx3 scEk.n0))) ⟨⟨0, by simp, rfl⟩, ⟨x1, rfl, scEv.at rfl⟩, ⟨x2, rfl, scEv.at rfl⟩, ⟨x3, rfl, scEv.at rfl⟩, trivial⟩ (fun f hf => by cases hf) hI).imp (fun r M' h => by
  obtain ⟨⟨o, ho, hr, hf9, hm⟩, h1, h2⟩ := h
  rcases List.mem_cons.mp ho with rfl | ho
  · obtain ⟨n, rfl, c1, c2⟩ := hr; exact q0 n M' ⟨c1, c2⟩ h1 h2
  · cases ho)
theorem sm_lines {M : fmM} {a0 a1 a2 : Int32} (hI : scInv Tm invM M) : pvGood Tm 250 qX11_lines [.ref 0, .int a0, .int a1, .int a2] M (fun r M' => tI r ∧ scInv Tm invM M') := (wsm_lines (scq_t a0) (scq_t a1) (scq_t a2) hI (fun n M' _ h1 _ => ⟨⟨n, rfl⟩, h1⟩)).up (by decide)
theorem wsm_apart {M : fmM} {Q : fmR → fmM → Prop} {x1 : Int32} (bx1 : (-2147483648) ≤ x1.toInt ∧ x1.toInt ≤ 2147483647) {x2 : Int32} (bx2 : (-2147483648) ≤ x2.toInt ∧ x2.toInt ≤ 2147483647) (hI : scInv Tm invM M) (q0 : ∀ (n : Int32) (M' : fmM), ((-2147483648) ≤ n.toInt ∧ n.toInt ≤ 2147483647) → scInv Tm invM M' → scFr [(0, 0, 1), (2, 1, 1)] M M' → Q (.inl (some (.int n))) M') : pvGood Tm 2 qX11_apart [.ref 0, .int x1, .int x2] M Q := (hh_X11_apart_0 M [x1.toInt, x2.toInt] [.ref 0, .int x1, .int x2] (scEk.c1 bx1 (scEk.c1 bx2 scEk.n0)) ⟨⟨0, by simp, rfl⟩, ⟨x1, rfl, scEv.at rfl⟩, ⟨x2, rfl, scEv.at rfl⟩, trivial⟩ (fun f hf => by cases hf) hI).imp (fun r M' h => by
  obtain ⟨⟨o, ho, hr, hf9, hm⟩, h1, h2⟩ := h
  rcases List.mem_cons.mp ho with rfl | ho
  · obtain ⟨n, rfl, c1, c2⟩ := hr; exact q0 n M' ⟨c1, c2⟩ h1 h2
  · cases ho)
theorem sm_apart {M : fmM} {a0 a1 : Int32} (hI : scInv Tm invM M) : pvGood Tm 250 qX11_apart [.ref 0, .int a0, .int a1] M (fun r M' => tI r ∧ scInv Tm invM M') := (wsm_apart (scq_t a0) (scq_t a1) hI (fun n M' _ h1 _ => ⟨⟨n, rfl⟩, h1⟩)).up (by decide)
theorem wsm_twins {M : fmM} {Q : fmR → fmM → Prop}  (hI : scInv Tm invM M) (q0 : ∀ (n : Int32) (M' : fmM), ((-1) ≤ n.toInt ∧ n.toInt ≤ 77) → scInv Tm invM M' → scFr [(0, 0, 1)] M M' → Q (.inl (some (.int n))) M') : pvGood Tm 1 qX11_twins [.ref 0] M Q := (hh_X11_twins_0 M [] [.ref 0] scEk.n0 ⟨⟨0, by simp, rfl⟩, trivial⟩ (fun f hf => by cases hf) hI).imp (fun r M' h => by
  obtain ⟨⟨o, ho, hr, hf9, hm⟩, h1, h2⟩ := h
  rcases List.mem_cons.mp ho with rfl | ho
  · obtain ⟨n, rfl, c1, c2⟩ := hr; exact q0 n M' ⟨c1, c2⟩ h1 h2
  · cases ho)
theorem sm_twins {M : fmM} (hI : scInv Tm invM M) : pvGood Tm 250 qX11_twins [.ref 0] M (fun r M' => tI r ∧ scInv Tm invM M') := (wsm_twins  hI (fun n M' _ h1 _ => ⟨⟨n, rfl⟩, h1⟩)).up (by decide)
theorem wsm_written {M : fmM} {Q : fmR → fmM → Prop} {x1 : Int32} (bx1 : (-2147483648) ≤ x1.toInt ∧ x1.toInt ≤ 2147483647) (hI : scInv Tm invM M) (q0 : ∀ (n : Int64) (M' : fmM), ((-9223372036854775808) ≤ n.toInt ∧ n.toInt ≤ 9223372036854775807) → scInv Tm invM M' → scFr [(0, 0, 1), (2, 0, 1)] M M' → Q (.inl (some (.long n))) M') : pvGood Tm 2 qX11_written [.ref 0, .int x1] M Q := (hh_X11_written_0 M [x1.toInt] [.ref 0, .int x1] (scEk.c1 bx1 scEk.n0) ⟨⟨0, by simp, rfl⟩, ⟨x1, rfl, scEv.at rfl⟩, trivial⟩ (fun f hf => by cases hf) hI).imp (fun r M' h => by
  obtain ⟨⟨o, ho, hr, hf9, hm⟩, h1, h2⟩ := h
  rcases List.mem_cons.mp ho with rfl | ho
  · obtain ⟨n, rfl, c1, c2⟩ := hr; exact q0 n M' ⟨c1, c2⟩ h1 h2
  · cases ho)
theorem sm_written {M : fmM} {a0 : Int32} (hI : scInv Tm invM M) : pvGood Tm 250 qX11_written [.ref 0, .int a0] M (fun r M' => tJ r ∧ scInv Tm invM M') := (wsm_written (scq_t a0) hI (fun n M' _ h1 _ => ⟨⟨n, rfl⟩, h1⟩)).up (by decide)
theorem wsm_whose {M : fmM} {Q : fmR → fmM → Prop}  (hI : scInv Tm invM M) (q0 : ∀ (n : Int32) (M' : fmM), ((-2147483648) ≤ n.toInt ∧ n.toInt ≤ 2147483647) → scInv Tm invM M' → scFr [(0, 0, 1)] M M' → Q (.inl (some (.int n))) M') : pvGood Tm 2 qX11_whose [.ref 0] M Q := (hh_X11_whose_0 M [] [.ref 0] scEk.n0 ⟨⟨0, by simp, rfl⟩, trivial⟩ (fun f hf => by cases hf) hI).imp (fun r M' h => by
  obtain ⟨⟨o, ho, hr, hf9, hm⟩, h1, h2⟩ := h
  rcases List.mem_cons.mp ho with rfl | ho
  · obtain ⟨n, rfl, c1, c2⟩ := hr; exact q0 n M' ⟨c1, c2⟩ h1 h2
  · cases ho)
theorem sm_whose {M : fmM} (hI : scInv Tm invM M) : pvGood Tm 250 qX11_whose [.ref 0] M (fun r M' => tI r ∧ scInv Tm invM M') := (wsm_whose  hI (fun n M' _ h1 _ => ⟨⟨n, rfl⟩, h1⟩)).up (by decide)
theorem wsm_ahead {M : fmM} {Q : fmR → fmM → Prop} {x1 : Int32} (bx1 : (-2147483648) ≤ x1.toInt ∧ x1.toInt ≤ 2147483647) {x2 : Int32} (bx2 : (-2147483648) ≤ x2.toInt ∧ x2.toInt ≤ 2147483647) (hI : scInv Tm invM M) (q0 : ∀ (n : Int64) (M' : fmM), ((-9223372036854775808) ≤ n.toInt ∧ n.toInt ≤ 9223372036854775807) → scInv Tm invM M' → scFr [(0, 0, 1), (2, 1, 1), (5, 0, 160), (6, 0, 5), (8, 0, 14)] M M' → Q (.inl (some (.long n))) M') : pvGood Tm 10 qX11_ahead [.ref 0, .int x1, .int x2] M Q := (hh_X11_ahead_0 M [x1.toInt, x2.toInt] [.ref 0, .int x1, .int x2] (scEk.c1 bx1 (scEk.c1 bx2 scEk.n0)) ⟨⟨0, by simp, rfl⟩, ⟨x1, rfl, scEv.at rfl⟩, ⟨x2, rfl, scEv.at rfl⟩, trivial⟩ (fun f hf => by cases hf) hI).imp (fun r M' h => by
  obtain ⟨⟨o, ho, hr, hf9, hm⟩, h1, h2⟩ := h
  rcases List.mem_cons.mp ho with rfl | ho
  · obtain ⟨n, rfl, c1, c2⟩ := hr; exact q0 n M' ⟨c1, c2⟩ h1 h2
  · cases ho)
theorem sm_ahead {M : fmM} {a0 a1 : Int32} (hI : scInv Tm invM M) : pvGood Tm 250 qX11_ahead [.ref 0, .int a0, .int a1] M (fun r M' => tJ r ∧ scInv Tm invM M') := (wsm_ahead (scq_t a0) (scq_t a1) hI (fun n M' _ h1 _ => ⟨⟨n, rfl⟩, h1⟩)).up (by decide)
theorem wsm_lives {M : fmM} {Q : fmR → fmM → Prop} {x1 : Int32} (bx1 : (-2147483648) ≤ x1.toInt ∧ x1.toInt ≤ 2147483647) {x2 : Int32} (bx2 : (-2147483648) ≤ x2.toInt ∧ x2.toInt ≤ 2147483647) {x3 : Int32} (bx3 : (-2147483648) ≤ x3.toInt ∧ x3.toInt ≤ 2147483647) (hI : scInv Tm invM M) (q0 : ∀ (n : Int64) (M' : fmM), ((-9223372036854775808) ≤ n.toInt ∧ n.toInt ≤ 9223372036854775807) → scInv Tm invM M' → scFr [(0, 0, 1), (2, 0, 2)] M M' → Q (.inl (some (.long n))) M') : pvGood Tm 2 qX11_lives [.ref 0, .int x1, .int x2, .int x3] M Q := (hh_X11_lives_0 M [x1.toInt, x2.toInt, x3.toInt] [.ref 0, .int x1, .int x2, .int x3] (scEk.c1 bx1 (scEk.c1 bx2 (scEk.c1 bx3 scEk.n0))) ⟨⟨0, by simp, rfl⟩, ⟨x1, rfl, scEv.at rfl⟩, ⟨x2, rfl, scEv.at rfl⟩, ⟨x3, rfl, scEv.at rfl⟩, trivial⟩ (fun f hf => by cases hf) hI).imp (fun r M' h => by
  obtain ⟨⟨o, ho, hr, hf9, hm⟩, h1, h2⟩ := h
  rcases List.mem_cons.mp ho with rfl | ho
  · obtain ⟨n, rfl, c1, c2⟩ := hr; exact q0 n M' ⟨c1, c2⟩ h1 h2
  · cases ho)
theorem sm_lives {M : fmM} {a0 a1 a2 : Int32} (hI : scInv Tm invM M) : pvGood Tm 250 qX11_lives [.ref 0, .int a0, .int a1, .int a2] M (fun r M' => tJ r ∧ scInv Tm invM M') := (wsm_lives (scq_t a0) (scq_t a1) (scq_t a2) hI (fun n M' _ h1 _ => ⟨⟨n, rfl⟩, h1⟩)).up (by decide)
theorem wsm_oldest {M : fmM} {Q : fmR → fmM → Prop}  (hI : scInv Tm invM M) (q0 : ∀ (n : Int32) (M' : fmM), ((-1) ≤ n.toInt ∧ n.toInt ≤ 7) → scInv Tm invM M' → scFr [(0, 0, 1)] M M' → Q (.inl (some (.int n))) M') : pvGood Tm 1 qX11_oldest [.ref 0] M Q := (hh_X11_oldest_0 M [] [.ref 0] scEk.n0 ⟨⟨0, by simp, rfl⟩, trivial⟩ (fun f hf => by cases hf) hI).imp (fun r M' h => by
  obtain ⟨⟨o, ho, hr, hf9, hm⟩, h1, h2⟩ := h
  rcases List.mem_cons.mp ho with rfl | ho
  · obtain ⟨n, rfl, c1, c2⟩ := hr; exact q0 n M' ⟨c1, c2⟩ h1 h2
  · cases ho)
theorem sm_oldest {M : fmM} (hI : scInv Tm invM M) : pvGood Tm 250 qX11_oldest [.ref 0] M (fun r M' => tI r ∧ scInv Tm invM M') := (wsm_oldest  hI (fun n M' _ h1 _ => ⟨⟨n, rfl⟩, h1⟩)).up (by decide)
theorem sm_chain {M : fmM} {a0 a1 : Int32} (hI : scInv Tm invM M) : pvGood Tm 250 qX11_chain [.ref 0, .int a0, .int a1] M (fun r M' => tI r ∧ scInv Tm invM M') := (t_chain hI (fun r M' h1 h2 => ⟨h1, h2⟩)).up (by decide)
theorem wsm_due {M : fmM} {Q : fmR → fmM → Prop} {x1 : Int32} (bx1 : (-2147483648) ≤ x1.toInt ∧ x1.toInt ≤ 2147483647) {x2 : Int32} (bx2 : (-2147483648) ≤ x2.toInt ∧ x2.toInt ≤ 2147483647) (hI : scInv Tm invM M) (q0 : ∀ (n : Int32) (M' : fmM), ((-1) ≤ n.toInt ∧ n.toInt ≤ 60) → scInv Tm invM M' → scFr [(0, 0, 1), (2, 0, 2), (5, 0, 160), (6, 0, 5)] M M' → Q (.inl (some (.int n))) M') : pvGood Tm 6 qX11_due [.ref 0, .int x1, .int x2] M Q := (hh_X11_due_0 M [x1.toInt, x2.toInt] [.ref 0, .int x1, .int x2] (scEk.c1 bx1 (scEk.c1 bx2 scEk.n0)) ⟨⟨0, by simp, rfl⟩, ⟨x1, rfl, scEv.at rfl⟩, ⟨x2, rfl, scEv.at rfl⟩, trivial⟩ (fun f hf => by cases hf) hI).imp (fun r M' h => by
  obtain ⟨⟨o, ho, hr, hf9, hm⟩, h1, h2⟩ := h
  rcases List.mem_cons.mp ho with rfl | ho
  · obtain ⟨n, rfl, c1, c2⟩ := hr; exact q0 n M' ⟨c1, c2⟩ h1 h2
  · cases ho)
theorem sm_due {M : fmM} {a0 a1 : Int32} (hI : scInv Tm invM M) : pvGood Tm 250 qX11_due [.ref 0, .int a0, .int a1] M (fun r M' => tI r ∧ scInv Tm invM M') := (wsm_due (scq_t a0) (scq_t a1) hI (fun n M' _ h1 _ => ⟨⟨n, rfl⟩, h1⟩)).up (by decide)
theorem wsm_news {M : fmM} {Q : fmR → fmM → Prop} {x1 : Int32} (bx1 : (-2147483648) ≤ x1.toInt ∧ x1.toInt ≤ 2147483647) (hI : scInv Tm invM M) (q0 : ∀ (n : Int32) (M' : fmM), ((-1) ≤ n.toInt ∧ n.toInt ≤ 60) → scInv Tm invM M' → scFr [(0, 0, 1), (2, 0, 1)] M M' → Q (.inl (some (.int n))) M') : pvGood Tm 2 qX11_news [.ref 0, .int x1] M Q := (hh_X11_news_0 M [x1.toInt] [.ref 0, .int x1] (scEk.c1 bx1 scEk.n0) ⟨⟨0, by simp, rfl⟩, ⟨x1, rfl, scEv.at rfl⟩, trivial⟩ (fun f hf => by cases hf) hI).imp (fun r M' h => by
  obtain ⟨⟨o, ho, hr, hf9, hm⟩, h1, h2⟩ := h
  rcases List.mem_cons.mp ho with rfl | ho
  · obtain ⟨n, rfl, c1, c2⟩ := hr; exact q0 n M' ⟨c1, c2⟩ h1 h2
  · cases ho)
theorem sm_news {M : fmM} {a0 : Int32} (hI : scInv Tm invM M) : pvGood Tm 250 qX11_news [.ref 0, .int a0] M (fun r M' => tI r ∧ scInv Tm invM M') := (wsm_news (scq_t a0) hI (fun n M' _ h1 _ => ⟨⟨n, rfl⟩, h1⟩)).up (by decide)
theorem wsm_expects {M : fmM} {Q : fmR → fmM → Prop} {x1 : Int32} (bx1 : (-2147483648) ≤ x1.toInt ∧ x1.toInt ≤ 2147483647) {x2 : Int32} (bx2 : (-2147483648) ≤ x2.toInt ∧ x2.toInt ≤ 2147483647) {x3 : Int32} (bx3 : (-2147483648) ≤ x3.toInt ∧ x3.toInt ≤ 2147483647) (hI : scInv Tm invM M) (q0 : ∀ (n : Int64) (M' : fmM), ((-9223372036854775808) ≤ n.toInt ∧ n.toInt ≤ 9223372036854775807) → scInv Tm invM M' → scFr [(0, 0, 1), (2, 0, 2), (5, 0, 160), (6, 0, 5)] M M' → Q (.inl (some (.long n))) M') : pvGood Tm 7 qX11_expects [.ref 0, .int x1, .int x2, .int x3] M Q := (hh_X11_expects_0 M [x1.toInt, x2.toInt, x3.toInt] [.ref 0, .int x1, .int x2, .int x3] (scEk.c1 bx1 (scEk.c1 bx2 (scEk.c1 bx3 scEk.n0))) ⟨⟨0, by simp, rfl⟩, ⟨x1, rfl, scEv.at rfl⟩, ⟨x2, rfl, scEv.at rfl⟩, ⟨x3, rfl, scEv.at rfl⟩, trivial⟩ (fun f hf => by cases hf) hI).imp (fun r M' h => by
  obtain ⟨⟨o, ho, hr, hf9, hm⟩, h1, h2⟩ := h
  rcases List.mem_cons.mp ho with rfl | ho
  · obtain ⟨n, rfl, c1, c2⟩ := hr; exact q0 n M' ⟨c1, c2⟩ h1 h2
  · cases ho)
theorem sm_expects {M : fmM} {a0 a1 a2 : Int32} (hI : scInv Tm invM M) : pvGood Tm 250 qX11_expects [.ref 0, .int a0, .int a1, .int a2] M (fun r M' => tJ r ∧ scInv Tm invM M') := (wsm_expects (scq_t a0) (scq_t a1) (scq_t a2) hI (fun n M' _ h1 _ => ⟨⟨n, rfl⟩, h1⟩)).up (by decide)
theorem wsm_worst {M : fmM} {Q : fmR → fmM → Prop}  (hI : scInv Tm invM M) (q0 : ∀ (n : Int32) (M' : fmM), (0 ≤ n.toInt ∧ n.toInt ≤ 2147483647) → scInv Tm invM M' → scFr [(0, 0, 1), (5, 0, 160), (6, 0, 5), (8, 0, 14)] M M' → Q (.inl (some (.int n))) M') : pvGood Tm 10 qX11_worst [.ref 0] M Q := (hh_X11_worst_0 M [] [.ref 0] scEk.n0 ⟨⟨0, by simp, rfl⟩, trivial⟩ (fun f hf => by cases hf) hI).imp (fun r M' h => by
  obtain ⟨⟨o, ho, hr, hf9, hm⟩, h1, h2⟩ := h
  rcases List.mem_cons.mp ho with rfl | ho
  · obtain ⟨n, rfl, c1, c2⟩ := hr; exact q0 n M' ⟨c1, c2⟩ h1 h2
  · cases ho)
theorem sm_worst {M : fmM} (hI : scInv Tm invM M) : pvGood Tm 250 qX11_worst [.ref 0] M (fun r M' => tI r ∧ scInv Tm invM M') := (wsm_worst  hI (fun n M' _ h1 _ => ⟨⟨n, rfl⟩, h1⟩)).up (by decide)
theorem wsm_years {M : fmM} {Q : fmR → fmM → Prop} {x1 : Int32} (bx1 : (-2147483648) ≤ x1.toInt ∧ x1.toInt ≤ 2147483647) {x2 : Int32} (bx2 : (-2147483648) ≤ x2.toInt ∧ x2.toInt ≤ 2147483647) {x3 : Int32} (bx3 : (-2147483648) ≤ x3.toInt ∧ x3.toInt ≤ 2147483647) (hI : scInv Tm invM M) (q0 : ∀ (n : Int32) (M' : fmM), ((-2147483648) ≤ n.toInt ∧ n.toInt ≤ 2147483647) → scInv Tm invM M' → scFr [(0, 0, 1), (0, 47, 2), (2, 1, 1), (5, 0, 160), (6, 0, 5), (8, 0, 14)] M M' → Q (.inl (some (.int n))) M') : pvGood Tm 13 qX11_years [.ref 0, .int x1, .int x2, .int x3] M Q := (hh_X11_years_0 M [x1.toInt, x2.toInt, x3.toInt] [.ref 0, .int x1, .int x2, .int x3] (scEk.c1 bx1 (scEk.c1 bx2 (scEk.c1 bx3 scEk.n0))) ⟨⟨0, by simp, rfl⟩, ⟨x1, rfl, scEv.at rfl⟩, ⟨x2, rfl, scEv.at rfl⟩, ⟨x3, rfl, scEv.at rfl⟩, trivial⟩ (fun f hf => by cases hf) hI).imp (fun r M' h => by
  obtain ⟨⟨o, ho, hr, hf9, hm⟩, h1, h2⟩ := h
  rcases List.mem_cons.mp ho with rfl | ho
  · obtain ⟨n, rfl, c1, c2⟩ := hr; exact q0 n M' ⟨c1, c2⟩ h1 h2
  · cases ho)
theorem sm_years {M : fmM} {a0 a1 a2 : Int32} (hI : scInv Tm invM M) : pvGood Tm 250 qX11_years [.ref 0, .int a0, .int a1, .int a2] M (fun r M' => tI r ∧ scInv Tm invM M') := (wsm_years (scq_t a0) (scq_t a1) (scq_t a2) hI (fun n M' _ h1 _ => ⟨⟨n, rfl⟩, h1⟩)).up (by decide)
theorem wsm_span {M : fmM} {Q : fmR → fmM → Prop} {x1 : Int32} (bx1 : (-2147483648) ≤ x1.toInt ∧ x1.toInt ≤ 2147483647) {x2 : Int32} (bx2 : (-2147483648) ≤ x2.toInt ∧ x2.toInt ≤ 2147483647) {x3 : Int32} (bx3 : (-2147483648) ≤ x3.toInt ∧ x3.toInt ≤ 2147483647) {x4 : Int32} (bx4 : (-2147483648) ≤ x4.toInt ∧ x4.toInt ≤ 2147483647) {x5 : Int32} (bx5 : (-2147483648) ≤ x5.toInt ∧ x5.toInt ≤ 2147483647) (hI : scInv Tm invM M) (q0 : ∀ (n : Int32) (M' : fmM), ((-2147483648) ≤ n.toInt ∧ n.toInt ≤ 2147483647) → scInv Tm invM M' → scFr [(0, 0, 1), (0, 47, 2), (2, 1, 1), (5, 0, 160), (6, 0, 5), (8, 0, 14)] M M' → Q (.inl (some (.int n))) M') : pvGood Tm 13 qX11_span [.ref 0, .int x1, .int x2, .int x3, .int x4, .int x5] M Q := (hh_X11_span_0 M [x1.toInt, x2.toInt, x3.toInt, x4.toInt, x5.toInt] [.ref 0, .int x1, .int x2, .int x3, .int x4, .int x5] (scEk.c1 bx1 (scEk.c1 bx2 (scEk.c1 bx3 (scEk.c1 bx4 (scEk.c1 bx5 scEk.n0))))) ⟨⟨0, by simp, rfl⟩, ⟨x1, rfl, scEv.at rfl⟩, ⟨x2, rfl, scEv.at rfl⟩, ⟨x3, rfl, scEv.at rfl⟩, ⟨x4, rfl, scEv.at rfl⟩, ⟨x5, rfl, scEv.at rfl⟩, trivial⟩ (fun f hf => by cases hf) hI).imp (fun r M' h => by
  obtain ⟨⟨o, ho, hr, hf9, hm⟩, h1, h2⟩ := h
  rcases List.mem_cons.mp ho with rfl | ho
  · obtain ⟨n, rfl, c1, c2⟩ := hr; exact q0 n M' ⟨c1, c2⟩ h1 h2
  · cases ho)
theorem sm_span {M : fmM} {a0 a1 a2 a3 a4 : Int32} (hI : scInv Tm invM M) : pvGood Tm 250 qX11_span [.ref 0, .int a0, .int a1, .int a2, .int a3, .int a4] M (fun r M' => tI r ∧ scInv Tm invM M') := (wsm_span (scq_t a0) (scq_t a1) (scq_t a2) (scq_t a3) (scq_t a4) hI (fun n M' _ h1 _ => ⟨⟨n, rfl⟩, h1⟩)).up (by decide)
theorem wsm_image {M : fmM} {Q : fmR → fmM → Prop}  (hI : scInv Tm invM M) (q0 : ∀ (n : Int32) (M' : fmM), ((-1) ≤ n.toInt ∧ n.toInt ≤ 3) → scInv Tm invM M' → scFr [(0, 0, 1), (0, 32, 1), (0, 34, 2), (7, 0, 14), (503, 0, 14), (504, 0, 14), (505, 0, 14), (506, 0, 14), (507, 0, 14), (508, 0, 14), (509, 0, 14), (510, 0, 14), (511, 0, 14), (512, 0, 14), (513, 0, 14), (514, 0, 14), (515, 0, 14), (516, 0, 14), (517, 0, 14), (518, 0, 14), (519, 0, 239), (520, 0, 239), (521, 0, 239)] M M' → Q (.inl (some (.int n))) M') : pvGood Tm 2 qX11_image [.ref 0] M Q := (hh_X11_image_0 M [] [.ref 0] scEk.n0 ⟨⟨0, by simp, rfl⟩, trivial⟩ (fun f hf => by cases hf) hI).imp (fun r M' h => by
  obtain ⟨⟨o, ho, hr, hf9, hm⟩, h1, h2⟩ := h
  rcases List.mem_cons.mp ho with rfl | ho
  · obtain ⟨n, rfl, c1, c2⟩ := hr; exact q0 n M' ⟨c1, c2⟩ h1 h2
  · cases ho)
theorem sm_image {M : fmM} (hI : scInv Tm invM M) : pvGood Tm 250 qX11_image [.ref 0] M (fun r M' => tI r ∧ scInv Tm invM M') := (wsm_image  hI (fun n M' _ h1 _ => ⟨⟨n, rfl⟩, h1⟩)).up (by decide)
theorem wsm_restore {M : fmM} {Q : fmR → fmM → Prop}  (hI : scInv Tm invM M) (q0 : ∀ (n : Int32) (M' : fmM), ((-1) ≤ n.toInt ∧ n.toInt ≤ 2) → scInv Tm invM M' → scFr [(0, 0, 1), (0, 32, 4), (7, 0, 14), (503, 0, 14), (504, 0, 14), (505, 0, 14), (506, 0, 14), (507, 0, 14), (508, 0, 14), (509, 0, 14), (510, 0, 14), (511, 0, 14), (512, 0, 14), (513, 0, 14), (514, 0, 14), (515, 0, 14), (516, 0, 14), (517, 0, 14), (518, 0, 14)] M M' → Q (.inl (some (.int n))) M') : pvGood Tm 2 qX11_restore [.ref 0] M Q := (hh_X11_restore_0 M [] [.ref 0] scEk.n0 ⟨⟨0, by simp, rfl⟩, trivial⟩ (fun f hf => by cases hf) hI).imp (fun r M' h => by
  obtain ⟨⟨o, ho, hr, hf9, hm⟩, h1, h2⟩ := h
  rcases List.mem_cons.mp ho with rfl | ho
  · obtain ⟨n, rfl, c1, c2⟩ := hr; exact q0 n M' ⟨c1, c2⟩ h1 h2
  · cases ho)
theorem sm_restore {M : fmM} (hI : scInv Tm invM M) : pvGood Tm 250 qX11_restore [.ref 0] M (fun r M' => tI r ∧ scInv Tm invM M') := (wsm_restore  hI (fun n M' _ h1 _ => ⟨⟨n, rfl⟩, h1⟩)).up (by decide)
theorem wsm_status {M : fmM} {Q : fmR → fmM → Prop} {x1 : Int32} (bx1 : (-2147483648) ≤ x1.toInt ∧ x1.toInt ≤ 2147483647) (hI : scInv Tm invM M) (q0 : ∀ (n : Int32) (M' : fmM), ((-2147483648) ≤ n.toInt ∧ n.toInt ≤ 2147483647) → scInv Tm invM M' → scFr [(0, 0, 1)] M M' → Q (.inl (some (.int n))) M') : pvGood Tm 1 qX11_status [.ref 0, .int x1] M Q := (hh_X11_status_0 M [x1.toInt] [.ref 0, .int x1] (scEk.c1 bx1 scEk.n0) ⟨⟨0, by simp, rfl⟩, ⟨x1, rfl, scEv.at rfl⟩, trivial⟩ (fun f hf => by cases hf) hI).imp (fun r M' h => by
  obtain ⟨⟨o, ho, hr, hf9, hm⟩, h1, h2⟩ := h
  rcases List.mem_cons.mp ho with rfl | ho
  · obtain ⟨n, rfl, c1, c2⟩ := hr; exact q0 n M' ⟨c1, c2⟩ h1 h2
  · cases ho)
theorem sm_status {M : fmM} {a0 : Int32} (hI : scInv Tm invM M) : pvGood Tm 250 qX11_status [.ref 0, .int a0] M (fun r M' => tI r ∧ scInv Tm invM M') := (wsm_status (scq_t a0) hI (fun n M' _ h1 _ => ⟨⟨n, rfl⟩, h1⟩)).up (by decide)
theorem wsm_count {M : fmM} {Q : fmR → fmM → Prop} {x1 : Int32} (bx1 : (-2147483648) ≤ x1.toInt ∧ x1.toInt ≤ 2147483647) (hI : scInv Tm invM M) (q0 : ∀ (n : Int32) (M' : fmM), ((-1) ≤ n.toInt ∧ n.toInt ≤ 600) → scInv Tm invM M' → scFr [(0, 0, 1)] M M' → Q (.inl (some (.int n))) M') : pvGood Tm 0 qX11_count [.ref 0, .int x1] M Q := (hh_X11_count_0 M [x1.toInt] [.ref 0, .int x1] (scEk.c1 bx1 scEk.n0) ⟨⟨0, by simp, rfl⟩, ⟨x1, rfl, scEv.at rfl⟩, trivial⟩ (fun f hf => by cases hf) hI).imp (fun r M' h => by
  obtain ⟨⟨o, ho, hr, hf9, hm⟩, h1, h2⟩ := h
  rcases List.mem_cons.mp ho with rfl | ho
  · obtain ⟨n, rfl, c1, c2⟩ := hr; exact q0 n M' ⟨c1, c2⟩ h1 h2
  · cases ho)
theorem sm_count {M : fmM} {a0 : Int32} (hI : scInv Tm invM M) : pvGood Tm 250 qX11_count [.ref 0, .int a0] M (fun r M' => tI r ∧ scInv Tm invM M') := (wsm_count (scq_t a0) hI (fun n M' _ h1 _ => ⟨⟨n, rfl⟩, h1⟩)).up (by decide)
