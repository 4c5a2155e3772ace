theorem scEk.n0 : scEk [] [] := ⟨rfl, fun n e x he hx => by cases he⟩
theorem scEk.c1 {env : List scI} {σ : List Int} {lo hi x : Int} (hb : lo ≤ x ∧ x ≤ hi) (h : scEk env σ) : scEk ((lo, hi) :: env) (x :: σ) := ⟨by simp [h.1], fun n e y he hy => by
  cases n with
  | zero =>
    cases he
    cases hy
    exact hb
  | succ n => exact h.2 n e y he hy⟩
theorem scEv.at {σ : List Int} {i : Nat} {x : Int} (h : σ[i]? = some x) : scEv σ (some i, 0) x := ⟨x, h, (Int.add_zero x).symm⟩
theorem s_peek {M : fmM} {Q : fmR → fmM → Prop}  (hI : scInv Tx invX M) (q0 : ∀ (n : Int32) (M' : fmM), (0 ≤ n.toInt ∧ n.toInt ≤ 255) → (0 ≤ (M'.1 1 3).toInt ∧ (M'.1 1 3).toInt ≤ 599) → scInv Tx invX M' → scFr [(1, 3, 1)] M M' → Q (.inl (some (.int n))) M') (q1 : ∀ (n : Int32) (M' : fmM), ((-1) ≤ n.toInt ∧ n.toInt ≤ (-1)) → (0 ≤ (M'.1 1 3).toInt ∧ (M'.1 1 3).toInt ≤ 600) → scInv Tx invX M' → scFr [(1, 3, 1)] M M' → Q (.inl (some (.int n))) M') : pvGood Tx 0 qX7_peek [.ref 1] M Q := (hh_X7_peek_0 M [] [.ref 1] scEk.n0 ⟨⟨1, by simp, rfl⟩, trivial⟩ (fun f hf => by cases hf) hI).imp (fun r M' h => by
  obtain ⟨⟨o, ho, hr, hf9, hm⟩, h1, h2⟩ := h
  rcases List.mem_cons.mp ho with rfl | ho
  · obtain ⟨n, rfl, c1, c2⟩ := hr; exact q0 n M' ⟨c1, c2⟩ (hm _ List.mem_cons_self) h1 h2
  rcases List.mem_cons.mp ho with rfl | ho
  · obtain ⟨n, rfl, c1, c2⟩ := hr; exact q1 n M' ⟨c1, c2⟩ (hm _ List.mem_cons_self) h1 h2
  · cases ho)
theorem s_next {M : fmM} {Q : fmR → fmM → Prop}  (hI : scInv Tx invX M) (q0 : ∀ (n : Int32) (M' : fmM), (0 ≤ n.toInt ∧ n.toInt ≤ 600) → scInv Tx invX M' → scFr [(1, 3, 1)] M M' → Q (.inl (some (.int n))) M') : pvGood Tx 1 qX7_nextPlace [.ref 1] M Q := (hh_X7_nextPlace_0 M [] [.ref 1] scEk.n0 ⟨⟨1, by simp, rfl⟩, trivial⟩ (fun f hf => by cases hf) hI).imp (fun r M' h => by
  obtain ⟨⟨o, ho, hr, hf9, hm⟩, h1, h2⟩ := h
  rcases List.mem_cons.mp ho with rfl | ho
  · obtain ⟨n, rfl, c1, c2⟩ := hr; exact q0 n M' ⟨c1, c2⟩ h1 h2
  · cases ho)
theorem s_sign59 {M : fmM} {Q : fmR → fmM → Prop} {x1 : Int32} (bx1 : 59 ≤ x1.toInt ∧ x1.toInt ≤ 59) (hI : scInv Tx invX M) (q0 : ∀ (n : Int32) (M' : fmM), (0 ≤ n.toInt ∧ n.toInt ≤ 1) → scInv Tx invX M' → scFr [(1, 3, 3)] M M' → Q (.inl (some (.int n))) M') : pvGood Tx 1 qX7_takeSign [.ref 1, .int x1] M Q := (hh_X7_takeSign_0 M [x1.toInt] [.ref 1, .int x1] (scEk.c1 bx1 scEk.n0) ⟨⟨1, by simp, rfl⟩, ⟨x1, rfl, scEv.at rfl⟩, trivial⟩ (fun f hf => by cases hf) hI).imp (fun r M' h => by
  obtain ⟨⟨o, ho, hr, hf9, hm⟩, h1, h2⟩ := h
  rcases List.mem_cons.mp ho with rfl | ho
  · obtain ⟨n, rfl, c1, c2⟩ := hr; exact q0 n M' ⟨c1, c2⟩ h1 h2
  · cases ho)
theorem s_sign9 {M : fmM} {Q : fmR → fmM → Prop} {x1 : Int32} (bx1 : 80 ≤ x1.toInt ∧ x1.toInt ≤ 99) (hI : scInv Tx invX M) (q0 : ∀ (n : Int32) (M' : fmM), (0 ≤ n.toInt ∧ n.toInt ≤ 1) → scInv Tx invX M' → scFr [(1, 3, 3)] M M' → Q (.inl (some (.int n))) M') : pvGood Tx 1 qX7_takeSign [.ref 1, .int x1] M Q := (hh_X7_takeSign_1 M [x1.toInt] [.ref 1, .int x1] (scEk.c1 bx1 scEk.n0) ⟨⟨1, by simp, rfl⟩, ⟨x1, rfl, scEv.at rfl⟩, trivial⟩ (fun f hf => by cases hf) hI).imp (fun r M' h => by
  obtain ⟨⟨o, ho, hr, hf9, hm⟩, h1, h2⟩ := h
  rcases List.mem_cons.mp ho with rfl | ho
  · obtain ⟨n, rfl, c1, c2⟩ := hr; exact q0 n M' ⟨c1, c2⟩ h1 h2
  · cases ho)
theorem s_num7 {M : fmM} {Q : fmR → fmM → Prop} {x1 : Int32} (bx1 : 0 ≤ x1.toInt ∧ x1.toInt ≤ 0) {x2 : Int32} (bx2 : (-1) ≤ x2.toInt ∧ x2.toInt ≤ 7) (hI : scInv Tx invX M) (q0 : ∀ (n : Int32) (M' : fmM), (0 ≤ n.toInt ∧ n.toInt ≤ 7) → (0 ≤ (M'.1 1 4).toInt ∧ (M'.1 1 4).toInt ≤ 3) → scInv Tx invX M' → scFr [(1, 3, 3)] M M' → Q (.inl (some (.int n))) M') (q1 : ∀ (n : Int32) (M' : fmM), ((-1) ≤ n.toInt ∧ n.toInt ≤ (-1)) → (1 ≤ (M'.1 1 4).toInt ∧ (M'.1 1 4).toInt ≤ 3) → scInv Tx invX M' → scFr [(1, 3, 3)] M M' → Q (.inl (some (.int n))) M') : pvGood Tx 2 qX7_takeNumber [.ref 1, .int x1, .int x2] M Q := (hh_X7_takeNumber_7 M [x1.toInt, x2.toInt, (M.1 1 4).toInt] [.ref 1, .int x1, .int x2] (scEk.c1 bx1 (scEk.c1 bx2 (scEk.c1 (hI.1 1 4 (by decide)) scEk.n0))) ⟨⟨1, by simp, rfl⟩, ⟨x1, rfl, scEv.at rfl⟩, ⟨x2, rfl, scEv.at rfl⟩, trivial⟩ (fun f hf => by rw [List.mem_singleton.mp hf]; exact scEv.at rfl) hI).imp (fun r M' h => by
  obtain ⟨⟨o, ho, hr, hf9, hm⟩, h1, h2⟩ := h
  rcases List.mem_cons.mp ho with rfl | ho
  · obtain ⟨n, rfl, c1, c2⟩ := hr; exact q0 n M' ⟨c1, c2⟩ (hm _ List.mem_cons_self) h1 h2
  rcases List.mem_cons.mp ho with rfl | ho
  · obtain ⟨n, rfl, c1, c2⟩ := hr; exact q1 n M' ⟨c1, c2⟩ (hm _ List.mem_cons_self) h1 h2
  · cases ho)
theorem s_num20 {M : fmM} {Q : fmR → fmM → Prop} {x1 : Int32} (bx1 : 0 ≤ x1.toInt ∧ x1.toInt ≤ 0) {x2 : Int32} (bx2 : 20 ≤ x2.toInt ∧ x2.toInt ≤ 20) (hI : scInv Tx invX M) (q0 : ∀ (n : Int32) (M' : fmM), (0 ≤ n.toInt ∧ n.toInt ≤ 20) → (0 ≤ (M'.1 1 4).toInt ∧ (M'.1 1 4).toInt ≤ 3) → scInv Tx invX M' → scFr [(1, 3, 3)] M M' → Q (.inl (some (.int n))) M') (q1 : ∀ (n : Int32) (M' : fmM), ((-1) ≤ n.toInt ∧ n.toInt ≤ (-1)) → (1 ≤ (M'.1 1 4).toInt ∧ (M'.1 1 4).toInt ≤ 3) → scInv Tx invX M' → scFr [(1, 3, 3)] M M' → Q (.inl (some (.int n))) M') : pvGood Tx 2 qX7_takeNumber [.ref 1, .int x1, .int x2] M Q := (hh_X7_takeNumber_21 M [x1.toInt, x2.toInt, (M.1 1 4).toInt] [.ref 1, .int x1, .int x2] (scEk.c1 bx1 (scEk.c1 bx2 (scEk.c1 (hI.1 1 4 (by decide)) scEk.n0))) ⟨⟨1, by simp, rfl⟩, ⟨x1, rfl, scEv.at rfl⟩, ⟨x2, rfl, scEv.at rfl⟩, trivial⟩ (fun f hf => by rw [List.mem_singleton.mp hf]; exact scEv.at rfl) hI).imp (fun r M' h => by
  obtain ⟨⟨o, ho, hr, hf9, hm⟩, h1, h2⟩ := h
  rcases List.mem_cons.mp ho with rfl | ho
  · obtain ⟨n, rfl, c1, c2⟩ := hr; exact q0 n M' ⟨c1, c2⟩ (hm _ List.mem_cons_self) h1 h2
  rcases List.mem_cons.mp ho with rfl | ho
  · obtain ⟨n, rfl, c1, c2⟩ := hr; exact q1 n M' ⟨c1, c2⟩ (hm _ List.mem_cons_self) h1 h2
  · cases ho)
theorem s_failed {M : fmM} {Q : fmR → fmM → Prop}  (hI : scInv Tx invX M) (q0 : ∀ (n : Int32) (M' : fmM), (0 ≤ n.toInt ∧ n.toInt ≤ 0) → (0 ≤ (M'.1 1 4).toInt ∧ (M'.1 1 4).toInt ≤ 0) → scInv Tx invX M' → scFr [] M M' → Q (.inl (some (.int n))) M') (q1 : ∀ (n : Int32) (M' : fmM), (1 ≤ n.toInt ∧ n.toInt ≤ 1) → (1 ≤ (M'.1 1 4).toInt ∧ (M'.1 1 4).toInt ≤ 3) → scInv Tx invX M' → scFr [] M M' → Q (.inl (some (.int n))) M') : pvGood Tx 0 qX7_failed [.ref 1] M Q := (hh_X7_failed_1 M [(M.1 1 4).toInt] [.ref 1] (scEk.c1 (hI.1 1 4 (by decide)) scEk.n0) ⟨⟨1, by simp, rfl⟩, trivial⟩ (fun f hf => by rw [List.mem_singleton.mp hf]; exact scEv.at rfl) hI).imp (fun r M' h => by
  obtain ⟨⟨o, ho, hr, hf9, hm⟩, h1, h2⟩ := h
  rcases List.mem_cons.mp ho with rfl | ho
  · obtain ⟨n, rfl, c1, c2⟩ := hr; exact q0 n M' ⟨c1, c2⟩ (hm _ List.mem_cons_self) h1 h2
  rcases List.mem_cons.mp ho with rfl | ho
  · obtain ⟨n, rfl, c1, c2⟩ := hr; exact q1 n M' ⟨c1, c2⟩ (hm _ List.mem_cons_self) h1 h2
  · cases ho)
theorem s_fail3 {M : fmM} {Q : fmR → fmM → Prop} {x1 : Int32} (bx1 : 3 ≤ x1.toInt ∧ x1.toInt ≤ 3) {x2 : Int32} (bx2 : 0 ≤ x2.toInt ∧ x2.toInt ≤ 600) (hI : scInv Tx invX M) (q0 : ∀ (n : Int32) (M' : fmM), (0 ≤ n.toInt ∧ n.toInt ≤ 0) → (1 ≤ (M'.1 1 4).toInt ∧ (M'.1 1 4).toInt ≤ 3) → scInv Tx invX M' → scFr [(1, 4, 2)] M M' → Q (.inl (some (.int n))) M') : pvGood Tx 0 qX7_fail [.ref 1, .int x1, .int x2] M Q := (hh_X7_fail_4 M [x1.toInt, x2.toInt, (M.1 1 4).toInt] [.ref 1, .int x1, .int x2] (scEk.c1 bx1 (scEk.c1 bx2 (scEk.c1 (hI.1 1 4 (by decide)) scEk.n0))) ⟨⟨1, by simp, rfl⟩, ⟨x1, rfl, scEv.at rfl⟩, ⟨x2, rfl, scEv.at rfl⟩, trivial⟩ (fun f hf => by rw [List.mem_singleton.mp hf]; exact scEv.at rfl) hI).imp (fun r M' h => by
  obtain ⟨⟨o, ho, hr, hf9, hm⟩, h1, h2⟩ := h
  rcases List.mem_cons.mp ho with rfl | ho
  · obtain ⟨n, rfl, c1, c2⟩ := hr; exact q0 n M' ⟨c1, c2⟩ (hm _ List.mem_cons_self) h1 h2
  · cases ho)
theorem s_word {M : fmM} {Q : fmR → fmM → Prop}  (hI : scInv Tx invX M) (q0 : ∀ (n : Int32) (M' : fmM), ((-1) ≤ n.toInt ∧ n.toInt ≤ 4) → scInv Tx invX M' → scFr [(1, 3, 3)] M M' → Q (.inl (some (.int n))) M') : pvGood Tx 5 qX7_takeWord [.ref 1, .ref (1000 + 4)] M Q := (hh_X7_takeWord_2 M [] [.ref 1, .ref (1000 + 4)] scEk.n0 ⟨⟨1, by simp, rfl⟩, rfl, trivial⟩ (fun f hf => by cases hf) hI).imp (fun r M' h => by
  obtain ⟨⟨o, ho, hr, hf9, hm⟩, h1, h2⟩ := h
  rcases List.mem_cons.mp ho with rfl | ho
  · obtain ⟨n, rfl, c1, c2⟩ := hr; exact q0 n M' ⟨c1, c2⟩ h1 h2
  · cases ho)
theorem s_pstep {M : fmM} {Q : fmR → fmM → Prop} {x2 : Int32} (bx2 : 0 ≤ x2.toInt ∧ x2.toInt ≤ 7) {x3 : Int32} (bx3 : 0 ≤ x3.toInt ∧ x3.toInt ≤ 7) (hI : scInv Tx invX M) (q0 : ∀ (n : Int32) (M' : fmM), (0 ≤ n.toInt ∧ n.toInt ≤ 1) → scInv Tx invX M' → scFr [(26, 0, 24), (47, 1, 6), (48, 0, 8)] M M' → Q (.inl (some (.int n))) M') : pvGood Tx 5 qX9_performStep [.ref 32, .ref 47, .int x2, .int x3] M Q := (hh_X9_performStep_0 M [x2.toInt, x3.toInt] [.ref 32, .ref 47, .int x2, .int x3] (scEk.c1 bx2 (scEk.c1 bx3 scEk.n0)) ⟨⟨32, by simp, rfl⟩, ⟨47, by simp, rfl⟩, ⟨x2, rfl, scEv.at rfl⟩, ⟨x3, rfl, scEv.at rfl⟩, trivial⟩ (fun f hf => by cases hf) hI).imp (fun r M' h => by
  obtain ⟨⟨o, ho, hr, hf9, hm⟩, h1, h2⟩ := h
  rcases List.mem_cons.mp ho with rfl | ho
  · obtain ⟨n, rfl, c1, c2⟩ := hr; exact q0 n M' ⟨c1, c2⟩ h1 h2
  · cases ho)
theorem s_keepx {M : fmM} {Q : fmR → fmM → Prop}  (hI : scInv Tx invX M) (q0 : ∀ M' : fmM, scInv Tx invX M' → scFr [(46, 2, 1), (50, 1, 6), (51, 1, 6), (52, 1, 6), (53, 1, 6), (54, 1, 6), (55, 1, 6), (56, 1, 6), (57, 1, 6), (58, 1, 6), (59, 1, 6), (60, 1, 6), (61, 1, 6), (62, 1, 6), (63, 1, 6), (64, 1, 6), (65, 1, 6), (66, 0, 8), (67, 0, 8), (68, 0, 8), (69, 0, 8), (70, 0, 8), (71, 0, 8), (72, 0, 8), (73, 0, 8), (74, 0, 8), (75, 0, 8), (76, 0, 8), (77, 0, 8), (78, 0, 8), (79, 0, 8), (80, 0, 8), (81, 0, 8)] M M' → Q (.inl none) M') : pvGood Tx 1 qX5_keep [.ref 46] M Q := (hh_X5_keep_0 M [] [.ref 46] scEk.n0 ⟨⟨46, by simp, rfl⟩, trivial⟩ (fun f hf => by cases hf) hI).imp (fun r M' h => by
  obtain ⟨⟨o, ho, hr, hf9, hm⟩, h1, h2⟩ := h
  rcases List.mem_cons.mp ho with rfl | ho
  · have hr : r = .inl none := hr; subst hr; exact q0 M' h1 h2
  · cases ho)
theorem s_open {M : fmM} {Q : fmR → fmM → Prop} {x1 : Int32} (bx1 : (-2147483648) ≤ x1.toInt ∧ x1.toInt ≤ 2147483647) {x2 : Int32} (bx2 : (-2147483648) ≤ x2.toInt ∧ x2.toInt ≤ 2147483647) (hI : scInv Tx invX M) (q0 : ∀ M' : fmM, scInv Tx invX M' → scFr [(0, 16, 1), (1, 1, 5)] M M' → Q (.inl none) M') (q1 : ∀ M' : fmM, scInv Tx invX M' → scFr [(0, 16, 1), (1, 1, 5)] M M' → Q (.inr fmIAE) M') : pvGood Tx 1 qX10_openText [.ref 0, .int x1, .int x2] M Q := (hh_X10_openText_0 M [x1.toInt, x2.toInt] [.ref 0, .int x1, .int x2] (scEk.c1 bx1 (scEk.c1 bx2 scEk.n0)) ⟨⟨0, by simp, rfl⟩, ⟨x1, rfl, scEv.at rfl⟩, ⟨x2, rfl, scEv.at rfl⟩, trivial⟩ (fun f hf => by cases hf) hI).imp (fun r M' h => by
  obtain ⟨⟨o, ho, hr, hf9, hm⟩, h1, h2⟩ := h
  rcases List.mem_cons.mp ho with rfl | ho
  · have hr : r = .inl none := hr; subst hr; exact q0 M' h1 h2
  rcases List.mem_cons.mp ho with rfl | ho
  · have hr : r = .inr fmIAE := hr; subst hr; exact q1 M' h1 h2
  · cases ho)
theorem s_forget {M : fmM} {Q : fmR → fmM → Prop}  (hI : scInv Tx invX M) (q0 : ∀ M' : fmM, scInv Tx invX M' → scFr [(34, 5, 1)] M M' → Q (.inl none) M') : pvGood Tx 0 qX3_forget [.ref 34] M Q := (hh_X3_forget_0 M [] [.ref 34] scEk.n0 ⟨⟨34, by simp, rfl⟩, trivial⟩ (fun f hf => by cases hf) hI).imp (fun r M' h => by
  obtain ⟨⟨o, ho, hr, hf9, hm⟩, h1, h2⟩ := h
  rcases List.mem_cons.mp ho with rfl | ho
  · have hr : r = .inl none := hr; subst hr; exact q0 M' h1 h2
  · cases ho)
-- THE CLASS WORKS: safe whatever is read
abbrev xrW : List (Nat × Nat × Nat) := [(1, 3, 3), (28, 3, 1), (29, 0, 150), (30, 0, 150), (31, 0, 150)]
abbrev pfW : List (Nat × Nat × Nat) := [(26, 0, 24), (28, 4, 3), (47, 1, 6), (48, 0, 8)]
theorem xInv.put {M : fmM} {k j : Nat} {x : Int32} (hI : scInv Tx invX M) (hb : (scAt (invX k) j).1 ≤ x.toInt ∧ x.toInt ≤ (scAt (invX k) j).2) : scInv Tx invX (fmI M k j x) := by
  refine ⟨fun k' j' hj => ?_, fun hm => absurd hm (by decide)⟩
  rw [fmI_at]
  by_cases e : k' = k ∧ j' = j
  · rw [if_pos e, e.1, e.2]
    exact hb
  · rw [if_neg e]
    exact hI.1 k' j' hj
theorem xi_29 (j : Nat) : scAt (invX 29) j = (0, 4) := rfl
theorem xi_30 (j : Nat) : scAt (invX 30) j = (-1, 20) := rfl
theorem xi_31 (j : Nat) : scAt (invX 31) j = (0, 150) := rfl
def xE (M : fmM) (i z : Nat) : Prop := ((M.1 29 i).toInt = 4 → (M.1 31 i).toInt ≤ (z : Int)) ∧ (¬ (M.1 29 i).toInt = 4 → 0 ≤ (M.1 30 i).toInt ∧ (M.1 30 i).toInt ≤ 7)
def xS (M : fmM) (a z : Nat) : Prop := ∀ i, a ≤ i → i < z → xE M i z
def xK (M M' : fmM) (z : Nat) : Prop := ∀ k i, k = 29 ∨ k = 30 ∨ k = 31 → i < z → M'.1 k i = M.1 k i
def xT (M M' : fmM) : Prop := ∀ k j, k ≠ 1 → M'.1 k j = M.1 k j
def xR (M M' : fmM) (z : Nat) : Prop := ∃ z' : Nat, (M'.1 28 3).toInt = (z' : Int) ∧ z ≤ z' ∧ z' ≤ 150 ∧ xK M M' z ∧ xS M' z z'
theorem xT.of3 {M M' : fmM} (h : scFr [(1, 3, 3)] M M') : xT M M' := fun k j hk => (h k j (by
  have e : ((1 : Nat) == k) = false := by
    rw [beq_eq_false_iff_ne]
    omega
  simp [scIn, e])).1
theorem xT.of1 {M M' : fmM} (h : scFr [(1, 3, 1)] M M') : xT M M' := fun k j hk => (h k j (by
  have e : ((1 : Nat) == k) = false := by
    rw [beq_eq_false_iff_ne]
    omega
  simp [scIn, e])).1
theorem xT.trans {M M1 M2 : fmM} (h : xT M M1) (h' : xT M1 M2) : xT M M2 := fun k j hk => (h' k j hk).trans (h k j hk)
theorem xT.refl (M : fmM) : xT M M := fun _ _ _ => rfl
theorem xE.up {M M' : fmM} {i z z' : Nat} (h : xE M i z) (hz : z ≤ z') (e : ∀ k, k = 29 ∨ k = 30 ∨ k = 31 → M'.1 k i = M.1 k i) : xE M' i z' := by
  unfold xE at h ⊢
  rw [e 29 (by omega), e 30 (by omega), e 31 (by omega)]
  exact ⟨fun h9 => by have := h.1 h9; omega, h.2⟩
theorem xR.nil {M M' : fmM} {z : Nat} (hz : (M.1 28 3).toInt = (z : Int)) (h150 : z ≤ 150) (h : xT M M') : xR M M' z := ⟨z, (by rw [h 28 3 (by decide)]; exact hz), Nat.le_refl _, h150, fun k i hk _ => h k i (by omega), fun i h1 h2 => by omega⟩
theorem xR.pre {M0 M M' : fmM} {z : Nat} (h : xT M0 M) (h' : xR M M' z) : xR M0 M' z := by
  obtain ⟨z', a, b, c, d, e⟩ := h'
  exact ⟨z', a, b, c, fun k i hk hi => (d k i hk hi).trans (h k i (by omega)), e⟩
theorem xR.post {M M' M2 : fmM} {z : Nat} (h' : xR M M' z) (h : xT M' M2) : xR M M2 z := by
  obtain ⟨z', a, b, c, d, e⟩ := h'
  exact ⟨z', (by rw [h 28 3 (by decide)]; exact a), b, c, fun k i hk hi => (h k i (by omega)).trans (d k i hk hi), fun i h1 h2 => (e i h1 h2).up (Nat.le_refl _) (fun k hk => h k i (by omega))⟩
theorem xR.seq {M M1 M2 : fmM} {z z1 : Nat} (h : xR M M1 z) (hz : (M1.1 28 3).toInt = (z1 : Int)) (h' : xR M1 M2 z1) : xR M M2 z := by
  obtain ⟨z', a, b, c, d, e⟩ := h
  have ez : z' = z1 := by omega
  subst ez
  obtain ⟨z2, a2, b2, c2, d2, e2⟩ := h'
  refine ⟨z2, a2, by omega, c2, fun k i hk hi => (d2 k i hk (by omega)).trans (d k i hk hi), fun i h1 h2 => ?_⟩
  by_cases hi : i < z'
  · exact (e i h1 hi).up b2 (fun k hk => d2 k i hk hi)
  · exact e2 i (by omega) h2
theorem xR.sz {M M1 : fmM} {z : Nat} (h : xR M M1 z) : ∃ z1 : Nat, (M1.1 28 3).toInt = (z1 : Int) ∧ z1 ≤ 150 := by
  obtain ⟨z', a, b, c, d, e⟩ := h
  exact ⟨z', a, c⟩
/-- one step is put down -/
def stpM (M : fmM) (w : Int32) (z : Nat) : fmM := fmI (fmI M 28 3 (M.1 28 3 + 1)) 29 z w
theorem stpM_k {M : fmM} {w : Int32} {z k i : Nat} (hk : k = 29 ∨ k = 30 ∨ k = 31) (hi : i ≠ z) : (stpM M w z).1 k i = M.1 k i := by
  unfold stpM
  rw [fmI_at, if_neg (fun h => hi h.2), fmI_k _ _ (by omega)]
theorem stpM_inv {M : fmM} {w : Int32} {z : Nat} (hI : scInv Tx invX M) (hz : (M.1 28 3).toInt = (z : Int)) (hz2 : z < 150) (hw : 0 ≤ w.toInt ∧ w.toInt ≤ 4) : scInv Tx invX (stpM M w z) := by
  have h1 := i32_p1 hz (by omega)
  refine xInv.put (xInv.put hI ⟨?_, ?_⟩) ?_
  · show (0 : Int) ≤ _
    omega
  · show _ ≤ (150 : Int)
    omega
  · rw [xi_29]
    exact hw
theorem in_xr {k z : Nat} (hk : k = 29 ∨ k = 30 ∨ k = 31) (hz : z < 150) : scIn xrW k z = true := by
  rcases hk with rfl | rfl | rfl <;> simp [scIn] <;> omega
theorem stpM_fr {M0 M : fmM} {w : Int32} {z : Nat} (h : scFr xrW M0 M) (hz2 : z < 150) : scFr xrW M0 (stpM M w z) := scFr.toI (scFr.toI h rfl) (in_xr (Or.inl rfl) hz2)
/-- a step with its number -/
theorem xR.one {M M1 M2 M3 : fmM} {w v : Int32} {z : Nat} (hw : ¬ w = 4) (h : xT M M1) (hz : (M1.1 28 3).toInt = (z : Int)) (hz2 : z < 150) (h2 : xT (stpM M1 w z) M2) (hv : 0 ≤ v.toInt ∧ v.toInt ≤ 7) (h3 : xT (fmI M2 30 z v) M3) : xR M M3 z := by
  have e : ∀ k i, k ≠ 1 → M3.1 k i = if k = 30 ∧ i = z then v else (stpM M1 w z).1 k i := fun k i hk => by
    rw [h3 k i hk, fmI_at, h2 k i hk]
  refine ⟨z + 1, ?_, by omega, by omega, fun k i hk hi => ?_, fun i h1 h9 => ?_⟩
  · rw [e 28 3 (by decide), if_neg (by omega)]
    unfold stpM
    rw [fmI_k _ _ (by decide), fmI_s]
    exact i32_p1 hz (by omega)
  · rw [e k i (by omega), if_neg (by omega), stpM_k hk (by omega)]
    exact h k i (by omega)
  · have ei : i = z := by omega
    subst ei
    have e29 : M3.1 29 i = w := by
      rw [e 29 i (by decide), if_neg (by omega)]
      exact fmI_s _ _ _ _
    refine ⟨fun h8 => absurd (i32_ext ((congrArg Int32.toInt e29).symm.trans (h8.trans (by decide)))) hw, fun _ => ?_⟩
    rw [e 30 i (by decide), if_pos ⟨rfl, rfl⟩]
    exact hv
theorem xR.ag {M M1 M2 : fmM} {w : Int32} {z : Nat} (h : xT M M1) (h2 : xR (stpM M1 w z) M2 z) : xR M M2 z := by
  obtain ⟨z', a, b, c, d, e⟩ := h2
  exact ⟨z', a, b, c, fun k i hk hi => (d k i hk hi).trans ((stpM_k hk (by omega)).trans (h k i (by omega))), e⟩
/-- an again is closed -/
theorem xR.close {M M1 M2 M3 M4 : fmM} {v y : Int32} {z : Nat} (h29 : (M.1 29 z).toInt = 4) (hz2 : z < 150) (h1 : xT M M1) (h2 : xT (fmI M1 30 z v) M2) (h3 : xR M2 M3 (z + 1)) (h4 : xT M3 M4) (hy : y = M4.1 28 3) : xR M (fmI M4 31 z y) z := by
  obtain ⟨z', a, b, c, d, e⟩ := h3
  have g : ∀ k i, k = 29 ∨ k = 30 ∨ k = 31 → i < z + 1 → M4.1 k i = (fmI M1 30 z v).1 k i := fun k i hk hi => (h4 k i (by omega)).trans ((d k i hk hi).trans (h2 k i (by omega)))
  have hy2 : y.toInt = (z' : Int) := by rw [hy, h4 28 3 (by decide)]; exact a
  refine ⟨z', ?_, by omega, c, fun k i hk hi => ?_, fun i p1 p2 => ?_⟩
  · rw [fmI_k _ _ (by decide), h4 28 3 (by decide)]
    exact a
  · rw [fmI_at, if_neg (by omega), g k i hk (by omega), fmI_at, if_neg (by omega)]
    exact h1 k i (by omega)
  · by_cases ei : i = z
    · subst ei
      have e29 : ((fmI M4 31 i y).1 29 i).toInt = 4 := by
        rw [fmI_k _ _ (by decide), g 29 i (by omega) (by omega), fmI_k _ _ (by decide), h1 29 i (by decide)]
        exact h29
      refine ⟨fun _ => ?_, fun h8 => absurd e29 h8⟩
      rw [fmI_s, hy2]
      exact Int.le_refl _
    · refine (e i (by omega) p2).up (Nat.le_refl _) (fun k hk => ?_)
      rw [fmI_at, if_neg (by omega)]
      exact h4 k i (by omega)
def xEnd (Q : fmR → fmM → Prop) (M : fmM) (z : Nat) : Prop := (∀ M' : fmM, scInv Tx invX M' → scFr xrW M M' → xR M M' z → Q (.inl (some (.int 1))) M') ∧ ∀ M' : fmM, scInv Tx invX M' → scFr xrW M M' → Q (.inl (some (.int 0))) M'
def xG (j : Nat) : Prop := ∀ (M : fmM) (Q : fmR → fmM → Prop) (z o : Nat) (lv op : Int32), scInv Tx invX M → (M.1 28 3).toInt = (z : Int) → z ≤ 150 → 0 ≤ lv.toInt ∧ lv.toInt ≤ 8 → op.toInt = (o : Int) → o + j = 6 → xEnd Q M z → pvGood Tx (8 + 3 * j) qX9_readSteps [.ref 28, .ref 1, .int lv, .int op] M Q
def xSt (j : Nat) : Prop := ∀ (M : fmM) (Q : fmR → fmM → Prop) (z o : Nat) (lv op : Int32), scInv Tx invX M → (M.1 28 3).toInt = (z : Int) → z ≤ 150 → 0 ≤ lv.toInt ∧ lv.toInt ≤ 8 → op.toInt = (o : Int) → o + j = 6 → xEnd Q M z → pvGood Tx (7 + 3 * j) qX9_readStep [.ref 28, .ref 1, .int lv, .int op] M Q
def xAg (j : Nat) : Prop := ∀ (M : fmM) (Q : fmR → fmM → Prop) (z o : Nat) (lv op a : Int32), scInv Tx invX M → (M.1 28 3).toInt = ((z + 1 : Nat) : Int) → z < 150 → a.toInt = (z : Int) → (M.1 29 z).toInt = 4 → 0 ≤ lv.toInt ∧ lv.toInt ≤ 8 → op.toInt = (o : Int) → o + j = 6 → xEnd Q M z → pvGood Tx (9 + 3 * j) qX9_readAgain [.ref 28, .ref 1, .int lv, .int op, .int a] M Q
theorem lv_1 {x : Int32} (h : 0 ≤ x.toInt ∧ x.toInt ≤ 8) : -1 ≤ (x - 1).toInt ∧ (x - 1).toInt ≤ 7 := by
  have e1 : (1 : Int32).toInt = 1 := by decide
  rw [sc_sub (by omega) (by omega)]
  omega
theorem n_0 {n : Int32} (h : 0 ≤ n.toInt ∧ n.toInt ≤ 0) : n = 0 := i32_ext (by have e : (0 : Int32).toInt = 0 := (by decide); omega)
theorem n_1 {n : Int32} (h : 1 ≤ n.toInt ∧ n.toInt ≤ 1) : n = 1 := i32_ext (by have e : (1 : Int32).toInt = 1 := (by decide); omega)
set_option maxRecDepth 20000 in
theorem xs_loop {Q : fmR → fmM → Prop} {j o : Nat} {lv op la : Int32} (hSt : xSt j) (hlv : 0 ≤ lv.toInt ∧ lv.toInt ≤ 8) (hop : op.toInt = (o : Int)) (hoj : o + j = 6) : ∀ (m : Nat) (M : fmM) (i z : Nat) (ii : Int32), scInv Tx invX M → (M.1 28 3).toInt = (z : Int) → z ≤ 150 → ii.toInt = (i : Int) → i + m = 150 → xEnd Q M z → pvEv Tx (8 + 3 * j) qX9_readSteps 15 [some (.ref 28), some (.ref 1), some (.int lv), some (.int op), some (.int la), some (.int ii)] [] M Q := by
  intro m
  induction m with
  | zero =>
    intro M i z ii hI hz hz2 hi him hE
    refine pv_iload (pc := 15) (i := 5) rfl (fm_dec dtX9_readSteps 8 rfl) ?_
    refine pv_sipush (pc := 17) (v := 150) (by decide) (fm_dec dtX9_readSteps 9 rfl) ?_
    refine pv_icmp_ge (pc := 20) 61 (by decide) (fm_dec dtX9_readSteps 10 rfl) (fun _ => ?_) (fun hc20 => by exfalso; apply hc20; rw [sc_le]; have h9 : (150 : Int32).toInt = 150 := (by decide); omega)
    refine pv_iconst (pc := 61) (v := 1) (by decide) (fm_dec dtX9_readSteps 31 rfl) ?_
    exact pv_zreturn (pc := 62) rfl (by first | exact Or.inr rfl | exact Or.inl rfl) (fm_dec dtX9_readSteps 32 rfl) (hE.1 M hI scFr.rfl (xR.nil hz hz2 (xT.refl M)))
  | succ m ih =>
    intro M i z ii hI hz hz2 hi him hE
    refine pv_iload (pc := 15) (i := 5) rfl (fm_dec dtX9_readSteps 8 rfl) ?_
    refine pv_sipush (pc := 17) (v := 150) (by decide) (fm_dec dtX9_readSteps 9 rfl) ?_
    refine pv_icmp_ge (pc := 20) 61 (by decide) (fm_dec dtX9_readSteps 10 rfl) (fun hc20 => by exfalso; rw [sc_le] at hc20; have h9 : (150 : Int32).toInt = 150 := (by decide); omega) (fun _ => ?_)
    refine pv_aloadn (pc := 23) (n := 1) 1 rfl rfl (fm_dec dtX9_readSteps 11 rfl) ?_
    refine pv_invV0 (k := 1) (d' := 0) (pc := 24) pcv_X9_38 (by decide) rfl (Nat.le_of_ble_eq_true rfl) (by omega) (fm_dec dtX9_readSteps 12 rfl) ?_
    refine s_peek hI (fun n24 M24 b24 m24 hI24 f24 => ?_) (fun n24 M24 b24 m24 hI24 f24 => ?_)
    · refine pv_then1 ?_
      refine pv_iload (pc := 27) (i := 4) rfl (fm_dec dtX9_readSteps 13 rfl) ?_
      refine pv_icmp_ne (pc := 29) 34 (by decide) (fm_dec dtX9_readSteps 14 rfl) (fun hc29 => ?_) (fun hc29 => ?_)
      · have t24 := xT.of1 f24
        refine pv_aloadn (pc := 34) (n := 0) 0 rfl rfl (fm_dec dtX9_readSteps 17 rfl) ?_
        refine pv_aloadn (pc := 35) (n := 1) 1 rfl rfl (fm_dec dtX9_readSteps 18 rfl) ?_
        refine pv_iloadn (pc := 36) (n := 2) 2 rfl rfl (fm_dec dtX9_readSteps 19 rfl) ?_
        refine pv_iloadn (pc := 37) (n := 3) 3 rfl rfl (fm_dec dtX9_readSteps 20 rfl) ?_
        refine pv_invV3 (k := 28) (d' := (7 + 3 * j)) (pc := 38) pcv_X9_44 (by decide) rfl (Nat.le_of_ble_eq_true rfl) (by omega) (fm_dec dtX9_readSteps 21 rfl) ?_
        refine hSt M24 _ z o lv op hI24 (by rw [(f24 28 3 rfl).1]; exact hz) hz2 hlv hop hoj ⟨fun M38 hI38 f38 k38 => ?_, fun M38 hI38 f38 => ?_⟩  
        · refine pv_then1 ?_
          refine pv_if_eq (pc := 41) 53 (by decide) (fm_dec dtX9_readSteps 22 rfl) (fun hc41 => by exfalso; revert hc41; decide) (fun _ => ?_)
          refine pv_aloadn (pc := 44) (n := 1) 1 rfl rfl (fm_dec dtX9_readSteps 23 rfl) ?_
          refine pv_bipush (pc := 45) (v := 59) (by decide) (fm_dec dtX9_readSteps 24 rfl) ?_
          refine pv_invV1 (k := 1) (d' := 1) (pc := 47) pcv_X9_47 (by decide) rfl (Nat.le_of_ble_eq_true rfl) (by omega) (fm_dec dtX9_readSteps 25 rfl) ?_
          refine s_sign59 (by decide) hI38 (fun n47 M47 b47 hI47 f47 => ?_)
          refine pv_then1 ?_
          refine pv_if_ne (pc := 50) 55 (by decide) (fm_dec dtX9_readSteps 26 rfl) (fun hc50 => ?_) (fun hc50 => ?_)
          · refine pv_iincc (pc := 55) 5 1 (by decide) rfl (by decide) rfl (fm_dec dtX9_readSteps 29 rfl) ?_
            dsimp only [List.set_cons_zero, List.set_cons_succ]
            refine pv_goto (pc := 58) 15 (by decide) (fm_dec dtX9_readSteps 30 rfl) ?_
            obtain ⟨z1, e1, e2⟩ := (k38.post (xT.of3 f47)).sz
            have hfr : scFr xrW M M47 := scFr.trans (scFr.trans (scFr.trans scFr.rfl f24 (by decide)) f38 (by decide)) f47 (by decide)
            have hr9 : xR M M47 z := xR.pre t24 (k38.post (xT.of3 f47))
            exact ih M47 (i + 1) z1 _ hI47 e1 e2 (i32_p1 hi (by omega)) (by omega) ⟨fun M9 h1 h2 h3 => hE.1 M9 h1 (scFr.trans hfr h2 (by decide)) (hr9.seq e1 h3), fun M9 h1 h2 => hE.2 M9 h1 (scFr.trans hfr h2 (by decide))⟩
          · refine pv_iconst (pc := 53) (v := 0) (by decide) (fm_dec dtX9_readSteps 27 rfl) ?_
            exact pv_zreturn (pc := 54) rfl (by first | exact Or.inr rfl | exact Or.inl rfl) (fm_dec dtX9_readSteps 28 rfl) (hE.2 M47 hI47 (scFr.trans (scFr.trans (scFr.trans scFr.rfl f24 (by decide)) f38 (by decide)) f47 (by decide)))
        · refine pv_then1 ?_
          refine pv_if_eq (pc := 41) 53 (by decide) (fm_dec dtX9_readSteps 22 rfl) (fun _ => ?_) (fun hc41 => by exfalso; revert hc41; decide)
          refine pv_iconst (pc := 53) (v := 0) (by decide) (fm_dec dtX9_readSteps 27 rfl) ?_
          exact pv_zreturn (pc := 54) rfl (by first | exact Or.inr rfl | exact Or.inl rfl) (fm_dec dtX9_readSteps 28 rfl) (hE.2 M38 hI38 (scFr.trans (scFr.trans scFr.rfl f24 (by decide)) f38 (by decide)))
      · refine pv_iconst (pc := 32) (v := 1) (by decide) (fm_dec dtX9_readSteps 15 rfl) ?_
        exact pv_zreturn (pc := 33) rfl (by first | exact Or.inr rfl | exact Or.inl rfl) (fm_dec dtX9_readSteps 16 rfl) (hE.1 M24 hI24 (scFr.trans scFr.rfl f24 (by decide)) (xR.nil hz hz2 (xT.of1 f24)))
    · refine pv_then1 ?_
      refine pv_iload (pc := 27) (i := 4) rfl (fm_dec dtX9_readSteps 13 rfl) ?_
      refine pv_icmp_ne (pc := 29) 34 (by decide) (fm_dec dtX9_readSteps 14 rfl) (fun hc29 => ?_) (fun hc29 => ?_)
      · have t24 := xT.of1 f24
        refine pv_aloadn (pc := 34) (n := 0) 0 rfl rfl (fm_dec dtX9_readSteps 17 rfl) ?_
        refine pv_aloadn (pc := 35) (n := 1) 1 rfl rfl (fm_dec dtX9_readSteps 18 rfl) ?_
        refine pv_iloadn (pc := 36) (n := 2) 2 rfl rfl (fm_dec dtX9_readSteps 19 rfl) ?_
        refine pv_iloadn (pc := 37) (n := 3) 3 rfl rfl (fm_dec dtX9_readSteps 20 rfl) ?_
        refine pv_invV3 (k := 28) (d' := (7 + 3 * j)) (pc := 38) pcv_X9_44 (by decide) rfl (Nat.le_of_ble_eq_true rfl) (by omega) (fm_dec dtX9_readSteps 21 rfl) ?_
        refine hSt M24 _ z o lv op hI24 (by rw [(f24 28 3 rfl).1]; exact hz) hz2 hlv hop hoj ⟨fun M38 hI38 f38 k38 => ?_, fun M38 hI38 f38 => ?_⟩  
        · refine pv_then1 ?_
          refine pv_if_eq (pc := 41) 53 (by decide) (fm_dec dtX9_readSteps 22 rfl) (fun hc41 => by exfalso; revert hc41; decide) (fun _ => ?_)
          refine pv_aloadn (pc := 44) (n := 1) 1 rfl rfl (fm_dec dtX9_readSteps 23 rfl) ?_
          refine pv_bipush (pc := 45) (v := 59) (by decide) (fm_dec dtX9_readSteps 24 rfl) ?_
          refine pv_invV1 (k := 1) (d' := 1) (pc := 47) pcv_X9_47 (by decide) rfl (Nat.le_of_ble_eq_true rfl) (by omega) (fm_dec dtX9_readSteps 25 rfl) ?_
          refine s_sign59 (by decide) hI38 (fun n47 M47 b47 hI47 f47 => ?_)
          refine pv_then1 ?_
          refine pv_if_ne (pc := 50) 55 (by decide) (fm_dec dtX9_readSteps 26 rfl) (fun hc50 => ?_) (fun hc50 => ?_)
          · refine pv_iincc (pc := 55) 5 1 (by decide) rfl (by decide) rfl (fm_dec dtX9_readSteps 29 rfl) ?_
            dsimp only [List.set_cons_zero, List.set_cons_succ]
            refine pv_goto (pc := 58) 15 (by decide) (fm_dec dtX9_readSteps 30 rfl) ?_
            obtain ⟨z1, e1, e2⟩ := (k38.post (xT.of3 f47)).sz
            have hfr : scFr xrW M M47 := scFr.trans (scFr.trans (scFr.trans scFr.rfl f24 (by decide)) f38 (by decide)) f47 (by decide)
            have hr9 : xR M M47 z := xR.pre t24 (k38.post (xT.of3 f47))
            exact ih M47 (i + 1) z1 _ hI47 e1 e2 (i32_p1 hi (by omega)) (by omega) ⟨fun M9 h1 h2 h3 => hE.1 M9 h1 (scFr.trans hfr h2 (by decide)) (hr9.seq e1 h3), fun M9 h1 h2 => hE.2 M9 h1 (scFr.trans hfr h2 (by decide))⟩
          · refine pv_iconst (pc := 53) (v := 0) (by decide) (fm_dec dtX9_readSteps 27 rfl) ?_
            exact pv_zreturn (pc := 54) rfl (by first | exact Or.inr rfl | exact Or.inl rfl) (fm_dec dtX9_readSteps 28 rfl) (hE.2 M47 hI47 (scFr.trans (scFr.trans (scFr.trans scFr.rfl f24 (by decide)) f38 (by decide)) f47 (by decide)))
        · refine pv_then1 ?_
          refine pv_if_eq (pc := 41) 53 (by decide) (fm_dec dtX9_readSteps 22 rfl) (fun _ => ?_) (fun hc41 => by exfalso; revert hc41; decide)
          refine pv_iconst (pc := 53) (v := 0) (by decide) (fm_dec dtX9_readSteps 27 rfl) ?_
          exact pv_zreturn (pc := 54) rfl (by first | exact Or.inr rfl | exact Or.inl rfl) (fm_dec dtX9_readSteps 28 rfl) (hE.2 M38 hI38 (scFr.trans (scFr.trans scFr.rfl f24 (by decide)) f38 (by decide)))
      · refine pv_iconst (pc := 32) (v := 1) (by decide) (fm_dec dtX9_readSteps 15 rfl) ?_
        exact pv_zreturn (pc := 33) rfl (by first | exact Or.inr rfl | exact Or.inl rfl) (fm_dec dtX9_readSteps 16 rfl) (hE.1 M24 hI24 (scFr.trans scFr.rfl f24 (by decide)) (xR.nil hz hz2 (xT.of1 f24)))
set_option maxRecDepth 20000 in
theorem xs_G {j : Nat} (hSt : xSt j) : xG j := by
  intro M Q z o lv op hI hz hz2 hlv hop hoj hE
  refine pvGood_of (Nat.le_of_ble_eq_true rfl) ?_
  show pvEv Tx (8 + 3 * j) qX9_readSteps 0 [some (.ref 28), some (.ref 1), some (.int lv), some (.int op), none, none] [] M Q
  refine pv_iloadn (pc := 0) (n := 3) 3 rfl rfl (fm_dec dtX9_readSteps 0 rfl) ?_
  refine pv_if_ne (pc := 1) 8 (by decide) (fm_dec dtX9_readSteps 1 rfl) (fun hc1 => ?_) (fun hc1 => ?_)
  · refine pv_bipush (pc := 8) (v := 93) (by decide) (fm_dec dtX9_readSteps 4 rfl) ?_
    refine pv_istore (pc := 10) (i := 4) (by decide) rfl (fm_dec dtX9_readSteps 5 rfl) ?_
    dsimp only [List.set_cons_zero, List.set_cons_succ]
    refine pv_iconst (pc := 12) (v := 0) (by decide) (fm_dec dtX9_readSteps 6 rfl) ?_
    refine pv_istore (pc := 13) (i := 5) (by decide) rfl (fm_dec dtX9_readSteps 7 rfl) ?_
    dsimp only [List.set_cons_zero, List.set_cons_succ]
    exact xs_loop hSt hlv hop hoj 150 M 0 z 0 hI hz hz2 (by decide) (by omega) hE
  · refine pv_iconst (pc := 4) (v := (-1)) (by decide) (fm_dec dtX9_readSteps 2 rfl) ?_
    refine pv_goto (pc := 5) 10 (by decide) (fm_dec dtX9_readSteps 3 rfl) ?_
    refine pv_istore (pc := 10) (i := 4) (by decide) rfl (fm_dec dtX9_readSteps 5 rfl) ?_
    dsimp only [List.set_cons_zero, List.set_cons_succ]
    refine pv_iconst (pc := 12) (v := 0) (by decide) (fm_dec dtX9_readSteps 6 rfl) ?_
    refine pv_istore (pc := 13) (i := 5) (by decide) rfl (fm_dec dtX9_readSteps 7 rfl) ?_
    dsimp only [List.set_cons_zero, List.set_cons_succ]
    exact xs_loop hSt hlv hop hoj 150 M 0 z 0 hI hz hz2 (by decide) (by omega) hE
set_option maxRecDepth 20000 in
theorem xa_G {j : Nat} (hG : xG j) : xAg j := by
  intro M Q z o lv op a hI hz hz2 ha h29 hlv hop hoj hE
  refine pvGood_of (Nat.le_of_ble_eq_true rfl) ?_
  show pvEv Tx (9 + 3 * j) qX9_readAgain 0 [some (.ref 28), some (.ref 1), some (.int lv), some (.int op), some (.int a)] [] M Q
  refine pv_aloadn (pc := 0) (n := 0) 0 rfl rfl (fm_dec dtX9_readAgain 0 rfl) ?_
  refine pv_getR (k := 28) (j := 1) (ci := 9) (pc := 1) 30 rfl (by decide) pfl_X9_15 (by decide) rfl (by decide) (fm_dec dtX9_readAgain 1 rfl) ?_
  refine pv_iload (pc := 4) (i := 4) rfl (fm_dec dtX9_readAgain 2 rfl) ?_
  refine pv_aloadn (pc := 6) (n := 1) 1 rfl rfl (fm_dec dtX9_readAgain 3 rfl) ?_
  refine pv_iconst (pc := 7) (v := 0) (by decide) (fm_dec dtX9_readAgain 4 rfl) ?_
  refine pv_bipush (pc := 8) (v := 20) (by decide) (fm_dec dtX9_readAgain 5 rfl) ?_
  refine pv_invV2 (k := 1) (d' := 2) (pc := 10) pcv_X9_68 (by decide) rfl (Nat.le_of_ble_eq_true rfl) (by omega) (fm_dec dtX9_readAgain 6 rfl) ?_
  refine s_num20 (by decide) (by decide) hI (fun n10 M10 b10 m10 hI10 f10 => ?_) (fun n10 M10 b10 m10 hI10 f10 => ?_)
  · refine pv_then1 ?_
    refine pv_iast (k := 30) (n := 150) (pc := 13) (by decide) rfl rfl (ix_in ha hz2) (fm_dec dtX9_readAgain 7 rfl) ?_
    rw [i32_cl ha]
    have hI13 : scInv Tx invX (fmI M10 30 z n10) := xInv.put hI10 (by rw [xi_30]; omega)
    refine pv_aloadn (pc := 14) (n := 1) 1 rfl rfl (fm_dec dtX9_readAgain 8 rfl) ?_
    refine pv_invV0 (k := 1) (d' := 0) (pc := 15) pcv_X9_72 (by decide) rfl (Nat.le_of_ble_eq_true rfl) (by omega) (fm_dec dtX9_readAgain 9 rfl) ?_
    refine s_failed hI13 (fun n15 M15 b15 m15 hI15 f15 => ?_) (fun n15 M15 b15 m15 hI15 f15 => ?_)
    · refine pv_then1 ?_
      refine pv_if_ne (pc := 18) 49 (by decide) (fm_dec dtX9_readAgain 10 rfl) (fun hc18 => by exfalso; exact hc18 (n_0 b15)) (fun _ => ?_)
      refine pv_aloadn (pc := 21) (n := 1) 1 rfl rfl (fm_dec dtX9_readAgain 11 rfl) ?_
      refine pv_bipush (pc := 22) (v := 91) (by decide) (fm_dec dtX9_readAgain 12 rfl) ?_
      refine pv_invV1 (k := 1) (d' := 1) (pc := 24) pcv_X9_47 (by decide) rfl (Nat.le_of_ble_eq_true rfl) (by omega) (fm_dec dtX9_readAgain 13 rfl) ?_
      refine s_sign9 (by decide) hI15 (fun n24 M24 b24 hI24 f24 => ?_)
      refine pv_then1 ?_
      refine pv_if_eq (pc := 27) 49 (by decide) (fm_dec dtX9_readAgain 14 rfl) (fun hc27 => ?_) (fun hc27 => ?_)
      · refine pv_iconst (pc := 49) (v := 0) (by decide) (fm_dec dtX9_readAgain 25 rfl) ?_
        exact pv_zreturn (pc := 50) rfl (by first | exact Or.inr rfl | exact Or.inl rfl) (fm_dec dtX9_readAgain 26 rfl) (hE.2 M24 hI24 (scFr.trans (scFr.trans (scFr.toI (scFr.trans scFr.rfl f10 (by decide)) (in_xr (Or.inr (Or.inl rfl)) hz2)) f15 (by decide)) f24 (by decide)))
      · refine pv_aloadn (pc := 30) (n := 0) 0 rfl rfl (fm_dec dtX9_readAgain 15 rfl) ?_
        refine pv_aloadn (pc := 31) (n := 1) 1 rfl rfl (fm_dec dtX9_readAgain 16 rfl) ?_
        refine pv_iloadn (pc := 32) (n := 2) 2 rfl rfl (fm_dec dtX9_readAgain 17 rfl) ?_
        refine pv_iloadn (pc := 33) (n := 3) 3 rfl rfl (fm_dec dtX9_readAgain 18 rfl) ?_
        refine pv_invV3 (k := 28) (d' := (8 + 3 * j)) (pc := 34) pcv_X9_34 (by decide) rfl (Nat.le_of_ble_eq_true rfl) (by omega) (fm_dec dtX9_readAgain 19 rfl) ?_
        refine hG M24 _ (z + 1) o lv op hI24 (by rw [xT.of3 f24 28 3 (by decide), (f15 28 3 rfl).1, fmI_k _ _ (by decide), xT.of3 f10 28 3 (by decide)]; exact hz) (by omega) hlv hop hoj ⟨fun M34 hI34 f34 k34 => ?_, fun M34 hI34 f34 => ?_⟩  
        · refine pv_then1 ?_
          refine pv_if_eq (pc := 37) 49 (by decide) (fm_dec dtX9_readAgain 20 rfl) (fun hc37 => by exfalso; revert hc37; decide) (fun _ => ?_)
          refine pv_aloadn (pc := 40) (n := 1) 1 rfl rfl (fm_dec dtX9_readAgain 21 rfl) ?_
          refine pv_bipush (pc := 41) (v := 93) (by decide) (fm_dec dtX9_readAgain 22 rfl) ?_
          refine pv_invV1 (k := 1) (d' := 1) (pc := 43) pcv_X9_47 (by decide) rfl (Nat.le_of_ble_eq_true rfl) (by omega) (fm_dec dtX9_readAgain 23 rfl) ?_
          refine s_sign9 (by decide) hI34 (fun n43 M43 b43 hI43 f43 => ?_)
          refine pv_then1 ?_
          refine pv_if_ne (pc := 46) 51 (by decide) (fm_dec dtX9_readAgain 24 rfl) (fun hc46 => ?_) (fun hc46 => ?_)
          · refine pv_aloadn (pc := 51) (n := 0) 0 rfl rfl (fm_dec dtX9_readAgain 27 rfl) ?_
            refine pv_getR (k := 28) (j := 2) (ci := 9) (pc := 52) 31 rfl (by decide) pfl_X9_18 (by decide) rfl (by decide) (fm_dec dtX9_readAgain 28 rfl) ?_
            refine pv_iload (pc := 55) (i := 4) rfl (fm_dec dtX9_readAgain 29 rfl) ?_
            refine pv_aloadn (pc := 57) (n := 0) 0 rfl rfl (fm_dec dtX9_readAgain 30 rfl) ?_
            refine pv_getI (k := 28) (j := 3) (ci := 9) (pc := 58) pfl_X9_21 (by decide) rfl (by decide) (fm_dec dtX9_readAgain 31 rfl) ?_
            refine pv_iast (k := 31) (n := 150) (pc := 61) (by decide) rfl rfl (ix_in ha hz2) (fm_dec dtX9_readAgain 32 rfl) ?_
            rw [i32_cl ha]
            refine pv_iconst (pc := 62) (v := 1) (by decide) (fm_dec dtX9_readAgain 33 rfl) ?_
            exact pv_zreturn (pc := 63) rfl (by first | exact Or.inr rfl | exact Or.inl rfl) (fm_dec dtX9_readAgain 34 rfl) (hE.1 _ (xInv.put hI43 (by rw [xi_31]; exact hI43.1 28 3 (by decide))) (scFr.toI (scFr.trans (scFr.trans (scFr.trans (scFr.trans (scFr.toI (scFr.trans scFr.rfl f10 (by decide)) (in_xr (Or.inr (Or.inl rfl)) hz2)) f15 (by decide)) f24 (by decide)) f34 (by decide)) f43 (by decide)) (in_xr (Or.inr (Or.inr rfl)) hz2)) (xR.close h29 hz2 (xT.of3 f10) (M2 := M24) (fun k i hk => (xT.of3 f24 k i hk).trans ((f15 k i rfl).1)) k34 (xT.of3 f43) rfl))
          · refine pv_iconst (pc := 49) (v := 0) (by decide) (fm_dec dtX9_readAgain 25 rfl) ?_
            exact pv_zreturn (pc := 50) rfl (by first | exact Or.inr rfl | exact Or.inl rfl) (fm_dec dtX9_readAgain 26 rfl) (hE.2 M43 hI43 (scFr.trans (scFr.trans (scFr.trans (scFr.trans (scFr.toI (scFr.trans scFr.rfl f10 (by decide)) (in_xr (Or.inr (Or.inl rfl)) hz2)) f15 (by decide)) f24 (by decide)) f34 (by decide)) f43 (by decide)))
        · refine pv_then1 ?_
          refine pv_if_eq (pc := 37) 49 (by decide) (fm_dec dtX9_readAgain 20 rfl) (fun _ => ?_) (fun hc37 => by exfalso; revert hc37; decide)
          refine pv_iconst (pc := 49) (v := 0) (by decide) (fm_dec dtX9_readAgain 25 rfl) ?_
          exact pv_zreturn (pc := 50) rfl (by first | exact Or.inr rfl | exact Or.inl rfl) (fm_dec dtX9_readAgain 26 rfl) (hE.2 M34 hI34 (scFr.trans (scFr.trans (scFr.trans (scFr.toI (scFr.trans scFr.rfl f10 (by decide)) (in_xr (Or.inr (Or.inl rfl)) hz2)) f15 (by decide)) f24 (by decide)) f34 (by decide)))
    · refine pv_then1 ?_
      refine pv_if_ne (pc := 18) 49 (by decide) (fm_dec dtX9_readAgain 10 rfl) (fun _ => ?_) (fun hc18 => by exfalso; rw [hc18] at b15; exact absurd b15 (by decide))
      refine pv_iconst (pc := 49) (v := 0) (by decide) (fm_dec dtX9_readAgain 25 rfl) ?_
      exact pv_zreturn (pc := 50) rfl (by first | exact Or.inr rfl | exact Or.inl rfl) (fm_dec dtX9_readAgain 26 rfl) (hE.2 M15 hI15 (scFr.trans (scFr.toI (scFr.trans scFr.rfl f10 (by decide)) (in_xr (Or.inr (Or.inl rfl)) hz2)) f15 (by decide)))
  · refine pv_then1 ?_
    refine pv_iast (k := 30) (n := 150) (pc := 13) (by decide) rfl rfl (ix_in ha hz2) (fm_dec dtX9_readAgain 7 rfl) ?_
    rw [i32_cl ha]
    have hI13 : scInv Tx invX (fmI M10 30 z n10) := xInv.put hI10 (by rw [xi_30]; omega)
    refine pv_aloadn (pc := 14) (n := 1) 1 rfl rfl (fm_dec dtX9_readAgain 8 rfl) ?_
    refine pv_invV0 (k := 1) (d' := 0) (pc := 15) pcv_X9_72 (by decide) rfl (Nat.le_of_ble_eq_true rfl) (by omega) (fm_dec dtX9_readAgain 9 rfl) ?_
    refine s_failed hI13 (fun n15 M15 b15 m15 hI15 f15 => ?_) (fun n15 M15 b15 m15 hI15 f15 => ?_)
    · refine pv_then1 ?_
      refine pv_if_ne (pc := 18) 49 (by decide) (fm_dec dtX9_readAgain 10 rfl) (fun hc18 => by exfalso; exact hc18 (n_0 b15)) (fun _ => ?_)
      refine pv_aloadn (pc := 21) (n := 1) 1 rfl rfl (fm_dec dtX9_readAgain 11 rfl) ?_
      refine pv_bipush (pc := 22) (v := 91) (by decide) (fm_dec dtX9_readAgain 12 rfl) ?_
      refine pv_invV1 (k := 1) (d' := 1) (pc := 24) pcv_X9_47 (by decide) rfl (Nat.le_of_ble_eq_true rfl) (by omega) (fm_dec dtX9_readAgain 13 rfl) ?_
      refine s_sign9 (by decide) hI15 (fun n24 M24 b24 hI24 f24 => ?_)
      refine pv_then1 ?_
      refine pv_if_eq (pc := 27) 49 (by decide) (fm_dec dtX9_readAgain 14 rfl) (fun hc27 => ?_) (fun hc27 => ?_)
      · refine pv_iconst (pc := 49) (v := 0) (by decide) (fm_dec dtX9_readAgain 25 rfl) ?_
        exact pv_zreturn (pc := 50) rfl (by first | exact Or.inr rfl | exact Or.inl rfl) (fm_dec dtX9_readAgain 26 rfl) (hE.2 M24 hI24 (scFr.trans (scFr.trans (scFr.toI (scFr.trans scFr.rfl f10 (by decide)) (in_xr (Or.inr (Or.inl rfl)) hz2)) f15 (by decide)) f24 (by decide)))
      · refine pv_aloadn (pc := 30) (n := 0) 0 rfl rfl (fm_dec dtX9_readAgain 15 rfl) ?_
        refine pv_aloadn (pc := 31) (n := 1) 1 rfl rfl (fm_dec dtX9_readAgain 16 rfl) ?_
        refine pv_iloadn (pc := 32) (n := 2) 2 rfl rfl (fm_dec dtX9_readAgain 17 rfl) ?_
        refine pv_iloadn (pc := 33) (n := 3) 3 rfl rfl (fm_dec dtX9_readAgain 18 rfl) ?_
        refine pv_invV3 (k := 28) (d' := (8 + 3 * j)) (pc := 34) pcv_X9_34 (by decide) rfl (Nat.le_of_ble_eq_true rfl) (by omega) (fm_dec dtX9_readAgain 19 rfl) ?_
        refine hG M24 _ (z + 1) o lv op hI24 (by rw [xT.of3 f24 28 3 (by decide), (f15 28 3 rfl).1, fmI_k _ _ (by decide), xT.of3 f10 28 3 (by decide)]; exact hz) (by omega) hlv hop hoj ⟨fun M34 hI34 f34 k34 => ?_, fun M34 hI34 f34 => ?_⟩  
        · refine pv_then1 ?_
          refine pv_if_eq (pc := 37) 49 (by decide) (fm_dec dtX9_readAgain 20 rfl) (fun hc37 => by exfalso; revert hc37; decide) (fun _ => ?_)
          refine pv_aloadn (pc := 40) (n := 1) 1 rfl rfl (fm_dec dtX9_readAgain 21 rfl) ?_
          refine pv_bipush (pc := 41) (v := 93) (by decide) (fm_dec dtX9_readAgain 22 rfl) ?_
          refine pv_invV1 (k := 1) (d' := 1) (pc := 43) pcv_X9_47 (by decide) rfl (Nat.le_of_ble_eq_true rfl) (by omega) (fm_dec dtX9_readAgain 23 rfl) ?_
          refine s_sign9 (by decide) hI34 (fun n43 M43 b43 hI43 f43 => ?_)
          refine pv_then1 ?_
          refine pv_if_ne (pc := 46) 51 (by decide) (fm_dec dtX9_readAgain 24 rfl) (fun hc46 => ?_) (fun hc46 => ?_)
          · refine pv_aloadn (pc := 51) (n := 0) 0 rfl rfl (fm_dec dtX9_readAgain 27 rfl) ?_
            refine pv_getR (k := 28) (j := 2) (ci := 9) (pc := 52) 31 rfl (by decide) pfl_X9_18 (by decide) rfl (by decide) (fm_dec dtX9_readAgain 28 rfl) ?_
            refine pv_iload (pc := 55) (i := 4) rfl (fm_dec dtX9_readAgain 29 rfl) ?_
            refine pv_aloadn (pc := 57) (n := 0) 0 rfl rfl (fm_dec dtX9_readAgain 30 rfl) ?_
            refine pv_getI (k := 28) (j := 3) (ci := 9) (pc := 58) pfl_X9_21 (by decide) rfl (by decide) (fm_dec dtX9_readAgain 31 rfl) ?_
            refine pv_iast (k := 31) (n := 150) (pc := 61) (by decide) rfl rfl (ix_in ha hz2) (fm_dec dtX9_readAgain 32 rfl) ?_
            rw [i32_cl ha]
            refine pv_iconst (pc := 62) (v := 1) (by decide) (fm_dec dtX9_readAgain 33 rfl) ?_
            exact pv_zreturn (pc := 63) rfl (by first | exact Or.inr rfl | exact Or.inl rfl) (fm_dec dtX9_readAgain 34 rfl) (hE.1 _ (xInv.put hI43 (by rw [xi_31]; exact hI43.1 28 3 (by decide))) (scFr.toI (scFr.trans (scFr.trans (scFr.trans (scFr.trans (scFr.toI (scFr.trans scFr.rfl f10 (by decide)) (in_xr (Or.inr (Or.inl rfl)) hz2)) f15 (by decide)) f24 (by decide)) f34 (by decide)) f43 (by decide)) (in_xr (Or.inr (Or.inr rfl)) hz2)) (xR.close h29 hz2 (xT.of3 f10) (M2 := M24) (fun k i hk => (xT.of3 f24 k i hk).trans ((f15 k i rfl).1)) k34 (xT.of3 f43) rfl))
          · refine pv_iconst (pc := 49) (v := 0) (by decide) (fm_dec dtX9_readAgain 25 rfl) ?_
            exact pv_zreturn (pc := 50) rfl (by first | exact Or.inr rfl | exact Or.inl rfl) (fm_dec dtX9_readAgain 26 rfl) (hE.2 M43 hI43 (scFr.trans (scFr.trans (scFr.trans (scFr.trans (scFr.toI (scFr.trans scFr.rfl f10 (by decide)) (in_xr (Or.inr (Or.inl rfl)) hz2)) f15 (by decide)) f24 (by decide)) f34 (by decide)) f43 (by decide)))
        · refine pv_then1 ?_
          refine pv_if_eq (pc := 37) 49 (by decide) (fm_dec dtX9_readAgain 20 rfl) (fun _ => ?_) (fun hc37 => by exfalso; revert hc37; decide)
          refine pv_iconst (pc := 49) (v := 0) (by decide) (fm_dec dtX9_readAgain 25 rfl) ?_
          exact pv_zreturn (pc := 50) rfl (by first | exact Or.inr rfl | exact Or.inl rfl) (fm_dec dtX9_readAgain 26 rfl) (hE.2 M34 hI34 (scFr.trans (scFr.trans (scFr.trans (scFr.toI (scFr.trans scFr.rfl f10 (by decide)) (in_xr (Or.inr (Or.inl rfl)) hz2)) f15 (by decide)) f24 (by decide)) f34 (by decide)))
    · refine pv_then1 ?_
      refine pv_if_ne (pc := 18) 49 (by decide) (fm_dec dtX9_readAgain 10 rfl) (fun _ => ?_) (fun hc18 => by exfalso; rw [hc18] at b15; exact absurd b15 (by decide))
      refine pv_iconst (pc := 49) (v := 0) (by decide) (fm_dec dtX9_readAgain 25 rfl) ?_
      exact pv_zreturn (pc := 50) rfl (by first | exact Or.inr rfl | exact Or.inl rfl) (fm_dec dtX9_readAgain 26 rfl) (hE.2 M15 hI15 (scFr.trans (scFr.toI (scFr.trans scFr.rfl f10 (by decide)) (in_xr (Or.inr (Or.inl rfl)) hz2)) f15 (by decide)))
set_option maxRecDepth 20000 in
theorem xt_0 : xSt 0 := by
  intro M Q z o lv op hI hz hz2 hlv hop hoj hE
  refine pvGood_of (Nat.le_of_ble_eq_true rfl) ?_
  show pvEv Tx (7 + 3 * 0) qX9_readStep 0 [some (.ref 28), some (.ref 1), some (.int lv), some (.int op), none, none, none] [] M Q
  refine pv_aloadn (pc := 0) (n := 1) 1 rfl rfl (fm_dec dtX9_readStep 0 rfl) ?_
  refine pv_invV0 (k := 1) (d' := 1) (pc := 1) pcv_X9_51 (by decide) rfl (Nat.le_of_ble_eq_true rfl) (by omega) (fm_dec dtX9_readStep 1 rfl) ?_
  refine s_next hI (fun n1 M1 b1 hI1 f1 => ?_)
  refine pv_then1 ?_
  refine pv_istore (pc := 4) (i := 4) (by decide) rfl (fm_dec dtX9_readStep 2 rfl) ?_
  dsimp only [List.set_cons_zero, List.set_cons_succ]
  refine pv_aloadn (pc := 6) (n := 1) 1 rfl rfl (fm_dec dtX9_readStep 3 rfl) ?_
  refine pv_ldcT (i := 4) (pc := 7) pkn_X9_54 ptx_X9_54 (fm_dec dtX9_readStep 4 rfl) ?_
  refine pv_invV1 (k := 1) (d' := 5) (pc := 9) pcv_X9_56 (by decide) rfl (Nat.le_of_ble_eq_true rfl) (by omega) (fm_dec dtX9_readStep 5 rfl) ?_
  refine s_word hI1 (fun n9 M9 b9 hI9 f9 => ?_)
  refine pv_then1 ?_
  refine pv_istore (pc := 12) (i := 5) (by decide) rfl (fm_dec dtX9_readStep 6 rfl) ?_
  dsimp only [List.set_cons_zero, List.set_cons_succ]
  have hz9 : (M9.1 28 3).toInt = (z : Int) := (by rw [xT.of3 f9 28 3 (by decide), xT.of1 f1 28 3 (by decide)]; exact hz)
  refine pv_iload (pc := 14) (i := 5) rfl (fm_dec dtX9_readStep 7 rfl) ?_
  refine pv_iconst (pc := 16) (v := (-1)) (by decide) (fm_dec dtX9_readStep 8 rfl) ?_
  refine pv_icmp_eq (pc := 17) 30 (by decide) (fm_dec dtX9_readStep 9 rfl) (fun hc17 => ?_) (fun hc17 => ?_)
  · refine pv_iconst (pc := 30) (v := 0) (by decide) (fm_dec dtX9_readStep 14 rfl) ?_
    exact pv_zreturn (pc := 31) rfl (by first | exact Or.inr rfl | exact Or.inl rfl) (fm_dec dtX9_readStep 15 rfl) (hE.2 M9 hI9 (scFr.trans (scFr.trans scFr.rfl f1 (by decide)) f9 (by decide)))
  · refine pv_aloadn (pc := 20) (n := 0) 0 rfl rfl (fm_dec dtX9_readStep 10 rfl) ?_
    refine pv_getI (k := 28) (j := 3) (ci := 9) (pc := 21) pfl_X9_21 (by decide) rfl (by decide) (fm_dec dtX9_readStep 11 rfl) ?_
    refine pv_sipush (pc := 24) (v := 150) (by decide) (fm_dec dtX9_readStep 12 rfl) ?_
    refine pv_icmp_lt (pc := 27) 32 (by decide) (fm_dec dtX9_readStep 13 rfl) (fun hc27 => ?_) (fun hc27 => ?_)
    · have hz3 : z < 150 := (by rw [sc_lt] at hc27; have h9 : (150 : Int32).toInt = 150 := (by decide); omega)
      refine pv_aloadn (pc := 32) (n := 0) 0 rfl rfl (fm_dec dtX9_readStep 16 rfl) ?_
      refine pv_getI (k := 28) (j := 3) (ci := 9) (pc := 33) pfl_X9_21 (by decide) rfl (by decide) (fm_dec dtX9_readStep 17 rfl) ?_
      refine pv_istore (pc := 36) (i := 6) (by decide) rfl (fm_dec dtX9_readStep 18 rfl) ?_
      dsimp only [List.set_cons_zero, List.set_cons_succ]
      refine pv_aloadn (pc := 38) (n := 0) 0 rfl rfl (fm_dec dtX9_readStep 19 rfl) ?_
      refine pv_dup (pc := 39) rfl (fm_dec dtX9_readStep 20 rfl) ?_
      refine pv_getI (k := 28) (j := 3) (ci := 9) (pc := 40) pfl_X9_21 (by decide) rfl (by decide) (fm_dec dtX9_readStep 21 rfl) ?_
      refine pv_iconst (pc := 43) (v := 1) (by decide) (fm_dec dtX9_readStep 22 rfl) ?_
      refine pv_iadd (pc := 44) (fm_dec dtX9_readStep 23 rfl) ?_
      refine pv_putI (k := 28) (j := 3) (ci := 9) (pc := 45) pfl_X9_21 (by decide) rfl (by decide) (fm_dec dtX9_readStep 24 rfl) ?_
      refine pv_aloadn (pc := 48) (n := 0) 0 rfl rfl (fm_dec dtX9_readStep 25 rfl) ?_
      refine pv_getR (k := 28) (j := 0) (ci := 9) (pc := 49) 29 rfl (by decide) pfl_X9_9 (by decide) rfl (by decide) (fm_dec dtX9_readStep 26 rfl) ?_
      refine pv_iload (pc := 52) (i := 6) rfl (fm_dec dtX9_readStep 27 rfl) ?_
      refine pv_iload (pc := 54) (i := 5) rfl (fm_dec dtX9_readStep 28 rfl) ?_
      refine pv_iast (k := 29) (n := 150) (pc := 56) (by decide) rfl rfl (ix_in hz9 hz3) (fm_dec dtX9_readStep 29 rfl) ?_
      rw [i32_cl hz9]
      have hIS : scInv Tx invX (stpM M9 n9 z) := stpM_inv hI9 hz9 hz3 ⟨by have h9 : ¬ n9.toInt = -1 := (fun h9 => hc17 (i32_ext (h9.trans (by decide)))); omega, b9.2⟩
      refine pv_iload (pc := 57) (i := 5) rfl (fm_dec dtX9_readStep 30 rfl) ?_
      refine pv_iconst (pc := 59) (v := 4) (by decide) (fm_dec dtX9_readStep 31 rfl) ?_
      refine pv_icmp_ne (pc := 60) 91 (by decide) (fm_dec dtX9_readStep 32 rfl) (fun hc60 => ?_) (fun hc60 => ?_)
      · refine pv_aloadn (pc := 91) (n := 0) 0 rfl rfl (fm_dec dtX9_readStep 50 rfl) ?_
        refine pv_getR (k := 28) (j := 1) (ci := 9) (pc := 92) 30 rfl (by decide) pfl_X9_15 (by decide) rfl (by decide) (fm_dec dtX9_readStep 51 rfl) ?_
        refine pv_iload (pc := 95) (i := 6) rfl (fm_dec dtX9_readStep 52 rfl) ?_
        refine pv_iload (pc := 97) (i := 5) rfl (fm_dec dtX9_readStep 53 rfl) ?_
        refine pv_iconst (pc := 99) (v := 3) (by decide) (fm_dec dtX9_readStep 54 rfl) ?_
        refine pv_icmp_ne (pc := 100) 107 (by decide) (fm_dec dtX9_readStep 55 rfl) (fun hc100 => ?_) (fun hc100 => ?_)
        · refine pv_aloadn (pc := 107) (n := 1) 1 rfl rfl (fm_dec dtX9_readStep 58 rfl) ?_
          refine pv_iconst (pc := 108) (v := 0) (by decide) (fm_dec dtX9_readStep 59 rfl) ?_
          refine pv_iloadn (pc := 109) (n := 2) 2 rfl rfl (fm_dec dtX9_readStep 60 rfl) ?_
          refine pv_iconst (pc := 110) (v := 1) (by decide) (fm_dec dtX9_readStep 61 rfl) ?_
          refine pv_isub (pc := 111) (fm_dec dtX9_readStep 62 rfl) ?_
          refine pv_invV2 (k := 1) (d' := 2) (pc := 112) pcv_X9_68 (by decide) rfl (Nat.le_of_ble_eq_true rfl) (by omega) (fm_dec dtX9_readStep 63 rfl) ?_
          refine s_num7 (by decide) (lv_1 hlv) hIS (fun n112 M112 b112 m112 hI112 f112 => ?_) (fun n112 M112 b112 m112 hI112 f112 => ?_)
          · refine pv_then1 ?_
            refine pv_iast (k := 30) (n := 150) (pc := 115) (by decide) rfl rfl (ix_in hz9 hz3) (fm_dec dtX9_readStep 64 rfl) ?_
            rw [i32_cl hz9]
            have hI115 : scInv Tx invX (fmI M112 30 z n112) := xInv.put hI112 (by rw [xi_30]; omega)
            refine pv_aloadn (pc := 116) (n := 1) 1 rfl rfl (fm_dec dtX9_readStep 65 rfl) ?_
            refine pv_invV0 (k := 1) (d' := 0) (pc := 117) pcv_X9_72 (by decide) rfl (Nat.le_of_ble_eq_true rfl) (by omega) (fm_dec dtX9_readStep 66 rfl) ?_
            refine s_failed hI115 (fun n117 M117 b117 m117 hI117 f117 => ?_) (fun n117 M117 b117 m117 hI117 f117 => ?_)
            · refine pv_then1 ?_
              refine pv_if_ne (pc := 120) 127 (by decide) (fm_dec dtX9_readStep 67 rfl) (fun hc120 => by exfalso; exact hc120 (n_0 b117)) (fun _ => ?_)
              refine pv_iconst (pc := 123) (v := 1) (by decide) (fm_dec dtX9_readStep 68 rfl) ?_
              refine pv_goto (pc := 124) 128 (by decide) (fm_dec dtX9_readStep 69 rfl) ?_
              exact pv_zreturn (pc := 128) rfl (by first | exact Or.inr rfl | exact Or.inl rfl) (fm_dec dtX9_readStep 71 rfl) (hE.1 M117 hI117 (scFr.trans (scFr.toI (scFr.trans (stpM_fr (scFr.trans (scFr.trans scFr.rfl f1 (by decide)) f9 (by decide)) hz3) f112 (by decide)) (in_xr (Or.inr (Or.inl rfl)) hz3)) f117 (by decide)) (xR.one hc60 (xT.trans (xT.of1 f1) (xT.of3 f9)) hz9 hz3 (xT.of3 f112) b112 (fun k i hk => (f117 k i rfl).1)))
            · refine pv_then1 ?_
              refine pv_if_ne (pc := 120) 127 (by decide) (fm_dec dtX9_readStep 67 rfl) (fun _ => ?_) (fun hc120 => by exfalso; rw [hc120] at b117; exact absurd b117 (by decide))
              refine pv_iconst (pc := 127) (v := 0) (by decide) (fm_dec dtX9_readStep 70 rfl) ?_
              exact pv_zreturn (pc := 128) rfl (by first | exact Or.inr rfl | exact Or.inl rfl) (fm_dec dtX9_readStep 71 rfl) (hE.2 M117 hI117 (scFr.trans (scFr.toI (scFr.trans (stpM_fr (scFr.trans (scFr.trans scFr.rfl f1 (by decide)) f9 (by decide)) hz3) f112 (by decide)) (in_xr (Or.inr (Or.inl rfl)) hz3)) f117 (by decide)))
          · refine pv_then1 ?_
            refine pv_iast (k := 30) (n := 150) (pc := 115) (by decide) rfl rfl (ix_in hz9 hz3) (fm_dec dtX9_readStep 64 rfl) ?_
            rw [i32_cl hz9]
            have hI115 : scInv Tx invX (fmI M112 30 z n112) := xInv.put hI112 (by rw [xi_30]; omega)
            refine pv_aloadn (pc := 116) (n := 1) 1 rfl rfl (fm_dec dtX9_readStep 65 rfl) ?_
            refine pv_invV0 (k := 1) (d' := 0) (pc := 117) pcv_X9_72 (by decide) rfl (Nat.le_of_ble_eq_true rfl) (by omega) (fm_dec dtX9_readStep 66 rfl) ?_
            refine s_failed hI115 (fun n117 M117 b117 m117 hI117 f117 => ?_) (fun n117 M117 b117 m117 hI117 f117 => ?_)
            · refine pv_then1 ?_
              exfalso
              have h9 : M117.1 1 4 = M112.1 1 4 := (by rw [(f117 1 4 rfl).1, fmI_k _ _ (by decide)])
              rw [h9] at m117
              omega
            · refine pv_then1 ?_
              refine pv_if_ne (pc := 120) 127 (by decide) (fm_dec dtX9_readStep 67 rfl) (fun _ => ?_) (fun hc120 => by exfalso; rw [hc120] at b117; exact absurd b117 (by decide))
              refine pv_iconst (pc := 127) (v := 0) (by decide) (fm_dec dtX9_readStep 70 rfl) ?_
              exact pv_zreturn (pc := 128) rfl (by first | exact Or.inr rfl | exact Or.inl rfl) (fm_dec dtX9_readStep 71 rfl) (hE.2 M117 hI117 (scFr.trans (scFr.toI (scFr.trans (stpM_fr (scFr.trans (scFr.trans scFr.rfl f1 (by decide)) f9 (by decide)) hz3) f112 (by decide)) (in_xr (Or.inr (Or.inl rfl)) hz3)) f117 (by decide)))
        · refine pv_iconst (pc := 103) (v := 0) (by decide) (fm_dec dtX9_readStep 56 rfl) ?_
          refine pv_goto (pc := 104) 115 (by decide) (fm_dec dtX9_readStep 57 rfl) ?_
          refine pv_iast (k := 30) (n := 150) (pc := 115) (by decide) rfl rfl (ix_in hz9 hz3) (fm_dec dtX9_readStep 64 rfl) ?_
          rw [i32_cl hz9]
          have hI115 : scInv Tx invX (fmI (stpM M9 n9 z) 30 z 0) := xInv.put hIS (by rw [xi_30]; decide)
          refine pv_aloadn (pc := 116) (n := 1) 1 rfl rfl (fm_dec dtX9_readStep 65 rfl) ?_
          refine pv_invV0 (k := 1) (d' := 0) (pc := 117) pcv_X9_72 (by decide) rfl (Nat.le_of_ble_eq_true rfl) (by omega) (fm_dec dtX9_readStep 66 rfl) ?_
          refine s_failed hI115 (fun n117 M117 b117 m117 hI117 f117 => ?_) (fun n117 M117 b117 m117 hI117 f117 => ?_)
          · refine pv_then1 ?_
            refine pv_if_ne (pc := 120) 127 (by decide) (fm_dec dtX9_readStep 67 rfl) (fun hc120 => by exfalso; exact hc120 (n_0 b117)) (fun _ => ?_)
            refine pv_iconst (pc := 123) (v := 1) (by decide) (fm_dec dtX9_readStep 68 rfl) ?_
            refine pv_goto (pc := 124) 128 (by decide) (fm_dec dtX9_readStep 69 rfl) ?_
            exact pv_zreturn (pc := 128) rfl (by first | exact Or.inr rfl | exact Or.inl rfl) (fm_dec dtX9_readStep 71 rfl) (hE.1 M117 hI117 (scFr.trans (scFr.toI (stpM_fr (scFr.trans (scFr.trans scFr.rfl f1 (by decide)) f9 (by decide)) hz3) (in_xr (Or.inr (Or.inl rfl)) hz3)) f117 (by decide)) (xR.one hc60 (xT.trans (xT.of1 f1) (xT.of3 f9)) hz9 hz3 (xT.refl _) (show 0 ≤ (0 : Int32).toInt ∧ (0 : Int32).toInt ≤ 7 by decide) (fun k i hk => (f117 k i rfl).1)))
          · refine pv_then1 ?_
            refine pv_if_ne (pc := 120) 127 (by decide) (fm_dec dtX9_readStep 67 rfl) (fun _ => ?_) (fun hc120 => by exfalso; rw [hc120] at b117; exact absurd b117 (by decide))
            refine pv_iconst (pc := 127) (v := 0) (by decide) (fm_dec dtX9_readStep 70 rfl) ?_
            exact pv_zreturn (pc := 128) rfl (by first | exact Or.inr rfl | exact Or.inl rfl) (fm_dec dtX9_readStep 71 rfl) (hE.2 M117 hI117 (scFr.trans (scFr.toI (stpM_fr (scFr.trans (scFr.trans scFr.rfl f1 (by decide)) f9 (by decide)) hz3) (in_xr (Or.inr (Or.inl rfl)) hz3)) f117 (by decide)))
      · refine pv_iloadn (pc := 63) (n := 3) 3 rfl rfl (fm_dec dtX9_readStep 33 rfl) ?_
        refine pv_bipush (pc := 64) (v := 6) (by decide) (fm_dec dtX9_readStep 34 rfl) ?_
        refine pv_icmp_lt (pc := 66) 79 (by decide) (fm_dec dtX9_readStep 35 rfl) (fun hc66 => by exfalso; rw [sc_lt] at hc66; have h9 : (6 : Int32).toInt = 6 := (by decide); omega) (fun _ => ?_)
        refine pv_aloadn (pc := 69) (n := 1) 1 rfl rfl (fm_dec dtX9_readStep 36 rfl) ?_
        refine pv_iconst (pc := 70) (v := 3) (by decide) (fm_dec dtX9_readStep 37 rfl) ?_
        refine pv_iload (pc := 71) (i := 4) rfl (fm_dec dtX9_readStep 38 rfl) ?_
        refine pv_invV2 (k := 1) (d' := 0) (pc := 73) pcv_X9_60 (by decide) rfl (Nat.le_of_ble_eq_true rfl) (by omega) (fm_dec dtX9_readStep 39 rfl) ?_
        refine s_fail3 (by decide) b1 hIS (fun n73 M73 b73 m73 hI73 f73 => ?_)
        refine pv_then1 ?_
        refine pv_goto (pc := 76) 90 (by decide) (fm_dec dtX9_readStep 40 rfl) ?_
        have e73 := n_0 b73
        subst e73
        exact pv_zreturn (pc := 90) rfl (Or.inl rfl) (fm_dec dtX9_readStep 49 rfl) (hE.2 M73 hI73 (scFr.trans (stpM_fr (scFr.trans (scFr.trans scFr.rfl f1 (by decide)) f9 (by decide)) hz3) f73 (by decide)))
    · refine pv_iconst (pc := 30) (v := 0) (by decide) (fm_dec dtX9_readStep 14 rfl) ?_
      exact pv_zreturn (pc := 31) rfl (by first | exact Or.inr rfl | exact Or.inl rfl) (fm_dec dtX9_readStep 15 rfl) (hE.2 M9 hI9 (scFr.trans (scFr.trans scFr.rfl f1 (by decide)) f9 (by decide)))
set_option maxRecDepth 20000 in
theorem xt_G {j : Nat} (hj : 1 ≤ j) (hA : xAg (j - 1)) : xSt j := by
  intro M Q z o lv op hI hz hz2 hlv hop hoj hE
  refine pvGood_of (Nat.le_of_ble_eq_true rfl) ?_
  show pvEv Tx (7 + 3 * j) qX9_readStep 0 [some (.ref 28), some (.ref 1), some (.int lv), some (.int op), none, none, none] [] M Q
  refine pv_aloadn (pc := 0) (n := 1) 1 rfl rfl (fm_dec dtX9_readStep 0 rfl) ?_
  refine pv_invV0 (k := 1) (d' := 1) (pc := 1) pcv_X9_51 (by decide) rfl (Nat.le_of_ble_eq_true rfl) (by omega) (fm_dec dtX9_readStep 1 rfl) ?_
  refine s_next hI (fun n1 M1 b1 hI1 f1 => ?_)
  refine pv_then1 ?_
  refine pv_istore (pc := 4) (i := 4) (by decide) rfl (fm_dec dtX9_readStep 2 rfl) ?_
  dsimp only [List.set_cons_zero, List.set_cons_succ]
  refine pv_aloadn (pc := 6) (n := 1) 1 rfl rfl (fm_dec dtX9_readStep 3 rfl) ?_
  refine pv_ldcT (i := 4) (pc := 7) pkn_X9_54 ptx_X9_54 (fm_dec dtX9_readStep 4 rfl) ?_
  refine pv_invV1 (k := 1) (d' := 5) (pc := 9) pcv_X9_56 (by decide) rfl (Nat.le_of_ble_eq_true rfl) (by omega) (fm_dec dtX9_readStep 5 rfl) ?_
  refine s_word hI1 (fun n9 M9 b9 hI9 f9 => ?_)
  refine pv_then1 ?_
  refine pv_istore (pc := 12) (i := 5) (by decide) rfl (fm_dec dtX9_readStep 6 rfl) ?_
  dsimp only [List.set_cons_zero, List.set_cons_succ]
  have hz9 : (M9.1 28 3).toInt = (z : Int) := (by rw [xT.of3 f9 28 3 (by decide), xT.of1 f1 28 3 (by decide)]; exact hz)
  refine pv_iload (pc := 14) (i := 5) rfl (fm_dec dtX9_readStep 7 rfl) ?_
  refine pv_iconst (pc := 16) (v := (-1)) (by decide) (fm_dec dtX9_readStep 8 rfl) ?_
  refine pv_icmp_eq (pc := 17) 30 (by decide) (fm_dec dtX9_readStep 9 rfl) (fun hc17 => ?_) (fun hc17 => ?_)
  · refine pv_iconst (pc := 30) (v := 0) (by decide) (fm_dec dtX9_readStep 14 rfl) ?_
    exact pv_zreturn (pc := 31) rfl (by first | exact Or.inr rfl | exact Or.inl rfl) (fm_dec dtX9_readStep 15 rfl) (hE.2 M9 hI9 (scFr.trans (scFr.trans scFr.rfl f1 (by decide)) f9 (by decide)))
  · refine pv_aloadn (pc := 20) (n := 0) 0 rfl rfl (fm_dec dtX9_readStep 10 rfl) ?_
    refine pv_getI (k := 28) (j := 3) (ci := 9) (pc := 21) pfl_X9_21 (by decide) rfl (by decide) (fm_dec dtX9_readStep 11 rfl) ?_
    refine pv_sipush (pc := 24) (v := 150) (by decide) (fm_dec dtX9_readStep 12 rfl) ?_
    refine pv_icmp_lt (pc := 27) 32 (by decide) (fm_dec dtX9_readStep 13 rfl) (fun hc27 => ?_) (fun hc27 => ?_)
    · have hz3 : z < 150 := (by rw [sc_lt] at hc27; have h9 : (150 : Int32).toInt = 150 := (by decide); omega)
      refine pv_aloadn (pc := 32) (n := 0) 0 rfl rfl (fm_dec dtX9_readStep 16 rfl) ?_
      refine pv_getI (k := 28) (j := 3) (ci := 9) (pc := 33) pfl_X9_21 (by decide) rfl (by decide) (fm_dec dtX9_readStep 17 rfl) ?_
      refine pv_istore (pc := 36) (i := 6) (by decide) rfl (fm_dec dtX9_readStep 18 rfl) ?_
      dsimp only [List.set_cons_zero, List.set_cons_succ]
      refine pv_aloadn (pc := 38) (n := 0) 0 rfl rfl (fm_dec dtX9_readStep 19 rfl) ?_
      refine pv_dup (pc := 39) rfl (fm_dec dtX9_readStep 20 rfl) ?_
      refine pv_getI (k := 28) (j := 3) (ci := 9) (pc := 40) pfl_X9_21 (by decide) rfl (by decide) (fm_dec dtX9_readStep 21 rfl) ?_
      refine pv_iconst (pc := 43) (v := 1) (by decide) (fm_dec dtX9_readStep 22 rfl) ?_
      refine pv_iadd (pc := 44) (fm_dec dtX9_readStep 23 rfl) ?_
      refine pv_putI (k := 28) (j := 3) (ci := 9) (pc := 45) pfl_X9_21 (by decide) rfl (by decide) (fm_dec dtX9_readStep 24 rfl) ?_
      refine pv_aloadn (pc := 48) (n := 0) 0 rfl rfl (fm_dec dtX9_readStep 25 rfl) ?_
      refine pv_getR (k := 28) (j := 0) (ci := 9) (pc := 49) 29 rfl (by decide) pfl_X9_9 (by decide) rfl (by decide) (fm_dec dtX9_readStep 26 rfl) ?_
      refine pv_iload (pc := 52) (i := 6) rfl (fm_dec dtX9_readStep 27 rfl) ?_
      refine pv_iload (pc := 54) (i := 5) rfl (fm_dec dtX9_readStep 28 rfl) ?_
      refine pv_iast (k := 29) (n := 150) (pc := 56) (by decide) rfl rfl (ix_in hz9 hz3) (fm_dec dtX9_readStep 29 rfl) ?_
      rw [i32_cl hz9]
      have hIS : scInv Tx invX (stpM M9 n9 z) := stpM_inv hI9 hz9 hz3 ⟨by have h9 : ¬ n9.toInt = -1 := (fun h9 => hc17 (i32_ext (h9.trans (by decide)))); omega, b9.2⟩
      refine pv_iload (pc := 57) (i := 5) rfl (fm_dec dtX9_readStep 30 rfl) ?_
      refine pv_iconst (pc := 59) (v := 4) (by decide) (fm_dec dtX9_readStep 31 rfl) ?_
      refine pv_icmp_ne (pc := 60) 91 (by decide) (fm_dec dtX9_readStep 32 rfl) (fun hc60 => ?_) (fun hc60 => ?_)
      · refine pv_aloadn (pc := 91) (n := 0) 0 rfl rfl (fm_dec dtX9_readStep 50 rfl) ?_
        refine pv_getR (k := 28) (j := 1) (ci := 9) (pc := 92) 30 rfl (by decide) pfl_X9_15 (by decide) rfl (by decide) (fm_dec dtX9_readStep 51 rfl) ?_
        refine pv_iload (pc := 95) (i := 6) rfl (fm_dec dtX9_readStep 52 rfl) ?_
        refine pv_iload (pc := 97) (i := 5) rfl (fm_dec dtX9_readStep 53 rfl) ?_
        refine pv_iconst (pc := 99) (v := 3) (by decide) (fm_dec dtX9_readStep 54 rfl) ?_
        refine pv_icmp_ne (pc := 100) 107 (by decide) (fm_dec dtX9_readStep 55 rfl) (fun hc100 => ?_) (fun hc100 => ?_)
        · refine pv_aloadn (pc := 107) (n := 1) 1 rfl rfl (fm_dec dtX9_readStep 58 rfl) ?_
          refine pv_iconst (pc := 108) (v := 0) (by decide) (fm_dec dtX9_readStep 59 rfl) ?_
          refine pv_iloadn (pc := 109) (n := 2) 2 rfl rfl (fm_dec dtX9_readStep 60 rfl) ?_
          refine pv_iconst (pc := 110) (v := 1) (by decide) (fm_dec dtX9_readStep 61 rfl) ?_
          refine pv_isub (pc := 111) (fm_dec dtX9_readStep 62 rfl) ?_
          refine pv_invV2 (k := 1) (d' := 2) (pc := 112) pcv_X9_68 (by decide) rfl (Nat.le_of_ble_eq_true rfl) (by omega) (fm_dec dtX9_readStep 63 rfl) ?_
          refine s_num7 (by decide) (lv_1 hlv) hIS (fun n112 M112 b112 m112 hI112 f112 => ?_) (fun n112 M112 b112 m112 hI112 f112 => ?_)
          · refine pv_then1 ?_
            refine pv_iast (k := 30) (n := 150) (pc := 115) (by decide) rfl rfl (ix_in hz9 hz3) (fm_dec dtX9_readStep 64 rfl) ?_
            rw [i32_cl hz9]
            have hI115 : scInv Tx invX (fmI M112 30 z n112) := xInv.put hI112 (by rw [xi_30]; omega)
            refine pv_aloadn (pc := 116) (n := 1) 1 rfl rfl (fm_dec dtX9_readStep 65 rfl) ?_
            refine pv_invV0 (k := 1) (d' := 0) (pc := 117) pcv_X9_72 (by decide) rfl (Nat.le_of_ble_eq_true rfl) (by omega) (fm_dec dtX9_readStep 66 rfl) ?_
            refine s_failed hI115 (fun n117 M117 b117 m117 hI117 f117 => ?_) (fun n117 M117 b117 m117 hI117 f117 => ?_)
            · refine pv_then1 ?_
              refine pv_if_ne (pc := 120) 127 (by decide) (fm_dec dtX9_readStep 67 rfl) (fun hc120 => by exfalso; exact hc120 (n_0 b117)) (fun _ => ?_)
              refine pv_iconst (pc := 123) (v := 1) (by decide) (fm_dec dtX9_readStep 68 rfl) ?_
              refine pv_goto (pc := 124) 128 (by decide) (fm_dec dtX9_readStep 69 rfl) ?_
              exact pv_zreturn (pc := 128) rfl (by first | exact Or.inr rfl | exact Or.inl rfl) (fm_dec dtX9_readStep 71 rfl) (hE.1 M117 hI117 (scFr.trans (scFr.toI (scFr.trans (stpM_fr (scFr.trans (scFr.trans scFr.rfl f1 (by decide)) f9 (by decide)) hz3) f112 (by decide)) (in_xr (Or.inr (Or.inl rfl)) hz3)) f117 (by decide)) (xR.one hc60 (xT.trans (xT.of1 f1) (xT.of3 f9)) hz9 hz3 (xT.of3 f112) b112 (fun k i hk => (f117 k i rfl).1)))
            · refine pv_then1 ?_
              refine pv_if_ne (pc := 120) 127 (by decide) (fm_dec dtX9_readStep 67 rfl) (fun _ => ?_) (fun hc120 => by exfalso; rw [hc120] at b117; exact absurd b117 (by decide))
              refine pv_iconst (pc := 127) (v := 0) (by decide) (fm_dec dtX9_readStep 70 rfl) ?_
              exact pv_zreturn (pc := 128) rfl (by first | exact Or.inr rfl | exact Or.inl rfl) (fm_dec dtX9_readStep 71 rfl) (hE.2 M117 hI117 (scFr.trans (scFr.toI (scFr.trans (stpM_fr (scFr.trans (scFr.trans scFr.rfl f1 (by decide)) f9 (by decide)) hz3) f112 (by decide)) (in_xr (Or.inr (Or.inl rfl)) hz3)) f117 (by decide)))
          · refine pv_then1 ?_
            refine pv_iast (k := 30) (n := 150) (pc := 115) (by decide) rfl rfl (ix_in hz9 hz3) (fm_dec dtX9_readStep 64 rfl) ?_
            rw [i32_cl hz9]
            have hI115 : scInv Tx invX (fmI M112 30 z n112) := xInv.put hI112 (by rw [xi_30]; omega)
            refine pv_aloadn (pc := 116) (n := 1) 1 rfl rfl (fm_dec dtX9_readStep 65 rfl) ?_
            refine pv_invV0 (k := 1) (d' := 0) (pc := 117) pcv_X9_72 (by decide) rfl (Nat.le_of_ble_eq_true rfl) (by omega) (fm_dec dtX9_readStep 66 rfl) ?_
            refine s_failed hI115 (fun n117 M117 b117 m117 hI117 f117 => ?_) (fun n117 M117 b117 m117 hI117 f117 => ?_)
            · refine pv_then1 ?_
              exfalso
              have h9 : M117.1 1 4 = M112.1 1 4 := (by rw [(f117 1 4 rfl).1, fmI_k _ _ (by decide)])
              rw [h9] at m117
              omega
            · refine pv_then1 ?_
              refine pv_if_ne (pc := 120) 127 (by decide) (fm_dec dtX9_readStep 67 rfl) (fun _ => ?_) (fun hc120 => by exfalso; rw [hc120] at b117; exact absurd b117 (by decide))
              refine pv_iconst (pc := 127) (v := 0) (by decide) (fm_dec dtX9_readStep 70 rfl) ?_
              exact pv_zreturn (pc := 128) rfl (by first | exact Or.inr rfl | exact Or.inl rfl) (fm_dec dtX9_readStep 71 rfl) (hE.2 M117 hI117 (scFr.trans (scFr.toI (scFr.trans (stpM_fr (scFr.trans (scFr.trans scFr.rfl f1 (by decide)) f9 (by decide)) hz3) f112 (by decide)) (in_xr (Or.inr (Or.inl rfl)) hz3)) f117 (by decide)))
        · refine pv_iconst (pc := 103) (v := 0) (by decide) (fm_dec dtX9_readStep 56 rfl) ?_
          refine pv_goto (pc := 104) 115 (by decide) (fm_dec dtX9_readStep 57 rfl) ?_
          refine pv_iast (k := 30) (n := 150) (pc := 115) (by decide) rfl rfl (ix_in hz9 hz3) (fm_dec dtX9_readStep 64 rfl) ?_
          rw [i32_cl hz9]
          have hI115 : scInv Tx invX (fmI (stpM M9 n9 z) 30 z 0) := xInv.put hIS (by rw [xi_30]; decide)
          refine pv_aloadn (pc := 116) (n := 1) 1 rfl rfl (fm_dec dtX9_readStep 65 rfl) ?_
          refine pv_invV0 (k := 1) (d' := 0) (pc := 117) pcv_X9_72 (by decide) rfl (Nat.le_of_ble_eq_true rfl) (by omega) (fm_dec dtX9_readStep 66 rfl) ?_
          refine s_failed hI115 (fun n117 M117 b117 m117 hI117 f117 => ?_) (fun n117 M117 b117 m117 hI117 f117 => ?_)
          · refine pv_then1 ?_
            refine pv_if_ne (pc := 120) 127 (by decide) (fm_dec dtX9_readStep 67 rfl) (fun hc120 => by exfalso; exact hc120 (n_0 b117)) (fun _ => ?_)
            refine pv_iconst (pc := 123) (v := 1) (by decide) (fm_dec dtX9_readStep 68 rfl) ?_
            refine pv_goto (pc := 124) 128 (by decide) (fm_dec dtX9_readStep 69 rfl) ?_
            exact pv_zreturn (pc := 128) rfl (by first | exact Or.inr rfl | exact Or.inl rfl) (fm_dec dtX9_readStep 71 rfl) (hE.1 M117 hI117 (scFr.trans (scFr.toI (stpM_fr (scFr.trans (scFr.trans scFr.rfl f1 (by decide)) f9 (by decide)) hz3) (in_xr (Or.inr (Or.inl rfl)) hz3)) f117 (by decide)) (xR.one hc60 (xT.trans (xT.of1 f1) (xT.of3 f9)) hz9 hz3 (xT.refl _) (show 0 ≤ (0 : Int32).toInt ∧ (0 : Int32).toInt ≤ 7 by decide) (fun k i hk => (f117 k i rfl).1)))
          · refine pv_then1 ?_
            refine pv_if_ne (pc := 120) 127 (by decide) (fm_dec dtX9_readStep 67 rfl) (fun _ => ?_) (fun hc120 => by exfalso; rw [hc120] at b117; exact absurd b117 (by decide))
            refine pv_iconst (pc := 127) (v := 0) (by decide) (fm_dec dtX9_readStep 70 rfl) ?_
            exact pv_zreturn (pc := 128) rfl (by first | exact Or.inr rfl | exact Or.inl rfl) (fm_dec dtX9_readStep 71 rfl) (hE.2 M117 hI117 (scFr.trans (scFr.toI (stpM_fr (scFr.trans (scFr.trans scFr.rfl f1 (by decide)) f9 (by decide)) hz3) (in_xr (Or.inr (Or.inl rfl)) hz3)) f117 (by decide)))
      · refine pv_iloadn (pc := 63) (n := 3) 3 rfl rfl (fm_dec dtX9_readStep 33 rfl) ?_
        refine pv_bipush (pc := 64) (v := 6) (by decide) (fm_dec dtX9_readStep 34 rfl) ?_
        refine pv_icmp_lt (pc := 66) 79 (by decide) (fm_dec dtX9_readStep 35 rfl) (fun _ => ?_) (fun hc66 => by exfalso; apply hc66; rw [sc_lt]; have h9 : (6 : Int32).toInt = 6 := (by decide); omega)
        have e9 : n9 = 4 := hc60
        refine pv_aloadn (pc := 79) (n := 0) 0 rfl rfl (fm_dec dtX9_readStep 41 rfl) ?_
        refine pv_aloadn (pc := 80) (n := 1) 1 rfl rfl (fm_dec dtX9_readStep 42 rfl) ?_
        refine pv_iloadn (pc := 81) (n := 2) 2 rfl rfl (fm_dec dtX9_readStep 43 rfl) ?_
        refine pv_iloadn (pc := 82) (n := 3) 3 rfl rfl (fm_dec dtX9_readStep 44 rfl) ?_
        refine pv_iconst (pc := 83) (v := 1) (by decide) (fm_dec dtX9_readStep 45 rfl) ?_
        refine pv_iadd (pc := 84) (fm_dec dtX9_readStep 46 rfl) ?_
        refine pv_iload (pc := 85) (i := 6) rfl (fm_dec dtX9_readStep 47 rfl) ?_
        refine pv_invV4 (k := 28) (d' := (9 + 3 * (j - 1))) (pc := 87) pcv_X9_64 (by decide) rfl (Nat.le_of_ble_eq_true rfl) (by omega) (fm_dec dtX9_readStep 48 rfl) ?_
        refine hA (stpM M9 n9 z) _ z (o + 1) lv (op + 1) _ hIS (by unfold stpM; rw [fmI_k _ _ (by decide), fmI_s]; exact i32_p1 hz9 (by omega)) hz3 hz9 (by unfold stpM; rw [fmI_s, e9]; decide) hlv (i32_p1 hop (by omega)) (by omega) ⟨fun M87 hI87 f87 k87 => ?_, fun M87 hI87 f87 => ?_⟩  
        · refine pv_then1 ?_
          exact pv_zreturn (pc := 90) rfl (by first | exact Or.inr rfl | exact Or.inl rfl) (fm_dec dtX9_readStep 49 rfl) (hE.1 M87 hI87 (scFr.trans (stpM_fr (scFr.trans (scFr.trans scFr.rfl f1 (by decide)) f9 (by decide)) hz3) f87 (by decide)) (xR.ag (xT.trans (xT.of1 f1) (xT.of3 f9)) k87))
        · refine pv_then1 ?_
          exact pv_zreturn (pc := 90) rfl (by first | exact Or.inr rfl | exact Or.inl rfl) (fm_dec dtX9_readStep 49 rfl) (hE.2 M87 hI87 (scFr.trans (stpM_fr (scFr.trans (scFr.trans scFr.rfl f1 (by decide)) f9 (by decide)) hz3) f87 (by decide)))
    · refine pv_iconst (pc := 30) (v := 0) (by decide) (fm_dec dtX9_readStep 14 rfl) ?_
      exact pv_zreturn (pc := 31) rfl (by first | exact Or.inr rfl | exact Or.inl rfl) (fm_dec dtX9_readStep 15 rfl) (hE.2 M9 hI9 (scFr.trans (scFr.trans scFr.rfl f1 (by decide)) f9 (by decide)))
theorem xg_all : ∀ j, xG j := by
  intro j
  induction j with
  | zero => exact xs_G xt_0
  | succ j ih => exact xs_G (xt_G (by omega) (xa_G ih))
