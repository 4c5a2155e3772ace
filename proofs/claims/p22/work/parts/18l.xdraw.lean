-- THE CLASS READS A DRAWER
/-- what a drawer says stands in the cells from b on -/
def xdw (b : Nat) (M : fmM) (D : dD) : Prop := ((M.1 b 9).toInt = (D.1 : Int) ∧ (M.1 b 10).toInt = (D.2.2.1 : Int) ∧ (M.1 b 11).toInt = D.2.2.2.2 2 ∧ (M.1 b 12).toInt = D.2.2.2.2 3 ∧ (M.1 b 13).toInt = D.2.2.2.2 4 ∧ (M.1 b 14).toInt = D.2.2.2.2 5) ∧ (∀ i, i < D.1 → ∀ j, j < 6 → (M.1 (b + 1 + j) i).toInt = D.2.1 i j) ∧ ∀ i, i < D.2.2.1 → ∀ j, j < 3 → (M.1 (b + 7 + j) i).toInt = D.2.2.2.1 i j
def dfFr (M M' : fmM) : Prop := (∀ k j, k ≠ 1 → ¬ (13 ≤ k ∧ k < 23) → M'.1 k j = M.1 k j ∧ M'.2 k j = M.2 k j) ∧ (∀ j, j ≠ 3 → j ≠ 4 → j ≠ 5 → M'.1 1 j = M.1 1 j)
def tok (M M' : fmM) (tx : tX) (n q : Nat) (D : dD) : Prop := xS2 M' tx n q ∧ M'.1 1 4 = 0 ∧ scInv Tx invX M' ∧ xdw 13 M' D ∧ dfFr M M'
def tbad (M M' : fmM) (k a : Nat) : Prop := (M'.1 1 4).toInt = k ∧ (M'.1 1 5).toInt = a ∧ k ≠ 0 ∧ dfFr M M' ∧ scInv Tx invX M'
theorem dfFr.refl (M : fmM) : dfFr M M := ⟨fun _ _ _ _ => ⟨rfl, rfl⟩, fun _ _ _ _ => rfl⟩
theorem dfFr.trans {M M1 M2 : fmM} (h : dfFr M M1) (h' : dfFr M1 M2) : dfFr M M2 := ⟨fun k j a b => ⟨(h'.1 k j a b).1.trans (h.1 k j a b).1, (h'.1 k j a b).2.trans (h.1 k j a b).2⟩, fun j a b c => (h'.2 j a b c).trans (h.2 j a b c)⟩
theorem xdFr.df {M M' : fmM} (h : xdFr M M') : dfFr M M' := ⟨fun k j a _ => h.1 k j a, h.2⟩
theorem dfFr.put {M M1 : fmM} {k j : Nat} {x : Int32} (h : dfFr M M1) (hk : 13 ≤ k ∧ k < 23) : dfFr M (fmI M1 k j x) := by
  refine ⟨fun k' j' a b => ⟨?_, (h.1 k' j' a b).2⟩, fun j' a b c => ?_⟩
  · rw [fmI_k _ _ (by intro h9; exact b (h9 ▸ hk))]
    exact (h.1 k' j' a b).1
  · rw [fmI_k _ _ (by omega)]
    exact h.2 j' a b c
theorem xdBad.tb {M M' : fmM} {k a : Nat} (h : xdBad M M' k a) : tbad M M' k a := ⟨h.1, h.2.1, h.2.2.1, h.2.2.2.1.df, h.2.2.2.2⟩
theorem tbad.fr {M0 M M' : fmM} {k a : Nat} (h : tbad M M' k a) (hF : dfFr M0 M) : tbad M0 M' k a := ⟨h.1, h.2.1, h.2.2.1, hF.trans h.2.2.2.1, h.2.2.2.2⟩
theorem tbad.nz {M M' : fmM} {k a : Nat} (h : tbad M M' k a) : ¬ M'.1 1 4 = 0 := by
  intro h9
  have h1 := h.1
  have h2 := h.2.2.1
  rw [h9] at h1
  have h3 : (0 : Int32).toInt = 0 := by decide
  omega
theorem tok.fr {M0 M M' : fmM} {tx : tX} {n q : Nat} {D : dD} (h : tok M M' tx n q D) (hF : dfFr M0 M) : tok M0 M' tx n q D := ⟨h.1, h.2.1, h.2.2.1, h.2.2.2.1, hF.trans h.2.2.2.2⟩
theorem xdw.of {b : Nat} {M M' : fmM} {D : dD} (h : xdw b M D) (he : ∀ k j, b ≤ k → k < b + 10 → M'.1 k j = M.1 k j) : xdw b M' D := by
  obtain ⟨⟨h1, h2, h3, h4, h5, h6⟩, h7, h8⟩ := h
  refine ⟨⟨?_, ?_, ?_, ?_, ?_, ?_⟩, fun i hi j hj => ?_, fun i hi j hj => ?_⟩
  · rw [he _ _ (by omega) (by omega)]; exact h1
  · rw [he _ _ (by omega) (by omega)]; exact h2
  · rw [he _ _ (by omega) (by omega)]; exact h3
  · rw [he _ _ (by omega) (by omega)]; exact h4
  · rw [he _ _ (by omega) (by omega)]; exact h5
  · rw [he _ _ (by omega) (by omega)]; exact h6
  · rw [he _ _ (by omega) (by omega)]; exact h7 i hi j hj
  · rw [he _ _ (by omega) (by omega)]; exact h8 i hi j hj
theorem xdw.xd {M M' : fmM} {D : dD} (h : xdw 13 M D) (hF : xdFr M M') : xdw 13 M' D := h.of (fun k j a _ => (hF.1 k j (by omega)).1)
def clLife (tx : tX) (D : dD) (q : Nat) : tR dD := spBind (spNum tx 0 110 q) fun a q => spBind (spNum tx 0 64 q) fun b q => spBind (spNum tx 1 99 q) fun c q => spBind (spNum tx 1 9 q) fun d q => .inr ((D.1 + 1, dRow D.2.1 D.1 [a, b, c, d, -1, -1], D.2.2), q)
def clFact (tx : tX) (D : dD) (q : Nat) : tR dD := spBind (spNum tx 0 ((D.1 : Int) - 1) q) fun a q => spBind (spNum tx 0 5 q) fun b q => spBind (spNum tx 1 60 q) fun c q => .inr ((D.1, D.2.1, D.2.2.1 + 1, dRow D.2.2.2.1 D.2.2.1 [a, b, c], D.2.2.2.2), q)
def clHas (tx : tX) (D : dD) (q : Nat) : tR dD := spBind (spNum tx 0 ((D.1 : Int) - 1) q) fun a q => spBind (spNum tx 0 40 q) fun b q => .inr ((D.1, dSet D.2.1 a 4 b, D.2.2), q)
def clBy (tx : tX) (D : dD) (q : Nat) : tR dD := spBind (spNum tx 0 ((D.1 : Int) - 1) q) fun a q => spBind (spNum tx 0 ((D.1 : Int) - 1) q) fun b q2 => if a = b then .inl (2, sk tx q) else .inr ((D.1, dSet D.2.1 a 5 b, D.2.2), q2)
def clRule (tx : tX) (D : dD) (k q : Nat) : tR dD := spBind (spNum tx (dLo k) (dHi k) q) fun v q => .inr ((D.1, D.2.1, D.2.2.1, D.2.2.2.1, fun k' => if k' = k then (v : Int) else D.2.2.2.2 k'), q)
def clB (tx : tX) (D : dD) (k q : Nat) : tR dD := match k with
  | 0 => clLife tx D q
  | 1 => clFact tx D q
  | 6 => clHas tx D q
  | 7 => clBy tx D q
  | k => clRule tx D k q
def cBody (tx : tX) (c : Nat) (D : dD) (p : Nat) : tR dD := match dwK (wd tx (sk tx p)) with
  | none => .inl (1, sk tx p)
  | some k => if c = 60 ∨ (k = 0 ∧ D.1 = 8) ∨ (k = 1 ∧ D.2.2.1 = 24) then .inl (3, sk tx p) else clB tx D k (sp tW tx (sk tx p))
def sgB (tx : tX) (D : dD) (q : Nat) : tR dD := spBind (spSign tx 59 q) fun _ q => .inr (D, q)
theorem spBind_a {α β γ : Type} (r : tR α) (f : α → Nat → tR β) (g : β → Nat → tR γ) : spBind (spBind r f) g = spBind r (fun a q => spBind (f a q) g) := by
  rcases r with e | ⟨v, q⟩ <;> rfl
theorem B_life (tx : tX) (D : dD) (q : Nat) : spLife tx D q = spBind (clLife tx D q) (sgB tx) := by
  unfold spLife clLife
  simp only [spBind_a]
  rfl
theorem B_fact (tx : tX) (D : dD) (q : Nat) : spFact tx D q = spBind (clFact tx D q) (sgB tx) := by
  unfold spFact clFact
  simp only [spBind_a]
  rfl
theorem B_has (tx : tX) (D : dD) (q : Nat) : spHas tx D q = spBind (clHas tx D q) (sgB tx) := by
  unfold spHas clHas
  simp only [spBind_a]
  rfl
theorem B_rule (tx : tX) (D : dD) (k q : Nat) : spRule tx D k q = spBind (clRule tx D k q) (sgB tx) := by
  unfold spRule clRule
  simp only [spBind_a]
  rfl
theorem B_by (tx : tX) (D : dD) (q : Nat) : spBy tx D q = spBind (clBy tx D q) (sgB tx) := by
  unfold spBy clBy
  simp only [spBind_a]
  congr 1
  funext a q
  congr 1
  funext b q2
  split <;> rfl
theorem spClause_B (tx : tX) (c : Nat) (D : dD) (p : Nat) : spClause tx c D p = spBind (cBody tx c D p) (sgB tx) := by
  unfold spClause cBody
  cases hk : dwK (wd tx (sk tx p)) with
  | none => rfl
  | some k =>
    by_cases hf : c = 60 ∨ (k = 0 ∧ D.1 = 8) ∨ (k = 1 ∧ D.2.2.1 = 24)
    · simp only [if_pos hf]
      rfl
    · simp only [if_neg hf]
      clear hk hf
      rcases k with _ | _ | _ | _ | _ | _ | _ | _ | k
      · exact B_life tx D _
      · exact B_fact tx D _
      · exact B_rule tx D 2 _
      · exact B_rule tx D 3 _
      · exact B_rule tx D 4 _
      · exact B_rule tx D 5 _
      · exact B_has tx D _
      · exact B_by tx D _
      · exact B_rule tx D (k + 8) _
theorem cBody_sk {tx : tX} {n c p : Nat} {D : dD} (ht : tOk tx n) (hp : p ≤ n) : cBody tx c D (sk tx p) = cBody tx c D p := by
  unfold cBody
  rw [sk_sk ht hp]
def kkF (j : Nat) : Nat := [0, 6, 7, 1, 2, 3, 4, 5].getD j 9
theorem dwK_of {u : List Int} {j : Nat} (h : wdI wsTold u 0 = some j) : dwK u = some (kkF j) ∧ j < 8 := by
  by_cases e0 : u = [108, 105, 102, 101]
  · subst e0
    have e9 : wdI wsTold [108, 105, 102, 101] 0 = some 0 := by decide
    rw [e9] at h
    cases h
    exact ⟨by decide, by decide⟩
  by_cases e1 : u = [104, 97, 115]
  · subst e1
    have e9 : wdI wsTold [104, 97, 115] 0 = some 1 := by decide
    rw [e9] at h
    cases h
    exact ⟨by decide, by decide⟩
  by_cases e2 : u = [98, 121]
  · subst e2
    have e9 : wdI wsTold [98, 121] 0 = some 2 := by decide
    rw [e9] at h
    cases h
    exact ⟨by decide, by decide⟩
  by_cases e3 : u = [102, 97, 99, 116]
  · subst e3
    have e9 : wdI wsTold [102, 97, 99, 116] 0 = some 3 := by decide
    rw [e9] at h
    cases h
    exact ⟨by decide, by decide⟩
  by_cases e4 : u = [104, 111, 117, 114, 115]
  · subst e4
    have e9 : wdI wsTold [104, 111, 117, 114, 115] 0 = some 4 := by decide
    rw [e9] at h
    cases h
    exact ⟨by decide, by decide⟩
  by_cases e5 : u = [108, 97, 99, 107]
  · subst e5
    have e9 : wdI wsTold [108, 97, 99, 107] 0 = some 5 := by decide
    rw [e9] at h
    cases h
    exact ⟨by decide, by decide⟩
  by_cases e6 : u = [119, 114, 111, 110, 103]
  · subst e6
    have e9 : wdI wsTold [119, 114, 111, 110, 103] 0 = some 6 := by decide
    rw [e9] at h
    cases h
    exact ⟨by decide, by decide⟩
  by_cases e7 : u = [104, 97, 108, 102]
  · subst e7
    have e9 : wdI wsTold [104, 97, 108, 102] 0 = some 7 := by decide
    rw [e9] at h
    cases h
    exact ⟨by decide, by decide⟩
  have e9 : wdI wsTold u 0 = none := by simp only [wdI, wsTold, e0, e1, e2, e3, e4, e5, e6, e7, if_false]
  rw [e9] at h
  cases h
theorem dwK_no {u : List Int} (h : wdI wsTold u 0 = none) : dwK u = none := by
  by_cases e0 : u = [108, 105, 102, 101]
  · subst e0
    have e9 : wdI wsTold [108, 105, 102, 101] 0 = some 0 := by decide
    rw [e9] at h
    cases h
  by_cases e1 : u = [104, 97, 115]
  · subst e1
    have e9 : wdI wsTold [104, 97, 115] 0 = some 1 := by decide
    rw [e9] at h
    cases h
  by_cases e2 : u = [98, 121]
  · subst e2
    have e9 : wdI wsTold [98, 121] 0 = some 2 := by decide
    rw [e9] at h
    cases h
  by_cases e3 : u = [102, 97, 99, 116]
  · subst e3
    have e9 : wdI wsTold [102, 97, 99, 116] 0 = some 3 := by decide
    rw [e9] at h
    cases h
  by_cases e4 : u = [104, 111, 117, 114, 115]
  · subst e4
    have e9 : wdI wsTold [104, 111, 117, 114, 115] 0 = some 4 := by decide
    rw [e9] at h
    cases h
  by_cases e5 : u = [108, 97, 99, 107]
  · subst e5
    have e9 : wdI wsTold [108, 97, 99, 107] 0 = some 5 := by decide
    rw [e9] at h
    cases h
  by_cases e6 : u = [119, 114, 111, 110, 103]
  · subst e6
    have e9 : wdI wsTold [119, 114, 111, 110, 103] 0 = some 6 := by decide
    rw [e9] at h
    cases h
  by_cases e7 : u = [104, 97, 108, 102]
  · subst e7
    have e9 : wdI wsTold [104, 97, 108, 102] 0 = some 7 := by decide
    rw [e9] at h
    cases h
  simp only [dwK, e0, e1, e2, e3, e4, e5, e6, e7, if_false]
abbrev cc_X7_takeNumber_22 : scC := (qX7_takeNumber, 2, [(0, 0), (110, 110), (1, 3)], [.inr (.inr (.inl [1])), .inl (some 0, 0), .inl (some 1, 0)], [((1, 4), (some 2, 0))], [(1, (0, 110), [], [], [((1, 4), (1, 3))]), (1, ((-1), (-1)), [], [], [((1, 4), (1, 3))])], [(1, 3, 1)])
set_option maxRecDepth 20000 in
abbrev xx_X7_takeNumber_22 : scX := (Tx, invX, lnX7, [(35, 0, 7, cc_X7_fail_3), (39, 0, 7, cc_X7_nextPlace_0)], cc_X7_takeNumber_22)
set_option maxRecDepth 20000 in
theorem hh_X7_takeNumber_22 : scH Tx invX cc_X7_takeNumber_22 := scCheck_ok (X := xx_X7_takeNumber_22) (nodes := [(8, ([(0, 0), (110, 110), (0, 600), ((-2147483648), 1000000), (1, 3), (0, 600), (0, 600)], [some (.inr (.inr (.inl [1]))), some (.inl (some 0, 0)), some (.inl (some 1, 0)), some (.inl (some 2, 0)), some (.inl (some 3, 0))], [], [((1, 4), (some 4, 0)), ((1, 3), (some 5, 0)), ((1, 2), (some 6, 0))]), ([0, 0, 0, 0, 0, (-2)], 1200))]) (fuel := 4000) ⟨lqX7, fa_cons (⟨⟨2, _, pcv_X7_35, rfl⟩, hh_X7_fail_3⟩) (fa_cons (⟨⟨0, _, pcv_X7_39, rfl⟩, hh_X7_nextPlace_0⟩) (fa_nil))⟩ dtX7_takeNumber (by decide +kernel)
theorem s_numF110 {M : fmM} {Q : fmR → fmM → Prop} {x1 : Int32} (bx1 : 0 ≤ x1.toInt ∧ x1.toInt ≤ 0) {x2 : Int32} (bx2 : 110 ≤ x2.toInt ∧ x2.toInt ≤ 110) (f1_4 : 1 ≤ (M.1 1 4).toInt ∧ (M.1 1 4).toInt ≤ 3) (hI : scInv Tx invX M) (q0 : ∀ (n : Int32) (M' : fmM), (0 ≤ n.toInt ∧ n.toInt ≤ 110) → (1 ≤ (M'.1 1 4).toInt ∧ (M'.1 1 4).toInt ≤ 3) → scInv Tx invX M' → scFr [(1, 3, 1)] M M' → Q (.inl (some (.int n))) M') (q1 : ∀ (n : Int32) (M' : fmM), ((-1) ≤ n.toInt ∧ n.toInt ≤ (-1)) → (1 ≤ (M'.1 1 4).toInt ∧ (M'.1 1 4).toInt ≤ 3) → scInv Tx invX M' → scFr [(1, 3, 1)] M M' → Q (.inl (some (.int n))) M') : pvGood Tx 2 qX7_takeNumber [.ref 1, .int x1, .int x2] M Q := (hh_X7_takeNumber_22 M [x1.toInt, x2.toInt, (M.1 1 4).toInt] [.ref 1, .int x1, .int x2] (scEk.c1 bx1 (scEk.c1 bx2 (scEk.c1 f1_4 scEk.n0))) ⟨⟨1, by simp, rfl⟩, ⟨x1, rfl, scEv.at rfl⟩, ⟨x2, rfl, scEv.at rfl⟩, trivial⟩ (fun f hf => by rw [List.mem_singleton.mp hf]; exact scEv.at rfl) hI).imp (fun r M' h => by
  obtain ⟨⟨o, ho, hr, hf9, hm⟩, h1, h2⟩ := h
  rcases List.mem_cons.mp ho with rfl | ho
  · obtain ⟨n, rfl, c1, c2⟩ := hr; exact q0 n M' ⟨c1, c2⟩ (hm _ List.mem_cons_self) h1 h2
  rcases List.mem_cons.mp ho with rfl | ho
  · obtain ⟨n, rfl, c1, c2⟩ := hr; exact q1 n M' ⟨c1, c2⟩ (hm _ List.mem_cons_self) h1 h2
  · cases ho)
theorem s_numF64 {M : fmM} {Q : fmR → fmM → Prop} {x1 : Int32} (bx1 : 0 ≤ x1.toInt ∧ x1.toInt ≤ 0) {x2 : Int32} (bx2 : 64 ≤ x2.toInt ∧ x2.toInt ≤ 64) (f1_4 : 1 ≤ (M.1 1 4).toInt ∧ (M.1 1 4).toInt ≤ 3) (hI : scInv Tx invX M) (q0 : ∀ (n : Int32) (M' : fmM), (0 ≤ n.toInt ∧ n.toInt ≤ 64) → (1 ≤ (M'.1 1 4).toInt ∧ (M'.1 1 4).toInt ≤ 3) → scInv Tx invX M' → scFr [(1, 3, 1)] M M' → Q (.inl (some (.int n))) M') (q1 : ∀ (n : Int32) (M' : fmM), ((-1) ≤ n.toInt ∧ n.toInt ≤ (-1)) → (1 ≤ (M'.1 1 4).toInt ∧ (M'.1 1 4).toInt ≤ 3) → scInv Tx invX M' → scFr [(1, 3, 1)] M M' → Q (.inl (some (.int n))) M') : pvGood Tx 2 qX7_takeNumber [.ref 1, .int x1, .int x2] M Q := (hh_X7_takeNumber_1 M [x1.toInt, x2.toInt, (M.1 1 4).toInt] [.ref 1, .int x1, .int x2] (scEk.c1 bx1 (scEk.c1 bx2 (scEk.c1 f1_4 scEk.n0))) ⟨⟨1, by simp, rfl⟩, ⟨x1, rfl, scEv.at rfl⟩, ⟨x2, rfl, scEv.at rfl⟩, trivial⟩ (fun f hf => by rw [List.mem_singleton.mp hf]; exact scEv.at rfl) hI).imp (fun r M' h => by
  obtain ⟨⟨o, ho, hr, hf9, hm⟩, h1, h2⟩ := h
  rcases List.mem_cons.mp ho with rfl | ho
  · obtain ⟨n, rfl, c1, c2⟩ := hr; exact q0 n M' ⟨c1, c2⟩ (hm _ List.mem_cons_self) h1 h2
  rcases List.mem_cons.mp ho with rfl | ho
  · obtain ⟨n, rfl, c1, c2⟩ := hr; exact q1 n M' ⟨c1, c2⟩ (hm _ List.mem_cons_self) h1 h2
  · cases ho)
theorem s_numF99 {M : fmM} {Q : fmR → fmM → Prop} {x1 : Int32} (bx1 : 1 ≤ x1.toInt ∧ x1.toInt ≤ 1) {x2 : Int32} (bx2 : 99 ≤ x2.toInt ∧ x2.toInt ≤ 99) (f1_4 : 1 ≤ (M.1 1 4).toInt ∧ (M.1 1 4).toInt ≤ 3) (hI : scInv Tx invX M) (q0 : ∀ (n : Int32) (M' : fmM), (1 ≤ n.toInt ∧ n.toInt ≤ 99) → (1 ≤ (M'.1 1 4).toInt ∧ (M'.1 1 4).toInt ≤ 3) → scInv Tx invX M' → scFr [(1, 3, 1)] M M' → Q (.inl (some (.int n))) M') (q1 : ∀ (n : Int32) (M' : fmM), ((-1) ≤ n.toInt ∧ n.toInt ≤ (-1)) → (1 ≤ (M'.1 1 4).toInt ∧ (M'.1 1 4).toInt ≤ 3) → scInv Tx invX M' → scFr [(1, 3, 1)] M M' → Q (.inl (some (.int n))) M') : pvGood Tx 2 qX7_takeNumber [.ref 1, .int x1, .int x2] M Q := (hh_X7_takeNumber_2 M [x1.toInt, x2.toInt, (M.1 1 4).toInt] [.ref 1, .int x1, .int x2] (scEk.c1 bx1 (scEk.c1 bx2 (scEk.c1 f1_4 scEk.n0))) ⟨⟨1, by simp, rfl⟩, ⟨x1, rfl, scEv.at rfl⟩, ⟨x2, rfl, scEv.at rfl⟩, trivial⟩ (fun f hf => by rw [List.mem_singleton.mp hf]; exact scEv.at rfl) hI).imp (fun r M' h => by
  obtain ⟨⟨o, ho, hr, hf9, hm⟩, h1, h2⟩ := h
  rcases List.mem_cons.mp ho with rfl | ho
  · obtain ⟨n, rfl, c1, c2⟩ := hr; exact q0 n M' ⟨c1, c2⟩ (hm _ List.mem_cons_self) h1 h2
  rcases List.mem_cons.mp ho with rfl | ho
  · obtain ⟨n, rfl, c1, c2⟩ := hr; exact q1 n M' ⟨c1, c2⟩ (hm _ List.mem_cons_self) h1 h2
  · cases ho)
theorem s_numF9 {M : fmM} {Q : fmR → fmM → Prop} {x1 : Int32} (bx1 : 1 ≤ x1.toInt ∧ x1.toInt ≤ 1) {x2 : Int32} (bx2 : 9 ≤ x2.toInt ∧ x2.toInt ≤ 9) (f1_4 : 1 ≤ (M.1 1 4).toInt ∧ (M.1 1 4).toInt ≤ 3) (hI : scInv Tx invX M) (q0 : ∀ (n : Int32) (M' : fmM), (1 ≤ n.toInt ∧ n.toInt ≤ 9) → (1 ≤ (M'.1 1 4).toInt ∧ (M'.1 1 4).toInt ≤ 3) → scInv Tx invX M' → scFr [(1, 3, 1)] M M' → Q (.inl (some (.int n))) M') (q1 : ∀ (n : Int32) (M' : fmM), ((-1) ≤ n.toInt ∧ n.toInt ≤ (-1)) → (1 ≤ (M'.1 1 4).toInt ∧ (M'.1 1 4).toInt ≤ 3) → scInv Tx invX M' → scFr [(1, 3, 1)] M M' → Q (.inl (some (.int n))) M') : pvGood Tx 2 qX7_takeNumber [.ref 1, .int x1, .int x2] M Q := (hh_X7_takeNumber_3 M [x1.toInt, x2.toInt, (M.1 1 4).toInt] [.ref 1, .int x1, .int x2] (scEk.c1 bx1 (scEk.c1 bx2 (scEk.c1 f1_4 scEk.n0))) ⟨⟨1, by simp, rfl⟩, ⟨x1, rfl, scEv.at rfl⟩, ⟨x2, rfl, scEv.at rfl⟩, trivial⟩ (fun f hf => by rw [List.mem_singleton.mp hf]; exact scEv.at rfl) hI).imp (fun r M' h => by
  obtain ⟨⟨o, ho, hr, hf9, hm⟩, h1, h2⟩ := h
  rcases List.mem_cons.mp ho with rfl | ho
  · obtain ⟨n, rfl, c1, c2⟩ := hr; exact q0 n M' ⟨c1, c2⟩ (hm _ List.mem_cons_self) h1 h2
  rcases List.mem_cons.mp ho with rfl | ho
  · obtain ⟨n, rfl, c1, c2⟩ := hr; exact q1 n M' ⟨c1, c2⟩ (hm _ List.mem_cons_self) h1 h2
  · cases ho)
theorem s_numF7 {M : fmM} {Q : fmR → fmM → Prop} {x1 : Int32} (bx1 : 0 ≤ x1.toInt ∧ x1.toInt ≤ 0) {x2 : Int32} (bx2 : (-1) ≤ x2.toInt ∧ x2.toInt ≤ 7) (f1_4 : 1 ≤ (M.1 1 4).toInt ∧ (M.1 1 4).toInt ≤ 3) (hI : scInv Tx invX M) (q0 : ∀ (n : Int32) (M' : fmM), (0 ≤ n.toInt ∧ n.toInt ≤ 7) → (1 ≤ (M'.1 1 4).toInt ∧ (M'.1 1 4).toInt ≤ 3) → scInv Tx invX M' → scFr [(1, 3, 1)] M M' → Q (.inl (some (.int n))) M') (q1 : ∀ (n : Int32) (M' : fmM), ((-1) ≤ n.toInt ∧ n.toInt ≤ (-1)) → (1 ≤ (M'.1 1 4).toInt ∧ (M'.1 1 4).toInt ≤ 3) → scInv Tx invX M' → scFr [(1, 3, 1)] M M' → Q (.inl (some (.int n))) M') : pvGood Tx 2 qX7_takeNumber [.ref 1, .int x1, .int x2] M Q := (hh_X7_takeNumber_12 M [x1.toInt, x2.toInt, (M.1 1 4).toInt] [.ref 1, .int x1, .int x2] (scEk.c1 bx1 (scEk.c1 bx2 (scEk.c1 f1_4 scEk.n0))) ⟨⟨1, by simp, rfl⟩, ⟨x1, rfl, scEv.at rfl⟩, ⟨x2, rfl, scEv.at rfl⟩, trivial⟩ (fun f hf => by rw [List.mem_singleton.mp hf]; exact scEv.at rfl) hI).imp (fun r M' h => by
  obtain ⟨⟨o, ho, hr, hf9, hm⟩, h1, h2⟩ := h
  rcases List.mem_cons.mp ho with rfl | ho
  · obtain ⟨n, rfl, c1, c2⟩ := hr; exact q0 n M' ⟨c1, c2⟩ (hm _ List.mem_cons_self) h1 h2
  rcases List.mem_cons.mp ho with rfl | ho
  · obtain ⟨n, rfl, c1, c2⟩ := hr; exact q1 n M' ⟨c1, c2⟩ (hm _ List.mem_cons_self) h1 h2
  · cases ho)
theorem s_numF40 {M : fmM} {Q : fmR → fmM → Prop} {x1 : Int32} (bx1 : 0 ≤ x1.toInt ∧ x1.toInt ≤ 0) {x2 : Int32} (bx2 : 40 ≤ x2.toInt ∧ x2.toInt ≤ 40) (f1_4 : 1 ≤ (M.1 1 4).toInt ∧ (M.1 1 4).toInt ≤ 3) (hI : scInv Tx invX M) (q0 : ∀ (n : Int32) (M' : fmM), (0 ≤ n.toInt ∧ n.toInt ≤ 40) → (1 ≤ (M'.1 1 4).toInt ∧ (M'.1 1 4).toInt ≤ 3) → scInv Tx invX M' → scFr [(1, 3, 1)] M M' → Q (.inl (some (.int n))) M') (q1 : ∀ (n : Int32) (M' : fmM), ((-1) ≤ n.toInt ∧ n.toInt ≤ (-1)) → (1 ≤ (M'.1 1 4).toInt ∧ (M'.1 1 4).toInt ≤ 3) → scInv Tx invX M' → scFr [(1, 3, 1)] M M' → Q (.inl (some (.int n))) M') : pvGood Tx 2 qX7_takeNumber [.ref 1, .int x1, .int x2] M Q := (hh_X7_takeNumber_13 M [x1.toInt, x2.toInt, (M.1 1 4).toInt] [.ref 1, .int x1, .int x2] (scEk.c1 bx1 (scEk.c1 bx2 (scEk.c1 f1_4 scEk.n0))) ⟨⟨1, by simp, rfl⟩, ⟨x1, rfl, scEv.at rfl⟩, ⟨x2, rfl, scEv.at rfl⟩, trivial⟩ (fun f hf => by rw [List.mem_singleton.mp hf]; exact scEv.at rfl) hI).imp (fun r M' h => by
  obtain ⟨⟨o, ho, hr, hf9, hm⟩, h1, h2⟩ := h
  rcases List.mem_cons.mp ho with rfl | ho
  · obtain ⟨n, rfl, c1, c2⟩ := hr; exact q0 n M' ⟨c1, c2⟩ (hm _ List.mem_cons_self) h1 h2
  rcases List.mem_cons.mp ho with rfl | ho
  · obtain ⟨n, rfl, c1, c2⟩ := hr; exact q1 n M' ⟨c1, c2⟩ (hm _ List.mem_cons_self) h1 h2
  · cases ho)
theorem s_numF5 {M : fmM} {Q : fmR → fmM → Prop} {x1 : Int32} (bx1 : 0 ≤ x1.toInt ∧ x1.toInt ≤ 0) {x2 : Int32} (bx2 : 5 ≤ x2.toInt ∧ x2.toInt ≤ 5) (f1_4 : 1 ≤ (M.1 1 4).toInt ∧ (M.1 1 4).toInt ≤ 3) (hI : scInv Tx invX M) (q0 : ∀ (n : Int32) (M' : fmM), (0 ≤ n.toInt ∧ n.toInt ≤ 5) → (1 ≤ (M'.1 1 4).toInt ∧ (M'.1 1 4).toInt ≤ 3) → scInv Tx invX M' → scFr [(1, 3, 1)] M M' → Q (.inl (some (.int n))) M') (q1 : ∀ (n : Int32) (M' : fmM), ((-1) ≤ n.toInt ∧ n.toInt ≤ (-1)) → (1 ≤ (M'.1 1 4).toInt ∧ (M'.1 1 4).toInt ≤ 3) → scInv Tx invX M' → scFr [(1, 3, 1)] M M' → Q (.inl (some (.int n))) M') : pvGood Tx 2 qX7_takeNumber [.ref 1, .int x1, .int x2] M Q := (hh_X7_takeNumber_8 M [x1.toInt, x2.toInt, (M.1 1 4).toInt] [.ref 1, .int x1, .int x2] (scEk.c1 bx1 (scEk.c1 bx2 (scEk.c1 f1_4 scEk.n0))) ⟨⟨1, by simp, rfl⟩, ⟨x1, rfl, scEv.at rfl⟩, ⟨x2, rfl, scEv.at rfl⟩, trivial⟩ (fun f hf => by rw [List.mem_singleton.mp hf]; exact scEv.at rfl) hI).imp (fun r M' h => by
  obtain ⟨⟨o, ho, hr, hf9, hm⟩, h1, h2⟩ := h
  rcases List.mem_cons.mp ho with rfl | ho
  · obtain ⟨n, rfl, c1, c2⟩ := hr; exact q0 n M' ⟨c1, c2⟩ (hm _ List.mem_cons_self) h1 h2
  rcases List.mem_cons.mp ho with rfl | ho
  · obtain ⟨n, rfl, c1, c2⟩ := hr; exact q1 n M' ⟨c1, c2⟩ (hm _ List.mem_cons_self) h1 h2
  · cases ho)
theorem s_numF60 {M : fmM} {Q : fmR → fmM → Prop} {x1 : Int32} (bx1 : 1 ≤ x1.toInt ∧ x1.toInt ≤ 1) {x2 : Int32} (bx2 : 60 ≤ x2.toInt ∧ x2.toInt ≤ 60) (f1_4 : 1 ≤ (M.1 1 4).toInt ∧ (M.1 1 4).toInt ≤ 3) (hI : scInv Tx invX M) (q0 : ∀ (n : Int32) (M' : fmM), (1 ≤ n.toInt ∧ n.toInt ≤ 60) → (1 ≤ (M'.1 1 4).toInt ∧ (M'.1 1 4).toInt ≤ 3) → scInv Tx invX M' → scFr [(1, 3, 1)] M M' → Q (.inl (some (.int n))) M') (q1 : ∀ (n : Int32) (M' : fmM), ((-1) ≤ n.toInt ∧ n.toInt ≤ (-1)) → (1 ≤ (M'.1 1 4).toInt ∧ (M'.1 1 4).toInt ≤ 3) → scInv Tx invX M' → scFr [(1, 3, 1)] M M' → Q (.inl (some (.int n))) M') : pvGood Tx 2 qX7_takeNumber [.ref 1, .int x1, .int x2] M Q := (hh_X7_takeNumber_9 M [x1.toInt, x2.toInt, (M.1 1 4).toInt] [.ref 1, .int x1, .int x2] (scEk.c1 bx1 (scEk.c1 bx2 (scEk.c1 f1_4 scEk.n0))) ⟨⟨1, by simp, rfl⟩, ⟨x1, rfl, scEv.at rfl⟩, ⟨x2, rfl, scEv.at rfl⟩, trivial⟩ (fun f hf => by rw [List.mem_singleton.mp hf]; exact scEv.at rfl) hI).imp (fun r M' h => by
  obtain ⟨⟨o, ho, hr, hf9, hm⟩, h1, h2⟩ := h
  rcases List.mem_cons.mp ho with rfl | ho
  · obtain ⟨n, rfl, c1, c2⟩ := hr; exact q0 n M' ⟨c1, c2⟩ (hm _ List.mem_cons_self) h1 h2
  rcases List.mem_cons.mp ho with rfl | ho
  · obtain ⟨n, rfl, c1, c2⟩ := hr; exact q1 n M' ⟨c1, c2⟩ (hm _ List.mem_cons_self) h1 h2
  · cases ho)
set_option maxRecDepth 20000 in
theorem xf_readLife34 {Q : fmR → fmM → Prop} {M0 M : fmM} {k a : Nat} {x2 x3 x4 x5 : Int32} (bb : xdBad M0 M k a) (hI9 : (M.1 13 9).toInt ≤ 8 ∧ 0 ≤ (M.1 13 9).toInt) (hq : ∀ M2 : fmM, xdBad M0 M2 k a → Q (.inl (some (.int 0))) M2) : pvEv Tx 3 qX8_readLife 34 [some (.ref 13), some (.ref 1), some (.int x2), some (.int x3), some (.int x4), some (.int x5)] [] M Q := by
  refine pv_aloadn (pc := 34) (n := 1) 1 rfl rfl (fm_dec dtX8_readLife 20 rfl) ?_
  refine pv_invV0 (k := 1) (d' := 0) (pc := 35) pcv_X8_117 (by decide) rfl (Nat.le_of_ble_eq_true rfl) (by decide) (fm_dec dtX8_readLife 21 rfl) ?_
  refine c_xfailed (fun h9 => absurd h9 bb.nz) (fun _ => ?_) 
  refine pv_then1 ?_
  refine pv_if_ne (pc := 38) 50 (by decide) (fm_dec dtX8_readLife 22 rfl) (fun _ => ?_) (fun hc38 => by exfalso; revert hc38; decide)
  refine pv_iconst (pc := 50) (v := 0) (by decide) (fm_dec dtX8_readLife 27 rfl) ?_
  exact pv_zreturn (pc := 51) rfl (by first | exact Or.inr rfl | exact Or.inl rfl) (fm_dec dtX8_readLife 28 rfl) (hq _ bb)
set_option maxRecDepth 20000 in
theorem xf_readLife25 {Q : fmR → fmM → Prop} {M0 M : fmM} {k a : Nat} {x2 x3 x4 : Int32} {v5 : Option Value} (bb : xdBad M0 M k a) (hI9 : (M.1 13 9).toInt ≤ 8 ∧ 0 ≤ (M.1 13 9).toInt) (hq : ∀ M2 : fmM, xdBad M0 M2 k a → Q (.inl (some (.int 0))) M2) : pvEv Tx 3 qX8_readLife 25 [some (.ref 13), some (.ref 1), some (.int x2), some (.int x3), some (.int x4), v5] [] M Q := by
  refine pv_aloadn (pc := 25) (n := 1) 1 rfl rfl (fm_dec dtX8_readLife 15 rfl) ?_
  refine pv_iconst (pc := 26) (v := 1) (by decide) (fm_dec dtX8_readLife 16 rfl) ?_
  refine pv_bipush (pc := 27) (v := 9) (by decide) (fm_dec dtX8_readLife 17 rfl) ?_
  refine pv_invV2 (k := 1) (d' := 2) (pc := 29) pcv_X8_113 (by decide) rfl (Nat.le_of_ble_eq_true rfl) (by decide) (fm_dec dtX8_readLife 18 rfl) ?_
  refine s_numF9 (by decide) (by decide) bb.f13 bb.2.2.2.2 (fun n29 M29 c29 m29 hI29 f29 => ?_) (fun n29 M29 c29 m29 hI29 f29 => ?_)  
  · refine pv_then1 ?_
    refine pv_istore (pc := 32) (i := 5) (by decide) rfl (fm_dec dtX8_readLife 19 rfl) ?_
    dsimp only [List.set_cons_zero, List.set_cons_succ]
    exact xf_readLife34 (bb.go f29 hI29) (by rw [(f29 13 9 rfl).1]; exact hI9) hq
  · refine pv_then1 ?_
    refine pv_istore (pc := 32) (i := 5) (by decide) rfl (fm_dec dtX8_readLife 19 rfl) ?_
    dsimp only [List.set_cons_zero, List.set_cons_succ]
    exact xf_readLife34 (bb.go f29 hI29) (by rw [(f29 13 9 rfl).1]; exact hI9) hq
set_option maxRecDepth 20000 in
theorem xf_readLife16 {Q : fmR → fmM → Prop} {M0 M : fmM} {k a : Nat} {x2 x3 : Int32} {v4 v5 : Option Value} (bb : xdBad M0 M k a) (hI9 : (M.1 13 9).toInt ≤ 8 ∧ 0 ≤ (M.1 13 9).toInt) (hq : ∀ M2 : fmM, xdBad M0 M2 k a → Q (.inl (some (.int 0))) M2) : pvEv Tx 3 qX8_readLife 16 [some (.ref 13), some (.ref 1), some (.int x2), some (.int x3), v4, v5] [] M Q := by
  refine pv_aloadn (pc := 16) (n := 1) 1 rfl rfl (fm_dec dtX8_readLife 10 rfl) ?_
  refine pv_iconst (pc := 17) (v := 1) (by decide) (fm_dec dtX8_readLife 11 rfl) ?_
  refine pv_bipush (pc := 18) (v := 99) (by decide) (fm_dec dtX8_readLife 12 rfl) ?_
  refine pv_invV2 (k := 1) (d' := 2) (pc := 20) pcv_X8_113 (by decide) rfl (Nat.le_of_ble_eq_true rfl) (by decide) (fm_dec dtX8_readLife 13 rfl) ?_
  refine s_numF99 (by decide) (by decide) bb.f13 bb.2.2.2.2 (fun n20 M20 c20 m20 hI20 f20 => ?_) (fun n20 M20 c20 m20 hI20 f20 => ?_)  
  · refine pv_then1 ?_
    refine pv_istore (pc := 23) (i := 4) (by decide) rfl (fm_dec dtX8_readLife 14 rfl) ?_
    dsimp only [List.set_cons_zero, List.set_cons_succ]
    exact xf_readLife25 (bb.go f20 hI20) (by rw [(f20 13 9 rfl).1]; exact hI9) hq
  · refine pv_then1 ?_
    refine pv_istore (pc := 23) (i := 4) (by decide) rfl (fm_dec dtX8_readLife 14 rfl) ?_
    dsimp only [List.set_cons_zero, List.set_cons_succ]
    exact xf_readLife25 (bb.go f20 hI20) (by rw [(f20 13 9 rfl).1]; exact hI9) hq
set_option maxRecDepth 20000 in
theorem xf_readLife8 {Q : fmR → fmM → Prop} {M0 M : fmM} {k a : Nat} {x2 : Int32} {v3 v4 v5 : Option Value} (bb : xdBad M0 M k a) (hI9 : (M.1 13 9).toInt ≤ 8 ∧ 0 ≤ (M.1 13 9).toInt) (hq : ∀ M2 : fmM, xdBad M0 M2 k a → Q (.inl (some (.int 0))) M2) : pvEv Tx 3 qX8_readLife 8 [some (.ref 13), some (.ref 1), some (.int x2), v3, v4, v5] [] M Q := by
  refine pv_aloadn (pc := 8) (n := 1) 1 rfl rfl (fm_dec dtX8_readLife 5 rfl) ?_
  refine pv_iconst (pc := 9) (v := 0) (by decide) (fm_dec dtX8_readLife 6 rfl) ?_
  refine pv_bipush (pc := 10) (v := 64) (by decide) (fm_dec dtX8_readLife 7 rfl) ?_
  refine pv_invV2 (k := 1) (d' := 2) (pc := 12) pcv_X8_113 (by decide) rfl (Nat.le_of_ble_eq_true rfl) (by decide) (fm_dec dtX8_readLife 8 rfl) ?_
  refine s_numF64 (by decide) (by decide) bb.f13 bb.2.2.2.2 (fun n12 M12 c12 m12 hI12 f12 => ?_) (fun n12 M12 c12 m12 hI12 f12 => ?_)  
  · refine pv_then1 ?_
    refine pv_istoren (pc := 15) (n := 3) 3 rfl (by decide) rfl (fm_dec dtX8_readLife 9 rfl) ?_
    dsimp only [List.set_cons_zero, List.set_cons_succ]
    exact xf_readLife16 (bb.go f12 hI12) (by rw [(f12 13 9 rfl).1]; exact hI9) hq
  · refine pv_then1 ?_
    refine pv_istoren (pc := 15) (n := 3) 3 rfl (by decide) rfl (fm_dec dtX8_readLife 9 rfl) ?_
    dsimp only [List.set_cons_zero, List.set_cons_succ]
    exact xf_readLife16 (bb.go f12 hI12) (by rw [(f12 13 9 rfl).1]; exact hI9) hq
set_option maxRecDepth 20000 in
theorem xf_readHas20 {Q : fmR → fmM → Prop} {M0 M : fmM} {k a : Nat} {x2 x3 : Int32} (bb : xdBad M0 M k a) (hI9 : (M.1 13 9).toInt ≤ 8 ∧ 0 ≤ (M.1 13 9).toInt) (hq : ∀ M2 : fmM, xdBad M0 M2 k a → Q (.inl (some (.int 0))) M2) : pvEv Tx 3 qX8_readHas 20 [some (.ref 13), some (.ref 1), some (.int x2), some (.int x3)] [] M Q := by
  refine pv_aloadn (pc := 20) (n := 1) 1 rfl rfl (fm_dec dtX8_readHas 13 rfl) ?_
  refine pv_invV0 (k := 1) (d' := 0) (pc := 21) pcv_X8_117 (by decide) rfl (Nat.le_of_ble_eq_true rfl) (by decide) (fm_dec dtX8_readHas 14 rfl) ?_
  refine c_xfailed (fun h9 => absurd h9 bb.nz) (fun _ => ?_) 
  refine pv_then1 ?_
  refine pv_if_ne (pc := 24) 31 (by decide) (fm_dec dtX8_readHas 15 rfl) (fun _ => ?_) (fun hc24 => by exfalso; revert hc24; decide)
  refine pv_iconst (pc := 31) (v := 0) (by decide) (fm_dec dtX8_readHas 18 rfl) ?_
  exact pv_zreturn (pc := 32) rfl (by first | exact Or.inr rfl | exact Or.inl rfl) (fm_dec dtX8_readHas 19 rfl) (hq _ bb)
set_option maxRecDepth 20000 in
theorem xf_readHas12 {Q : fmR → fmM → Prop} {M0 M : fmM} {k a : Nat} {x2 : Int32} {v3 : Option Value} (bb : xdBad M0 M k a) (hI9 : (M.1 13 9).toInt ≤ 8 ∧ 0 ≤ (M.1 13 9).toInt) (hq : ∀ M2 : fmM, xdBad M0 M2 k a → Q (.inl (some (.int 0))) M2) : pvEv Tx 3 qX8_readHas 12 [some (.ref 13), some (.ref 1), some (.int x2), v3] [] M Q := by
  refine pv_aloadn (pc := 12) (n := 1) 1 rfl rfl (fm_dec dtX8_readHas 8 rfl) ?_
  refine pv_iconst (pc := 13) (v := 0) (by decide) (fm_dec dtX8_readHas 9 rfl) ?_
  refine pv_bipush (pc := 14) (v := 40) (by decide) (fm_dec dtX8_readHas 10 rfl) ?_
  refine pv_invV2 (k := 1) (d' := 2) (pc := 16) pcv_X8_113 (by decide) rfl (Nat.le_of_ble_eq_true rfl) (by decide) (fm_dec dtX8_readHas 11 rfl) ?_
  refine s_numF40 (by decide) (by decide) bb.f13 bb.2.2.2.2 (fun n16 M16 c16 m16 hI16 f16 => ?_) (fun n16 M16 c16 m16 hI16 f16 => ?_)  
  · refine pv_then1 ?_
    refine pv_istoren (pc := 19) (n := 3) 3 rfl (by decide) rfl (fm_dec dtX8_readHas 12 rfl) ?_
    dsimp only [List.set_cons_zero, List.set_cons_succ]
    exact xf_readHas20 (bb.go f16 hI16) (by rw [(f16 13 9 rfl).1]; exact hI9) hq
  · refine pv_then1 ?_
    refine pv_istoren (pc := 19) (n := 3) 3 rfl (by decide) rfl (fm_dec dtX8_readHas 12 rfl) ?_
    dsimp only [List.set_cons_zero, List.set_cons_succ]
    exact xf_readHas20 (bb.go f16 hI16) (by rw [(f16 13 9 rfl).1]; exact hI9) hq
set_option maxRecDepth 20000 in
theorem xf_readFact28 {Q : fmR → fmM → Prop} {M0 M : fmM} {k a : Nat} {x2 x3 x4 : Int32} (bb : xdBad M0 M k a) (hI9 : (M.1 13 9).toInt ≤ 8 ∧ 0 ≤ (M.1 13 9).toInt) (hq : ∀ M2 : fmM, xdBad M0 M2 k a → Q (.inl (some (.int 0))) M2) : pvEv Tx 3 qX8_readFact 28 [some (.ref 13), some (.ref 1), some (.int x2), some (.int x3), some (.int x4)] [] M Q := by
  refine pv_aloadn (pc := 28) (n := 1) 1 rfl rfl (fm_dec dtX8_readFact 18 rfl) ?_
  refine pv_invV0 (k := 1) (d' := 0) (pc := 29) pcv_X8_117 (by decide) rfl (Nat.le_of_ble_eq_true rfl) (by decide) (fm_dec dtX8_readFact 19 rfl) ?_
  refine c_xfailed (fun h9 => absurd h9 bb.nz) (fun _ => ?_) 
  refine pv_then1 ?_
  refine pv_if_ne (pc := 32) 44 (by decide) (fm_dec dtX8_readFact 20 rfl) (fun _ => ?_) (fun hc32 => by exfalso; revert hc32; decide)
  refine pv_iconst (pc := 44) (v := 0) (by decide) (fm_dec dtX8_readFact 25 rfl) ?_
  exact pv_zreturn (pc := 45) rfl (by first | exact Or.inr rfl | exact Or.inl rfl) (fm_dec dtX8_readFact 26 rfl) (hq _ bb)
set_option maxRecDepth 20000 in
theorem xf_readFact19 {Q : fmR → fmM → Prop} {M0 M : fmM} {k a : Nat} {x2 x3 : Int32} {v4 : Option Value} (bb : xdBad M0 M k a) (hI9 : (M.1 13 9).toInt ≤ 8 ∧ 0 ≤ (M.1 13 9).toInt) (hq : ∀ M2 : fmM, xdBad M0 M2 k a → Q (.inl (some (.int 0))) M2) : pvEv Tx 3 qX8_readFact 19 [some (.ref 13), some (.ref 1), some (.int x2), some (.int x3), v4] [] M Q := by
  refine pv_aloadn (pc := 19) (n := 1) 1 rfl rfl (fm_dec dtX8_readFact 13 rfl) ?_
  refine pv_iconst (pc := 20) (v := 1) (by decide) (fm_dec dtX8_readFact 14 rfl) ?_
  refine pv_bipush (pc := 21) (v := 60) (by decide) (fm_dec dtX8_readFact 15 rfl) ?_
  refine pv_invV2 (k := 1) (d' := 2) (pc := 23) pcv_X8_113 (by decide) rfl (Nat.le_of_ble_eq_true rfl) (by decide) (fm_dec dtX8_readFact 16 rfl) ?_
  refine s_numF60 (by decide) (by decide) bb.f13 bb.2.2.2.2 (fun n23 M23 c23 m23 hI23 f23 => ?_) (fun n23 M23 c23 m23 hI23 f23 => ?_)  
  · refine pv_then1 ?_
    refine pv_istore (pc := 26) (i := 4) (by decide) rfl (fm_dec dtX8_readFact 17 rfl) ?_
    dsimp only [List.set_cons_zero, List.set_cons_succ]
    exact xf_readFact28 (bb.go f23 hI23) (by rw [(f23 13 9 rfl).1]; exact hI9) hq
  · refine pv_then1 ?_
    refine pv_istore (pc := 26) (i := 4) (by decide) rfl (fm_dec dtX8_readFact 17 rfl) ?_
    dsimp only [List.set_cons_zero, List.set_cons_succ]
    exact xf_readFact28 (bb.go f23 hI23) (by rw [(f23 13 9 rfl).1]; exact hI9) hq
set_option maxRecDepth 20000 in
theorem xf_readFact12 {Q : fmR → fmM → Prop} {M0 M : fmM} {k a : Nat} {x2 : Int32} {v3 v4 : Option Value} (bb : xdBad M0 M k a) (hI9 : (M.1 13 9).toInt ≤ 8 ∧ 0 ≤ (M.1 13 9).toInt) (hq : ∀ M2 : fmM, xdBad M0 M2 k a → Q (.inl (some (.int 0))) M2) : pvEv Tx 3 qX8_readFact 12 [some (.ref 13), some (.ref 1), some (.int x2), v3, v4] [] M Q := by
  refine pv_aloadn (pc := 12) (n := 1) 1 rfl rfl (fm_dec dtX8_readFact 8 rfl) ?_
  refine pv_iconst (pc := 13) (v := 0) (by decide) (fm_dec dtX8_readFact 9 rfl) ?_
  refine pv_iconst (pc := 14) (v := 5) (by decide) (fm_dec dtX8_readFact 10 rfl) ?_
  refine pv_invV2 (k := 1) (d' := 2) (pc := 15) pcv_X8_113 (by decide) rfl (Nat.le_of_ble_eq_true rfl) (by decide) (fm_dec dtX8_readFact 11 rfl) ?_
  refine s_numF5 (by decide) (by decide) bb.f13 bb.2.2.2.2 (fun n15 M15 c15 m15 hI15 f15 => ?_) (fun n15 M15 c15 m15 hI15 f15 => ?_)  
  · refine pv_then1 ?_
    refine pv_istoren (pc := 18) (n := 3) 3 rfl (by decide) rfl (fm_dec dtX8_readFact 12 rfl) ?_
    dsimp only [List.set_cons_zero, List.set_cons_succ]
    exact xf_readFact19 (bb.go f15 hI15) (by rw [(f15 13 9 rfl).1]; exact hI9) hq
  · refine pv_then1 ?_
    refine pv_istoren (pc := 18) (n := 3) 3 rfl (by decide) rfl (fm_dec dtX8_readFact 12 rfl) ?_
    dsimp only [List.set_cons_zero, List.set_cons_succ]
    exact xf_readFact19 (bb.go f15 hI15) (by rw [(f15 13 9 rfl).1]; exact hI9) hq
set_option maxRecDepth 20000 in
theorem xf_readBy43 {Q : fmR → fmM → Prop} {M0 M : fmM} {k a : Nat} {v2 v3 v4 : Option Value} (bb : xdBad M0 M k a) (hI9 : (M.1 13 9).toInt ≤ 8 ∧ 0 ≤ (M.1 13 9).toInt) (hq : ∀ M2 : fmM, xdBad M0 M2 k a → Q (.inl (some (.int 0))) M2) : pvEv Tx 3 qX8_readBy 43 [some (.ref 13), some (.ref 1), v2, v3, v4] [] M Q := by
  refine pv_aloadn (pc := 43) (n := 1) 1 rfl rfl (fm_dec dtX8_readBy 27 rfl) ?_
  refine pv_invV0 (k := 1) (d' := 0) (pc := 44) pcv_X8_117 (by decide) rfl (Nat.le_of_ble_eq_true rfl) (by decide) (fm_dec dtX8_readBy 28 rfl) ?_
  refine c_xfailed (fun h9 => absurd h9 bb.nz) (fun _ => ?_) 
  refine pv_then1 ?_
  refine pv_if_ne (pc := 47) 54 (by decide) (fm_dec dtX8_readBy 29 rfl) (fun _ => ?_) (fun hc47 => by exfalso; revert hc47; decide)
  refine pv_iconst (pc := 54) (v := 0) (by decide) (fm_dec dtX8_readBy 32 rfl) ?_
  exact pv_zreturn (pc := 55) rfl (by first | exact Or.inr rfl | exact Or.inl rfl) (fm_dec dtX8_readBy 33 rfl) (hq _ bb)
set_option maxRecDepth 20000 in
theorem xf_readBy30 {Q : fmR → fmM → Prop} {M0 M : fmM} {k a : Nat} {x2 x3 x4 : Int32} (bb : xdBad M0 M k a) (hI9 : (M.1 13 9).toInt ≤ 8 ∧ 0 ≤ (M.1 13 9).toInt) (hq : ∀ M2 : fmM, xdBad M0 M2 k a → Q (.inl (some (.int 0))) M2) : pvEv Tx 3 qX8_readBy 30 [some (.ref 13), some (.ref 1), some (.int x2), some (.int x3), some (.int x4)] [] M Q := by
  refine pv_iload (pc := 30) (i := 4) rfl (fm_dec dtX8_readBy 19 rfl) ?_
  refine pv_iloadn (pc := 32) (n := 2) 2 rfl rfl (fm_dec dtX8_readBy 20 rfl) ?_
  refine pv_icmp_ne (pc := 33) 43 (by decide) (fm_dec dtX8_readBy 21 rfl) (fun hc33 => ?_) (fun hc33 => ?_)
  · exact xf_readBy43 bb hI9 hq
  · refine pv_aloadn (pc := 36) (n := 1) 1 rfl rfl (fm_dec dtX8_readBy 22 rfl) ?_
    refine pv_iconst (pc := 37) (v := 2) (by decide) (fm_dec dtX8_readBy 23 rfl) ?_
    refine pv_iloadn (pc := 38) (n := 3) 3 rfl rfl (fm_dec dtX8_readBy 24 rfl) ?_
    refine pv_invV2 (k := 1) (d' := 0) (pc := 39) pcv_X8_84 (by decide) rfl (Nat.le_of_ble_eq_true rfl) (by decide) (fm_dec dtX8_readBy 25 rfl) ?_
    refine c_xfail1 bb.nz ?_
    refine pv_then1 ?_
    refine pv_pop (pc := 42) rfl (fm_dec dtX8_readBy 26 rfl) ?_
    exact xf_readBy43 bb hI9 hq
set_option maxRecDepth 20000 in
theorem xf_readBy12 {Q : fmR → fmM → Prop} {M0 M : fmM} {k a : Nat} {x2 : Int32} {v3 v4 : Option Value} (bb : xdBad M0 M k a) (hI9 : (M.1 13 9).toInt ≤ 8 ∧ 0 ≤ (M.1 13 9).toInt) (hq : ∀ M2 : fmM, xdBad M0 M2 k a → Q (.inl (some (.int 0))) M2) : pvEv Tx 3 qX8_readBy 12 [some (.ref 13), some (.ref 1), some (.int x2), v3, v4] [] M Q := by
  refine pv_aloadn (pc := 12) (n := 1) 1 rfl rfl (fm_dec dtX8_readBy 8 rfl) ?_
  refine pv_invV0 (k := 1) (d' := 1) (pc := 13) pcv_X8_88 (by decide) rfl (Nat.le_of_ble_eq_true rfl) (by decide) (fm_dec dtX8_readBy 9 rfl) ?_
  refine s_next bb.2.2.2.2 (fun n13 M13 c13 hI13 f13 => ?_)
  refine pv_then1 ?_
  refine pv_istoren (pc := 16) (n := 3) 3 rfl (by decide) rfl (fm_dec dtX8_readBy 10 rfl) ?_
  dsimp only [List.set_cons_zero, List.set_cons_succ]
  have hI9 : (M13.1 13 9).toInt ≤ 8 ∧ 0 ≤ (M13.1 13 9).toInt := (by rw [(f13 13 9 rfl).1]; exact hI9)
  refine pv_aloadn (pc := 17) (n := 1) 1 rfl rfl (fm_dec dtX8_readBy 11 rfl) ?_
  refine pv_iconst (pc := 18) (v := 0) (by decide) (fm_dec dtX8_readBy 12 rfl) ?_
  refine pv_aloadn (pc := 19) (n := 0) 0 rfl rfl (fm_dec dtX8_readBy 13 rfl) ?_
  refine pv_getI (k := 13) (j := 9) (ci := 8) (pc := 20) pfl_X8_42 (by decide) rfl (by decide) (fm_dec dtX8_readBy 14 rfl) ?_
  refine pv_iconst (pc := 23) (v := 1) (by decide) (fm_dec dtX8_readBy 15 rfl) ?_
  refine pv_isub (pc := 24) (fm_dec dtX8_readBy 16 rfl) ?_
  refine pv_invV2 (k := 1) (d' := 2) (pc := 25) pcv_X8_113 (by decide) rfl (Nat.le_of_ble_eq_true rfl) (by decide) (fm_dec dtX8_readBy 17 rfl) ?_
  refine s_numF7 (by decide) (by have h9 := sc_sub (x := M13.1 13 9) (z := 1) (by have h8 : (1 : Int32).toInt = 1 := (by decide); omega) (by have h8 : (1 : Int32).toInt = 1 := (by decide); omega); have h8 : (1 : Int32).toInt = 1 := (by decide); exact ⟨by omega, by omega⟩) (by rw [(f13 1 4 rfl).1]; exact bb.f13) hI13 (fun n25 M25 c25 m25 hI25 f25 => ?_) (fun n25 M25 c25 m25 hI25 f25 => ?_)  
  · refine pv_then1 ?_
    refine pv_istore (pc := 28) (i := 4) (by decide) rfl (fm_dec dtX8_readBy 18 rfl) ?_
    dsimp only [List.set_cons_zero, List.set_cons_succ]
    exact xf_readBy30 ((bb.go f13 hI13).go f25 hI25) (by rw [(f25 13 9 rfl).1]; exact hI9) hq
  · refine pv_then1 ?_
    refine pv_istore (pc := 28) (i := 4) (by decide) rfl (fm_dec dtX8_readBy 18 rfl) ?_
    dsimp only [List.set_cons_zero, List.set_cons_succ]
    exact xf_readBy30 ((bb.go f13 hI13).go f25 hI25) (by rw [(f25 13 9 rfl).1]; exact hI9) hq
def lfM (M : fmM) (a b c d : Int32) : fmM := fmI (fmI (fmI (fmI (fmI (fmI (fmI M 14 (M.1 13 9).toNatClampNeg a) 15 (M.1 13 9).toNatClampNeg b) 16 (M.1 13 9).toNatClampNeg c) 17 (M.1 13 9).toNatClampNeg d) 18 (M.1 13 9).toNatClampNeg (-1)) 19 (M.1 13 9).toNatClampNeg (-1)) 13 9 (M.1 13 9 + 1)
theorem lf_tok {M0 M : fmM} {tx : tX} {n q na nb nc nd : Nat} {D : dD} {a b c d : Int32} (h : tok M0 M tx n q D) (h8 : D.1 < 8) (ha : a.toInt = na) (hb : b.toInt = nb) (hc : c.toInt = nc) (hd : d.toInt = nd) (a1 : na ≤ 110) (b1 : nb ≤ 64) (c1 : nc ≤ 99) (d1 : nd ≤ 9) : tok M0 (lfM M a b c d) tx n q (D.1 + 1, dRow D.2.1 D.1 [(na : Int), nb, nc, nd, -1, -1], D.2.2) := by
  obtain ⟨hS, hf, hI, ⟨⟨g1, g2, g3, g4, g5, g6⟩, g7, g8⟩, hF⟩ := h
  have m1 : (-1 : Int32).toInt = -1 := by decide
  have el : (M.1 13 9).toNatClampNeg = D.1 := i32_cl g1
  have e1 : (M.1 13 9 + 1).toInt = ((D.1 + 1 : Nat) : Int) := i32_p1 g1 (by omega)
  unfold lfM
  rw [el]
  refine ⟨hS.of rfl rfl rfl, hf, ?_, ⟨⟨?_, g2, g3, g4, g5, g6⟩, fun i hi j hj => ?_, fun i hi j hj => ?_⟩, (((((((hF.put (by decide)).put (by decide)).put (by decide)).put (by decide)).put (by decide)).put (by decide)).put (by decide))⟩
  · exact xInv.put (xInv.put (xInv.put (xInv.put (xInv.put (xInv.put (xInv.put hI ⟨by show (0 : Int) ≤ _; omega, by show _ ≤ (110 : Int); omega⟩) ⟨by show (0 : Int) ≤ _; omega, by show _ ≤ (64 : Int); omega⟩) ⟨by show (0 : Int) ≤ _; omega, by show _ ≤ (99 : Int); omega⟩) ⟨by show (0 : Int) ≤ _; omega, by show _ ≤ (9 : Int); omega⟩) ⟨by show ((-1) : Int) ≤ _; omega, by show _ ≤ (40 : Int); omega⟩) ⟨by show ((-1) : Int) ≤ _; omega, by show _ ≤ (7 : Int); omega⟩) ⟨by show (0 : Int) ≤ _; omega, by show _ ≤ (8 : Int); omega⟩
  · rw [fmI_s]
    exact e1
  · have hi : i < D.1 + 1 := hi
    show _ = dRow D.2.1 D.1 [(na : Int), nb, nc, nd, -1, -1] i j
    unfold dRow
    by_cases e : i = D.1
    · subst e
      rw [if_pos rfl]
      match j, hj with
      | 0, _ =>
        rw [fmI_k _ _ (by decide), fmI_k _ _ (by decide), fmI_k _ _ (by decide), fmI_k _ _ (by decide), fmI_k _ _ (by decide), fmI_k _ _ (by decide), fmI_s]
        exact ha
      | 1, _ =>
        rw [fmI_k _ _ (by decide), fmI_k _ _ (by decide), fmI_k _ _ (by decide), fmI_k _ _ (by decide), fmI_k _ _ (by decide), fmI_s]
        exact hb
      | 2, _ =>
        rw [fmI_k _ _ (by decide), fmI_k _ _ (by decide), fmI_k _ _ (by decide), fmI_k _ _ (by decide), fmI_s]
        exact hc
      | 3, _ =>
        rw [fmI_k _ _ (by decide), fmI_k _ _ (by decide), fmI_k _ _ (by decide), fmI_s]
        exact hd
      | 4, _ =>
        rw [fmI_k _ _ (by decide), fmI_k _ _ (by decide), fmI_s]
        exact m1
      | 5, _ =>
        rw [fmI_k _ _ (by decide), fmI_s]
        exact m1
      | j + 6, h => omega
    · rw [if_neg e]
      rw [← g7 i (by omega) j hj]
      simp only [fmI_at, show ¬ (13 + 1 + j = 13) by omega, e, and_false, false_and, if_false]
  · have hi : i < D.2.2.1 := hi
    show _ = D.2.2.2.1 i j
    rw [← g8 i hi j hj]
    simp only [fmI_at, show ¬ (13 + 7 + j = 13) by omega, show ¬ (13 + 7 + j = 14) by omega, show ¬ (13 + 7 + j = 15) by omega, show ¬ (13 + 7 + j = 16) by omega, show ¬ (13 + 7 + j = 17) by omega, show ¬ (13 + 7 + j = 18) by omega, show ¬ (13 + 7 + j = 19) by omega, false_and, if_false]
set_option maxRecDepth 20000 in
theorem x_life {M : fmM} {Q : fmR → fmM → Prop} {tx : tX} {n p : Nat} {D : dD} (ht : tOk tx n) (hS : xS2 M tx n p) (hf : M.1 1 4 = 0) (hI : scInv Tx invX M) (hW : xdw 13 M D) (hD : dOk D) (h8 : D.1 < 8) (hok : ∀ (M' : fmM) (D' : dD) (q : Nat), clLife tx D p = .inr (D', q) → tok M M' tx n q D' → Q (.inl (some (.int 1))) M') (hbad : ∀ (M' : fmM) (k a : Nat), clLife tx D p = .inl (k, a) → tbad M M' k a → Q (.inl (some (.int 0))) M') : pvGood Tx 3 qX8_readLife [.ref 13, .ref 1] M Q := by
  refine pvGood_of (Nat.le_of_ble_eq_true rfl) ?_
  show pvEv Tx 3 qX8_readLife 0 [some (.ref 13), some (.ref 1), none, none, none, none] [] M Q
  have k0 : xdOk M M tx n p := ⟨hS, hf, xdFr.refl M, hI⟩
  have h139 : (M.1 13 9).toInt ≤ 8 ∧ 0 ≤ (M.1 13 9).toInt := (by have h8 := hW.1.1; have h7 := hD.1; exact ⟨by omega, by omega⟩)
  refine pv_aloadn (pc := 0) (n := 1) 1 rfl rfl (fm_dec dtX8_readLife 0 rfl) ?_
  refine pv_iconst (pc := 1) (v := 0) (by decide) (fm_dec dtX8_readLife 1 rfl) ?_
  refine pv_bipush (pc := 2) (v := 110) (by decide) (fm_dec dtX8_readLife 2 rfl) ?_
  refine pv_invV2 (k := 1) (d' := 2) (pc := 4) pcv_X8_113 (by decide) rfl (Nat.le_of_ble_eq_true rfl) (by decide) (fm_dec dtX8_readLife 3 rfl) ?_
  refine x_numC 0 110 (by decide) (by decide) (by decide) k0.1 k0.2.1 k0.2.2.2 (fun M4 a4 q4 w4 e4 hw4 k4 => ?_) (fun M4 kb ab e4 b4 => ?_)
  · refine pv_then1 ?_
    refine pv_istoren (pc := 7) (n := 2) 2 rfl (by decide) rfl (fm_dec dtX8_readLife 4 rfl) ?_
    dsimp only [List.set_cons_zero, List.set_cons_succ]
    refine pv_aloadn (pc := 8) (n := 1) 1 rfl rfl (fm_dec dtX8_readLife 5 rfl) ?_
    refine pv_iconst (pc := 9) (v := 0) (by decide) (fm_dec dtX8_readLife 6 rfl) ?_
    refine pv_bipush (pc := 10) (v := 64) (by decide) (fm_dec dtX8_readLife 7 rfl) ?_
    refine pv_invV2 (k := 1) (d' := 2) (pc := 12) pcv_X8_113 (by decide) rfl (Nat.le_of_ble_eq_true rfl) (by decide) (fm_dec dtX8_readLife 8 rfl) ?_
    refine x_numC 0 64 (by decide) (by decide) (by decide) k4.1 k4.2.1 k4.2.2.2 (fun M12 a12 q12 w12 e12 hw12 k12 => ?_) (fun M12 kb ab e12 b12 => ?_)
    · refine pv_then1 ?_
      refine pv_istoren (pc := 15) (n := 3) 3 rfl (by decide) rfl (fm_dec dtX8_readLife 9 rfl) ?_
      dsimp only [List.set_cons_zero, List.set_cons_succ]
      refine pv_aloadn (pc := 16) (n := 1) 1 rfl rfl (fm_dec dtX8_readLife 10 rfl) ?_
      refine pv_iconst (pc := 17) (v := 1) (by decide) (fm_dec dtX8_readLife 11 rfl) ?_
      refine pv_bipush (pc := 18) (v := 99) (by decide) (fm_dec dtX8_readLife 12 rfl) ?_
      refine pv_invV2 (k := 1) (d' := 2) (pc := 20) pcv_X8_113 (by decide) rfl (Nat.le_of_ble_eq_true rfl) (by decide) (fm_dec dtX8_readLife 13 rfl) ?_
      refine x_numC 1 99 (by decide) (by decide) (by decide) k12.1 k12.2.1 k12.2.2.2 (fun M20 a20 q20 w20 e20 hw20 k20 => ?_) (fun M20 kb ab e20 b20 => ?_)
      · refine pv_then1 ?_
        refine pv_istore (pc := 23) (i := 4) (by decide) rfl (fm_dec dtX8_readLife 14 rfl) ?_
        dsimp only [List.set_cons_zero, List.set_cons_succ]
        refine pv_aloadn (pc := 25) (n := 1) 1 rfl rfl (fm_dec dtX8_readLife 15 rfl) ?_
        refine pv_iconst (pc := 26) (v := 1) (by decide) (fm_dec dtX8_readLife 16 rfl) ?_
        refine pv_bipush (pc := 27) (v := 9) (by decide) (fm_dec dtX8_readLife 17 rfl) ?_
        refine pv_invV2 (k := 1) (d' := 2) (pc := 29) pcv_X8_113 (by decide) rfl (Nat.le_of_ble_eq_true rfl) (by decide) (fm_dec dtX8_readLife 18 rfl) ?_
        refine x_numC 1 9 (by decide) (by decide) (by decide) k20.1 k20.2.1 k20.2.2.2 (fun M29 a29 q29 w29 e29 hw29 k29 => ?_) (fun M29 kb ab e29 b29 => ?_)
        · refine pv_then1 ?_
          refine pv_istore (pc := 32) (i := 5) (by decide) rfl (fm_dec dtX8_readLife 19 rfl) ?_
          dsimp only [List.set_cons_zero, List.set_cons_succ]
          have hW9 : xdw 13 M29 D := hW.xd (k0.2.2.1.trans (k4.2.2.1.trans (k12.2.2.1.trans (k20.2.2.1.trans k29.2.2.1))))
          have h1 : (M29.1 13 9).toInt = (D.1 : Int) := hW9.1.1
          have n0 := spNum_ok ht k0.1.2.2.1 e4
          have n1 := spNum_ok ht k4.1.2.2.1 e12
          have n2 := spNum_ok ht k12.1.2.2.1 e20
          have n3 := spNum_ok ht k20.1.2.2.1 e29
          refine pv_aloadn (pc := 34) (n := 1) 1 rfl rfl (fm_dec dtX8_readLife 20 rfl) ?_
          refine pv_invV0 (k := 1) (d' := 0) (pc := 35) pcv_X8_117 (by decide) rfl (Nat.le_of_ble_eq_true rfl) (by decide) (fm_dec dtX8_readLife 21 rfl) ?_
          refine c_xfailed (fun _ => ?_) (fun h9 => absurd k29.2.1 h9) 
          refine pv_then1 ?_
          refine pv_if_ne (pc := 38) 50 (by decide) (fm_dec dtX8_readLife 22 rfl) (fun hc38 => by exfalso; revert hc38; decide) (fun _ => ?_)
          refine pv_aloadn (pc := 41) (n := 0) 0 rfl rfl (fm_dec dtX8_readLife 23 rfl) ?_
          refine pv_getI (k := 13) (j := 9) (ci := 8) (pc := 42) pfl_X8_42 (by decide) rfl (by decide) (fm_dec dtX8_readLife 24 rfl) ?_
          refine pv_bipush (pc := 45) (v := 8) (by decide) (fm_dec dtX8_readLife 25 rfl) ?_
          refine pv_icmp_lt (pc := 47) 52 (by decide) (fm_dec dtX8_readLife 26 rfl) (fun _ => ?_) (fun hc47 => by exfalso; rw [sc_lt] at hc47; have h7 : (8 : Int32).toInt = 8 := (by decide); omega)
          refine pv_aloadn (pc := 52) (n := 0) 0 rfl rfl (fm_dec dtX8_readLife 29 rfl) ?_
          refine pv_getR (k := 13) (j := 0) (ci := 8) (pc := 53) 14 rfl (by decide) pfl_X8_9 (by decide) rfl (by decide) (fm_dec dtX8_readLife 30 rfl) ?_
          refine pv_aloadn (pc := 56) (n := 0) 0 rfl rfl (fm_dec dtX8_readLife 31 rfl) ?_
          refine pv_getI (k := 13) (j := 9) (ci := 8) (pc := 57) pfl_X8_42 (by decide) rfl (by decide) (fm_dec dtX8_readLife 32 rfl) ?_
          refine pv_iloadn (pc := 60) (n := 2) 2 rfl rfl (fm_dec dtX8_readLife 33 rfl) ?_
          refine pv_iast (k := 14) (n := 8) (pc := 61) (by decide) rfl rfl (ix_in h1 h8) (fm_dec dtX8_readLife 34 rfl) ?_
          refine pv_aloadn (pc := 62) (n := 0) 0 rfl rfl (fm_dec dtX8_readLife 35 rfl) ?_
          refine pv_getR (k := 13) (j := 1) (ci := 8) (pc := 63) 15 rfl (by decide) pfl_X8_15 (by decide) rfl (by decide) (fm_dec dtX8_readLife 36 rfl) ?_
          refine pv_aloadn (pc := 66) (n := 0) 0 rfl rfl (fm_dec dtX8_readLife 37 rfl) ?_
          refine pv_getI (k := 13) (j := 9) (ci := 8) (pc := 67) pfl_X8_42 (by decide) rfl (by decide) (fm_dec dtX8_readLife 38 rfl) ?_
          refine pv_iloadn (pc := 70) (n := 3) 3 rfl rfl (fm_dec dtX8_readLife 39 rfl) ?_
          refine pv_iast (k := 15) (n := 8) (pc := 71) (by decide) rfl rfl (ix_in h1 h8) (fm_dec dtX8_readLife 40 rfl) ?_
          refine pv_aloadn (pc := 72) (n := 0) 0 rfl rfl (fm_dec dtX8_readLife 41 rfl) ?_
          refine pv_getR (k := 13) (j := 2) (ci := 8) (pc := 73) 16 rfl (by decide) pfl_X8_18 (by decide) rfl (by decide) (fm_dec dtX8_readLife 42 rfl) ?_
          refine pv_aloadn (pc := 76) (n := 0) 0 rfl rfl (fm_dec dtX8_readLife 43 rfl) ?_
          refine pv_getI (k := 13) (j := 9) (ci := 8) (pc := 77) pfl_X8_42 (by decide) rfl (by decide) (fm_dec dtX8_readLife 44 rfl) ?_
          refine pv_iload (pc := 80) (i := 4) rfl (fm_dec dtX8_readLife 45 rfl) ?_
          refine pv_iast (k := 16) (n := 8) (pc := 82) (by decide) rfl rfl (ix_in h1 h8) (fm_dec dtX8_readLife 46 rfl) ?_
          refine pv_aloadn (pc := 83) (n := 0) 0 rfl rfl (fm_dec dtX8_readLife 47 rfl) ?_
          refine pv_getR (k := 13) (j := 3) (ci := 8) (pc := 84) 17 rfl (by decide) pfl_X8_21 (by decide) rfl (by decide) (fm_dec dtX8_readLife 48 rfl) ?_
          refine pv_aloadn (pc := 87) (n := 0) 0 rfl rfl (fm_dec dtX8_readLife 49 rfl) ?_
          refine pv_getI (k := 13) (j := 9) (ci := 8) (pc := 88) pfl_X8_42 (by decide) rfl (by decide) (fm_dec dtX8_readLife 50 rfl) ?_
          refine pv_iload (pc := 91) (i := 5) rfl (fm_dec dtX8_readLife 51 rfl) ?_
          refine pv_iast (k := 17) (n := 8) (pc := 93) (by decide) rfl rfl (ix_in h1 h8) (fm_dec dtX8_readLife 52 rfl) ?_
          refine pv_aloadn (pc := 94) (n := 0) 0 rfl rfl (fm_dec dtX8_readLife 53 rfl) ?_
          refine pv_getR (k := 13) (j := 4) (ci := 8) (pc := 95) 18 rfl (by decide) pfl_X8_24 (by decide) rfl (by decide) (fm_dec dtX8_readLife 54 rfl) ?_
          refine pv_aloadn (pc := 98) (n := 0) 0 rfl rfl (fm_dec dtX8_readLife 55 rfl) ?_
          refine pv_getI (k := 13) (j := 9) (ci := 8) (pc := 99) pfl_X8_42 (by decide) rfl (by decide) (fm_dec dtX8_readLife 56 rfl) ?_
          refine pv_iconst (pc := 102) (v := (-1)) (by decide) (fm_dec dtX8_readLife 57 rfl) ?_
          refine pv_iast (k := 18) (n := 8) (pc := 103) (by decide) rfl rfl (ix_in h1 h8) (fm_dec dtX8_readLife 58 rfl) ?_
          refine pv_aloadn (pc := 104) (n := 0) 0 rfl rfl (fm_dec dtX8_readLife 59 rfl) ?_
          refine pv_getR (k := 13) (j := 5) (ci := 8) (pc := 105) 19 rfl (by decide) pfl_X8_27 (by decide) rfl (by decide) (fm_dec dtX8_readLife 60 rfl) ?_
          refine pv_aloadn (pc := 108) (n := 0) 0 rfl rfl (fm_dec dtX8_readLife 61 rfl) ?_
          refine pv_getI (k := 13) (j := 9) (ci := 8) (pc := 109) pfl_X8_42 (by decide) rfl (by decide) (fm_dec dtX8_readLife 62 rfl) ?_
          refine pv_iconst (pc := 112) (v := (-1)) (by decide) (fm_dec dtX8_readLife 63 rfl) ?_
          refine pv_iast (k := 19) (n := 8) (pc := 113) (by decide) rfl rfl (ix_in h1 h8) (fm_dec dtX8_readLife 64 rfl) ?_
          refine pv_aloadn (pc := 114) (n := 0) 0 rfl rfl (fm_dec dtX8_readLife 65 rfl) ?_
          refine pv_dup (pc := 115) rfl (fm_dec dtX8_readLife 66 rfl) ?_
          refine pv_getI (k := 13) (j := 9) (ci := 8) (pc := 116) pfl_X8_42 (by decide) rfl (by decide) (fm_dec dtX8_readLife 67 rfl) ?_
          refine pv_iconst (pc := 119) (v := 1) (by decide) (fm_dec dtX8_readLife 68 rfl) ?_
          refine pv_iadd (pc := 120) (fm_dec dtX8_readLife 69 rfl) ?_
          refine pv_putI (k := 13) (j := 9) (ci := 8) (pc := 121) pfl_X8_42 (by decide) rfl (by decide) (fm_dec dtX8_readLife 70 rfl) ?_
          refine pv_iconst (pc := 124) (v := 1) (by decide) (fm_dec dtX8_readLife 71 rfl) ?_
          exact pv_zreturn (pc := 125) rfl (by first | exact Or.inr rfl | exact Or.inl rfl) (fm_dec dtX8_readLife 72 rfl) (hok (lfM M29 w4 w12 w20 w29) _ _ (by unfold clLife; simp only [spBind, e4, e12, e20, e29]) (lf_tok ⟨k29.1, k29.2.1, k29.2.2.2, hW9, ((k0.2.2.1.trans (k4.2.2.1.trans (k12.2.2.1.trans (k20.2.2.1.trans k29.2.2.1))))).df⟩ h8 hw4 hw12 hw20 hw29 (by omega) (by omega) (by omega) (by omega)))
        · refine pv_then1 ?_
          refine pv_istore (pc := 32) (i := 5) (by decide) rfl (fm_dec dtX8_readLife 19 rfl) ?_
          dsimp only [List.set_cons_zero, List.set_cons_succ]
          exact xf_readLife34 b29 (by rw [(((k0.2.2.1.trans (k4.2.2.1.trans (k12.2.2.1.trans k20.2.2.1))).trans b29.2.2.2.1).1 13 9 (by decide)).1]; exact h139) (fun M2 h2 => hbad M2 kb ab (by unfold clLife; simp only [spBind, e4, e12, e20, e29]) (h2.fr (k0.2.2.1.trans (k4.2.2.1.trans (k12.2.2.1.trans k20.2.2.1)))).tb)
      · refine pv_then1 ?_
        refine pv_istore (pc := 23) (i := 4) (by decide) rfl (fm_dec dtX8_readLife 14 rfl) ?_
        dsimp only [List.set_cons_zero, List.set_cons_succ]
        exact xf_readLife25 b20 (by rw [(((k0.2.2.1.trans (k4.2.2.1.trans k12.2.2.1)).trans b20.2.2.2.1).1 13 9 (by decide)).1]; exact h139) (fun M2 h2 => hbad M2 kb ab (by unfold clLife; simp only [spBind, e4, e12, e20]) (h2.fr (k0.2.2.1.trans (k4.2.2.1.trans k12.2.2.1))).tb)
    · refine pv_then1 ?_
      refine pv_istoren (pc := 15) (n := 3) 3 rfl (by decide) rfl (fm_dec dtX8_readLife 9 rfl) ?_
      dsimp only [List.set_cons_zero, List.set_cons_succ]
      exact xf_readLife16 b12 (by rw [(((k0.2.2.1.trans k4.2.2.1).trans b12.2.2.2.1).1 13 9 (by decide)).1]; exact h139) (fun M2 h2 => hbad M2 kb ab (by unfold clLife; simp only [spBind, e4, e12]) (h2.fr (k0.2.2.1.trans k4.2.2.1)).tb)
  · refine pv_then1 ?_
    refine pv_istoren (pc := 7) (n := 2) 2 rfl (by decide) rfl (fm_dec dtX8_readLife 4 rfl) ?_
    dsimp only [List.set_cons_zero, List.set_cons_succ]
    exact xf_readLife8 b4 (by rw [((k0.2.2.1.trans b4.2.2.2.1).1 13 9 (by decide)).1]; exact h139) (fun M2 h2 => hbad M2 kb ab (by unfold clLife; simp only [spBind, e4]) (h2.fr k0.2.2.1).tb)
theorem st_tok {M0 M : fmM} {tx : tX} {n q i j : Nat} {D : dD} {x v : Int32} {V : Int} (h : tok M0 M tx n q D) (hj : j = 4 ∨ j = 5) (hi : i < D.1) (h8 : D.1 ≤ 8) (hx : x.toInt = i) (hv : v.toInt = V) (b0 : -1 ≤ V) (b1 : V ≤ 7 ∨ (j = 4 ∧ V ≤ 40)) : tok M0 (fmI M (14 + j) x.toNatClampNeg v) tx n q (D.1, dSet D.2.1 i j V, D.2.2) := by
  obtain ⟨hS, hf, hI, ⟨⟨g1, g2, g3, g4, g5, g6⟩, g7, g8⟩, hF⟩ := h
  rw [i32_cl hx]
  have hk : 14 + j ≠ 13 := by omega
  have hb : (scAt (invX (14 + j)) i).1 ≤ v.toInt ∧ v.toInt ≤ (scAt (invX (14 + j)) i).2 := by
    rcases hj with rfl | rfl
    · exact ⟨by show (-1 : Int) ≤ _; omega, by show _ ≤ (40 : Int); omega⟩
    · exact ⟨by show (-1 : Int) ≤ _; omega, by show _ ≤ (7 : Int); omega⟩
  refine ⟨hS.of (by rw [fmI_k _ _ (by omega)]) (by rw [fmI_k _ _ (by omega)]) (by rw [fmI_k _ _ (by omega)]), by rw [fmI_k _ _ (by omega)]; exact hf, xInv.put hI hb, ⟨⟨?_, ?_, ?_, ?_, ?_, ?_⟩, fun i' hi' j' hj' => ?_, fun i' hi' j' hj' => ?_⟩, hF.put (by omega)⟩
  · rw [fmI_k _ _ (by omega)]; exact g1
  · rw [fmI_k _ _ (by omega)]; exact g2
  · rw [fmI_k _ _ (by omega)]; exact g3
  · rw [fmI_k _ _ (by omega)]; exact g4
  · rw [fmI_k _ _ (by omega)]; exact g5
  · rw [fmI_k _ _ (by omega)]; exact g6
  · show _ = dSet D.2.1 i j V i' j'
    unfold dSet
    rw [fmI_at]
    by_cases e : i' = i ∧ j' = j
    · rw [if_pos e, if_pos ⟨by omega, e.1⟩]
      exact hv
    · rw [if_neg e, if_neg (by intro h9; exact e ⟨h9.2, by omega⟩)]
      exact g7 i' hi' j' hj'
  · show _ = D.2.2.2.1 i' j'
    rw [fmI_k _ _ (by omega)]
    exact g8 i' hi' j' hj'
set_option maxRecDepth 20000 in
theorem x_has {M : fmM} {Q : fmR → fmM → Prop} {tx : tX} {n p : Nat} {D : dD} (ht : tOk tx n) (hS : xS2 M tx n p) (hf : M.1 1 4 = 0) (hI : scInv Tx invX M) (hW : xdw 13 M D) (hD : dOk D) (hok : ∀ (M' : fmM) (D' : dD) (q : Nat), clHas tx D p = .inr (D', q) → tok M M' tx n q D' → Q (.inl (some (.int 1))) M') (hbad : ∀ (M' : fmM) (k a : Nat), clHas tx D p = .inl (k, a) → tbad M M' k a → Q (.inl (some (.int 0))) M') : pvGood Tx 3 qX8_readHas [.ref 13, .ref 1] M Q := by
  refine pvGood_of (Nat.le_of_ble_eq_true rfl) ?_
  show pvEv Tx 3 qX8_readHas 0 [some (.ref 13), some (.ref 1), none, none] [] M Q
  have k0 : xdOk M M tx n p := ⟨hS, hf, xdFr.refl M, hI⟩
  have h139 : (M.1 13 9).toInt ≤ 8 ∧ 0 ≤ (M.1 13 9).toInt := (by have h8 := hW.1.1; have h7 := hD.1; exact ⟨by omega, by omega⟩)
  have h9d := hD.1
  refine pv_aloadn (pc := 0) (n := 1) 1 rfl rfl (fm_dec dtX8_readHas 0 rfl) ?_
  refine pv_iconst (pc := 1) (v := 0) (by decide) (fm_dec dtX8_readHas 1 rfl) ?_
  refine pv_aloadn (pc := 2) (n := 0) 0 rfl rfl (fm_dec dtX8_readHas 2 rfl) ?_
  refine pv_getI (k := 13) (j := 9) (ci := 8) (pc := 3) pfl_X8_42 (by decide) rfl (by decide) (fm_dec dtX8_readHas 3 rfl) ?_
  refine pv_iconst (pc := 6) (v := 1) (by decide) (fm_dec dtX8_readHas 4 rfl) ?_
  refine pv_isub (pc := 7) (fm_dec dtX8_readHas 5 rfl) ?_
  refine pv_invV2 (k := 1) (d' := 2) (pc := 8) pcv_X8_113 (by decide) rfl (Nat.le_of_ble_eq_true rfl) (by decide) (fm_dec dtX8_readHas 6 rfl) ?_
  refine x_numC 0 ((D.1 : Int) - 1) (by decide) (by have h9 := sc_sub (x := M.1 13 9) (z := 1) (by have h8 : (1 : Int32).toInt = 1 := (by decide); have h7 : (M.1 13 9).toInt = (D.1 : Int) := hW.1.1; omega) (by have h8 : (1 : Int32).toInt = 1 := (by decide); have h7 : (M.1 13 9).toInt = (D.1 : Int) := hW.1.1; omega); have h8 : (1 : Int32).toInt = 1 := (by decide); have h7 : (M.1 13 9).toInt = (D.1 : Int) := hW.1.1; omega) (by omega) k0.1 k0.2.1 k0.2.2.2 (fun M8 a8 q8 w8 e8 hw8 k8 => ?_) (fun M8 kb ab e8 b8 => ?_)
  · refine pv_then1 ?_
    refine pv_istoren (pc := 11) (n := 2) 2 rfl (by decide) rfl (fm_dec dtX8_readHas 7 rfl) ?_
    dsimp only [List.set_cons_zero, List.set_cons_succ]
    refine pv_aloadn (pc := 12) (n := 1) 1 rfl rfl (fm_dec dtX8_readHas 8 rfl) ?_
    refine pv_iconst (pc := 13) (v := 0) (by decide) (fm_dec dtX8_readHas 9 rfl) ?_
    refine pv_bipush (pc := 14) (v := 40) (by decide) (fm_dec dtX8_readHas 10 rfl) ?_
    refine pv_invV2 (k := 1) (d' := 2) (pc := 16) pcv_X8_113 (by decide) rfl (Nat.le_of_ble_eq_true rfl) (by decide) (fm_dec dtX8_readHas 11 rfl) ?_
    refine x_numC 0 40 (by decide) (by decide) (by decide) k8.1 k8.2.1 k8.2.2.2 (fun M16 a16 q16 w16 e16 hw16 k16 => ?_) (fun M16 kb ab e16 b16 => ?_)
    · refine pv_then1 ?_
      refine pv_istoren (pc := 19) (n := 3) 3 rfl (by decide) rfl (fm_dec dtX8_readHas 12 rfl) ?_
      dsimp only [List.set_cons_zero, List.set_cons_succ]
      have hW9 : xdw 13 M16 D := hW.xd (k0.2.2.1.trans (k8.2.2.1.trans k16.2.2.1))
      have n0 := spNum_ok ht k0.1.2.2.1 e8
      have n1 := spNum_ok ht k8.1.2.2.1 e16
      have hl8 := hD.1
      refine pv_aloadn (pc := 20) (n := 1) 1 rfl rfl (fm_dec dtX8_readHas 13 rfl) ?_
      refine pv_invV0 (k := 1) (d' := 0) (pc := 21) pcv_X8_117 (by decide) rfl (Nat.le_of_ble_eq_true rfl) (by decide) (fm_dec dtX8_readHas 14 rfl) ?_
      refine c_xfailed (fun _ => ?_) (fun h9 => absurd k16.2.1 h9) 
      refine pv_then1 ?_
      refine pv_if_ne (pc := 24) 31 (by decide) (fm_dec dtX8_readHas 15 rfl) (fun hc24 => by exfalso; revert hc24; decide) (fun _ => ?_)
      refine pv_iloadn (pc := 27) (n := 2) 2 rfl rfl (fm_dec dtX8_readHas 16 rfl) ?_
      refine pv_if_ge (pc := 28) 33 (by decide) (fm_dec dtX8_readHas 17 rfl) (fun _ => ?_) (fun hc28 => by exfalso; rw [sc_le] at hc28; have h7 : (0 : Int32).toInt = 0 := (by decide); omega)
      refine pv_aloadn (pc := 33) (n := 0) 0 rfl rfl (fm_dec dtX8_readHas 20 rfl) ?_
      refine pv_getR (k := 13) (j := 4) (ci := 8) (pc := 34) 18 rfl (by decide) pfl_X8_24 (by decide) rfl (by decide) (fm_dec dtX8_readHas 21 rfl) ?_
      refine pv_iloadn (pc := 37) (n := 2) 2 rfl rfl (fm_dec dtX8_readHas 22 rfl) ?_
      refine pv_iloadn (pc := 38) (n := 3) 3 rfl rfl (fm_dec dtX8_readHas 23 rfl) ?_
      refine pv_iast (k := 18) (n := 8) (pc := 39) (by decide) rfl rfl (ix_in hw8 (by omega)) (fm_dec dtX8_readHas 24 rfl) ?_
      refine pv_iconst (pc := 40) (v := 1) (by decide) (fm_dec dtX8_readHas 25 rfl) ?_
      exact pv_zreturn (pc := 41) rfl (by first | exact Or.inr rfl | exact Or.inl rfl) (fm_dec dtX8_readHas 26 rfl) (hok _ _ _ (by unfold clHas; simp only [spBind, e8, e16]) (st_tok (j := 4) (i := a8) (V := (a16 : Int)) ⟨k16.1, k16.2.1, k16.2.2.2, hW9, ((k0.2.2.1.trans (k8.2.2.1.trans k16.2.2.1))).df⟩ (Or.inl rfl) (by omega) hl8 hw8 hw16 (by omega) (Or.inr ⟨rfl, by omega⟩)))
    · refine pv_then1 ?_
      refine pv_istoren (pc := 19) (n := 3) 3 rfl (by decide) rfl (fm_dec dtX8_readHas 12 rfl) ?_
      dsimp only [List.set_cons_zero, List.set_cons_succ]
      exact xf_readHas20 b16 (by rw [(((k0.2.2.1.trans k8.2.2.1).trans b16.2.2.2.1).1 13 9 (by decide)).1]; exact h139) (fun M2 h2 => hbad M2 kb ab (by unfold clHas; simp only [spBind, e8, e16]) (h2.fr (k0.2.2.1.trans k8.2.2.1)).tb)
  · refine pv_then1 ?_
    refine pv_istoren (pc := 11) (n := 2) 2 rfl (by decide) rfl (fm_dec dtX8_readHas 7 rfl) ?_
    dsimp only [List.set_cons_zero, List.set_cons_succ]
    exact xf_readHas12 b8 (by rw [((k0.2.2.1.trans b8.2.2.2.1).1 13 9 (by decide)).1]; exact h139) (fun M2 h2 => hbad M2 kb ab (by unfold clHas; simp only [spBind, e8]) (h2.fr k0.2.2.1).tb)
def faM (M : fmM) (a b c : Int32) : fmM := fmI (fmI (fmI (fmI M 20 (M.1 13 10).toNatClampNeg a) 21 (M.1 13 10).toNatClampNeg b) 22 (M.1 13 10).toNatClampNeg c) 13 10 (M.1 13 10 + 1)
theorem fa_tok {M0 M : fmM} {tx : tX} {n q na nb nc : Nat} {D : dD} {a b c : Int32} (h : tok M0 M tx n q D) (h8 : D.2.2.1 < 24) (ha : a.toInt = na) (hb : b.toInt = nb) (hc : c.toInt = nc) (a1 : na ≤ 7) (b1 : nb ≤ 5) (c1 : nc ≤ 60) : tok M0 (faM M a b c) tx n q (D.1, D.2.1, D.2.2.1 + 1, dRow D.2.2.2.1 D.2.2.1 [(na : Int), nb, nc], D.2.2.2.2) := by
  obtain ⟨hS, hf, hI, ⟨⟨g1, g2, g3, g4, g5, g6⟩, g7, g8⟩, hF⟩ := h
  have el : (M.1 13 10).toNatClampNeg = D.2.2.1 := i32_cl g2
  have e1 : (M.1 13 10 + 1).toInt = ((D.2.2.1 + 1 : Nat) : Int) := i32_p1 g2 (by omega)
  unfold faM
  rw [el]
  refine ⟨hS.of rfl rfl rfl, hf, ?_, ⟨⟨g1, ?_, g3, g4, g5, g6⟩, fun i hi j hj => ?_, fun i hi j hj => ?_⟩, ((((hF.put (by decide)).put (by decide)).put (by decide)).put (by decide))⟩
  · exact xInv.put (xInv.put (xInv.put (xInv.put hI ⟨by show (0 : Int) ≤ _; omega, by show _ ≤ (7 : Int); omega⟩) ⟨by show (0 : Int) ≤ _; omega, by show _ ≤ (5 : Int); omega⟩) ⟨by show (0 : Int) ≤ _; omega, by show _ ≤ (60 : Int); omega⟩) ⟨by show (0 : Int) ≤ _; omega, by show _ ≤ (24 : Int); omega⟩
  · rw [fmI_s]
    exact e1
  · have hi : i < D.1 := hi
    show _ = D.2.1 i j
    rw [← g7 i hi j hj]
    simp only [fmI_at, show ¬ (13 + 1 + j = 13) by omega, show ¬ (13 + 1 + j = 20) by omega, show ¬ (13 + 1 + j = 21) by omega, show ¬ (13 + 1 + j = 22) by omega, false_and, if_false]
  · have hi : i < D.2.2.1 + 1 := hi
    show _ = dRow D.2.2.2.1 D.2.2.1 [(na : Int), nb, nc] i j
    unfold dRow
    by_cases e : i = D.2.2.1
    · subst e
      rw [if_pos rfl]
      match j, hj with
      | 0, _ =>
        rw [fmI_k _ _ (by decide), fmI_k _ _ (by decide), fmI_k _ _ (by decide), fmI_s]
        exact ha
      | 1, _ =>
        rw [fmI_k _ _ (by decide), fmI_k _ _ (by decide), fmI_s]
        exact hb
      | 2, _ =>
        rw [fmI_k _ _ (by decide), fmI_s]
        exact hc
      | j + 3, h => omega
    · rw [if_neg e]
      rw [← g8 i (by omega) j hj]
      simp only [fmI_at, show ¬ (13 + 7 + j = 13) by omega, e, and_false, false_and, if_false]
set_option maxRecDepth 20000 in
theorem x_fact {M : fmM} {Q : fmR → fmM → Prop} {tx : tX} {n p : Nat} {D : dD} (ht : tOk tx n) (hS : xS2 M tx n p) (hf : M.1 1 4 = 0) (hI : scInv Tx invX M) (hW : xdw 13 M D) (hD : dOk D) (h24 : D.2.2.1 < 24) (hok : ∀ (M' : fmM) (D' : dD) (q : Nat), clFact tx D p = .inr (D', q) → tok M M' tx n q D' → Q (.inl (some (.int 1))) M') (hbad : ∀ (M' : fmM) (k a : Nat), clFact tx D p = .inl (k, a) → tbad M M' k a → Q (.inl (some (.int 0))) M') : pvGood Tx 3 qX8_readFact [.ref 13, .ref 1] M Q := by
  refine pvGood_of (Nat.le_of_ble_eq_true rfl) ?_
  show pvEv Tx 3 qX8_readFact 0 [some (.ref 13), some (.ref 1), none, none, none] [] M Q
  have k0 : xdOk M M tx n p := ⟨hS, hf, xdFr.refl M, hI⟩
  have h139 : (M.1 13 9).toInt ≤ 8 ∧ 0 ≤ (M.1 13 9).toInt := (by have h8 := hW.1.1; have h7 := hD.1; exact ⟨by omega, by omega⟩)
  have h9d := hD.1
  refine pv_aloadn (pc := 0) (n := 1) 1 rfl rfl (fm_dec dtX8_readFact 0 rfl) ?_
  refine pv_iconst (pc := 1) (v := 0) (by decide) (fm_dec dtX8_readFact 1 rfl) ?_
  refine pv_aloadn (pc := 2) (n := 0) 0 rfl rfl (fm_dec dtX8_readFact 2 rfl) ?_
  refine pv_getI (k := 13) (j := 9) (ci := 8) (pc := 3) pfl_X8_42 (by decide) rfl (by decide) (fm_dec dtX8_readFact 3 rfl) ?_
  refine pv_iconst (pc := 6) (v := 1) (by decide) (fm_dec dtX8_readFact 4 rfl) ?_
  refine pv_isub (pc := 7) (fm_dec dtX8_readFact 5 rfl) ?_
  refine pv_invV2 (k := 1) (d' := 2) (pc := 8) pcv_X8_113 (by decide) rfl (Nat.le_of_ble_eq_true rfl) (by decide) (fm_dec dtX8_readFact 6 rfl) ?_
  refine x_numC 0 ((D.1 : Int) - 1) (by decide) (by have h9 := sc_sub (x := M.1 13 9) (z := 1) (by have h8 : (1 : Int32).toInt = 1 := (by decide); have h7 : (M.1 13 9).toInt = (D.1 : Int) := hW.1.1; omega) (by have h8 : (1 : Int32).toInt = 1 := (by decide); have h7 : (M.1 13 9).toInt = (D.1 : Int) := hW.1.1; omega); have h8 : (1 : Int32).toInt = 1 := (by decide); have h7 : (M.1 13 9).toInt = (D.1 : Int) := hW.1.1; omega) (by omega) k0.1 k0.2.1 k0.2.2.2 (fun M8 a8 q8 w8 e8 hw8 k8 => ?_) (fun M8 kb ab e8 b8 => ?_)
  · refine pv_then1 ?_
    refine pv_istoren (pc := 11) (n := 2) 2 rfl (by decide) rfl (fm_dec dtX8_readFact 7 rfl) ?_
    dsimp only [List.set_cons_zero, List.set_cons_succ]
    refine pv_aloadn (pc := 12) (n := 1) 1 rfl rfl (fm_dec dtX8_readFact 8 rfl) ?_
    refine pv_iconst (pc := 13) (v := 0) (by decide) (fm_dec dtX8_readFact 9 rfl) ?_
    refine pv_iconst (pc := 14) (v := 5) (by decide) (fm_dec dtX8_readFact 10 rfl) ?_
    refine pv_invV2 (k := 1) (d' := 2) (pc := 15) pcv_X8_113 (by decide) rfl (Nat.le_of_ble_eq_true rfl) (by decide) (fm_dec dtX8_readFact 11 rfl) ?_
    refine x_numC 0 5 (by decide) (by decide) (by decide) k8.1 k8.2.1 k8.2.2.2 (fun M15 a15 q15 w15 e15 hw15 k15 => ?_) (fun M15 kb ab e15 b15 => ?_)
    · refine pv_then1 ?_
      refine pv_istoren (pc := 18) (n := 3) 3 rfl (by decide) rfl (fm_dec dtX8_readFact 12 rfl) ?_
      dsimp only [List.set_cons_zero, List.set_cons_succ]
      refine pv_aloadn (pc := 19) (n := 1) 1 rfl rfl (fm_dec dtX8_readFact 13 rfl) ?_
      refine pv_iconst (pc := 20) (v := 1) (by decide) (fm_dec dtX8_readFact 14 rfl) ?_
      refine pv_bipush (pc := 21) (v := 60) (by decide) (fm_dec dtX8_readFact 15 rfl) ?_
      refine pv_invV2 (k := 1) (d' := 2) (pc := 23) pcv_X8_113 (by decide) rfl (Nat.le_of_ble_eq_true rfl) (by decide) (fm_dec dtX8_readFact 16 rfl) ?_
      refine x_numC 1 60 (by decide) (by decide) (by decide) k15.1 k15.2.1 k15.2.2.2 (fun M23 a23 q23 w23 e23 hw23 k23 => ?_) (fun M23 kb ab e23 b23 => ?_)
      · refine pv_then1 ?_
        refine pv_istore (pc := 26) (i := 4) (by decide) rfl (fm_dec dtX8_readFact 17 rfl) ?_
        dsimp only [List.set_cons_zero, List.set_cons_succ]
        have hW9 : xdw 13 M23 D := hW.xd (k0.2.2.1.trans (k8.2.2.1.trans (k15.2.2.1.trans k23.2.2.1)))
        have h1 : (M23.1 13 10).toInt = (D.2.2.1 : Int) := hW9.1.2.1
        have n0 := spNum_ok ht k0.1.2.2.1 e8
        have n1 := spNum_ok ht k8.1.2.2.1 e15
        have n2 := spNum_ok ht k15.1.2.2.1 e23
        have hl8 := hD.1
        refine pv_aloadn (pc := 28) (n := 1) 1 rfl rfl (fm_dec dtX8_readFact 18 rfl) ?_
        refine pv_invV0 (k := 1) (d' := 0) (pc := 29) pcv_X8_117 (by decide) rfl (Nat.le_of_ble_eq_true rfl) (by decide) (fm_dec dtX8_readFact 19 rfl) ?_
        refine c_xfailed (fun _ => ?_) (fun h9 => absurd k23.2.1 h9) 
        refine pv_then1 ?_
        refine pv_if_ne (pc := 32) 44 (by decide) (fm_dec dtX8_readFact 20 rfl) (fun hc32 => by exfalso; revert hc32; decide) (fun _ => ?_)
        refine pv_aloadn (pc := 35) (n := 0) 0 rfl rfl (fm_dec dtX8_readFact 21 rfl) ?_
        refine pv_getI (k := 13) (j := 10) (ci := 8) (pc := 36) pfl_X8_46 (by decide) rfl (by decide) (fm_dec dtX8_readFact 22 rfl) ?_
        refine pv_bipush (pc := 39) (v := 24) (by decide) (fm_dec dtX8_readFact 23 rfl) ?_
        refine pv_icmp_lt (pc := 41) 46 (by decide) (fm_dec dtX8_readFact 24 rfl) (fun _ => ?_) (fun hc41 => by exfalso; rw [sc_lt] at hc41; have h7 : (24 : Int32).toInt = 24 := (by decide); omega)
        refine pv_aloadn (pc := 46) (n := 0) 0 rfl rfl (fm_dec dtX8_readFact 27 rfl) ?_
        refine pv_getR (k := 13) (j := 6) (ci := 8) (pc := 47) 20 rfl (by decide) pfl_X8_30 (by decide) rfl (by decide) (fm_dec dtX8_readFact 28 rfl) ?_
        refine pv_aloadn (pc := 50) (n := 0) 0 rfl rfl (fm_dec dtX8_readFact 29 rfl) ?_
        refine pv_getI (k := 13) (j := 10) (ci := 8) (pc := 51) pfl_X8_46 (by decide) rfl (by decide) (fm_dec dtX8_readFact 30 rfl) ?_
        refine pv_iloadn (pc := 54) (n := 2) 2 rfl rfl (fm_dec dtX8_readFact 31 rfl) ?_
        refine pv_iast (k := 20) (n := 24) (pc := 55) (by decide) rfl rfl (ix_in h1 h24) (fm_dec dtX8_readFact 32 rfl) ?_
        refine pv_aloadn (pc := 56) (n := 0) 0 rfl rfl (fm_dec dtX8_readFact 33 rfl) ?_
        refine pv_getR (k := 13) (j := 7) (ci := 8) (pc := 57) 21 rfl (by decide) pfl_X8_33 (by decide) rfl (by decide) (fm_dec dtX8_readFact 34 rfl) ?_
        refine pv_aloadn (pc := 60) (n := 0) 0 rfl rfl (fm_dec dtX8_readFact 35 rfl) ?_
        refine pv_getI (k := 13) (j := 10) (ci := 8) (pc := 61) pfl_X8_46 (by decide) rfl (by decide) (fm_dec dtX8_readFact 36 rfl) ?_
        refine pv_iloadn (pc := 64) (n := 3) 3 rfl rfl (fm_dec dtX8_readFact 37 rfl) ?_
        refine pv_iast (k := 21) (n := 24) (pc := 65) (by decide) rfl rfl (ix_in h1 h24) (fm_dec dtX8_readFact 38 rfl) ?_
        refine pv_aloadn (pc := 66) (n := 0) 0 rfl rfl (fm_dec dtX8_readFact 39 rfl) ?_
        refine pv_getR (k := 13) (j := 8) (ci := 8) (pc := 67) 22 rfl (by decide) pfl_X8_36 (by decide) rfl (by decide) (fm_dec dtX8_readFact 40 rfl) ?_
        refine pv_aloadn (pc := 70) (n := 0) 0 rfl rfl (fm_dec dtX8_readFact 41 rfl) ?_
        refine pv_getI (k := 13) (j := 10) (ci := 8) (pc := 71) pfl_X8_46 (by decide) rfl (by decide) (fm_dec dtX8_readFact 42 rfl) ?_
        refine pv_iload (pc := 74) (i := 4) rfl (fm_dec dtX8_readFact 43 rfl) ?_
        refine pv_iast (k := 22) (n := 24) (pc := 76) (by decide) rfl rfl (ix_in h1 h24) (fm_dec dtX8_readFact 44 rfl) ?_
        refine pv_aloadn (pc := 77) (n := 0) 0 rfl rfl (fm_dec dtX8_readFact 45 rfl) ?_
        refine pv_dup (pc := 78) rfl (fm_dec dtX8_readFact 46 rfl) ?_
        refine pv_getI (k := 13) (j := 10) (ci := 8) (pc := 79) pfl_X8_46 (by decide) rfl (by decide) (fm_dec dtX8_readFact 47 rfl) ?_
        refine pv_iconst (pc := 82) (v := 1) (by decide) (fm_dec dtX8_readFact 48 rfl) ?_
        refine pv_iadd (pc := 83) (fm_dec dtX8_readFact 49 rfl) ?_
        refine pv_putI (k := 13) (j := 10) (ci := 8) (pc := 84) pfl_X8_46 (by decide) rfl (by decide) (fm_dec dtX8_readFact 50 rfl) ?_
        refine pv_iconst (pc := 87) (v := 1) (by decide) (fm_dec dtX8_readFact 51 rfl) ?_
        exact pv_zreturn (pc := 88) rfl (by first | exact Or.inr rfl | exact Or.inl rfl) (fm_dec dtX8_readFact 52 rfl) (hok (faM M23 w8 w15 w23) _ _ (by unfold clFact; simp only [spBind, e8, e15, e23]) (fa_tok ⟨k23.1, k23.2.1, k23.2.2.2, hW9, ((k0.2.2.1.trans (k8.2.2.1.trans (k15.2.2.1.trans k23.2.2.1)))).df⟩ h24 hw8 hw15 hw23 (by omega) (by omega) (by omega)))
      · refine pv_then1 ?_
        refine pv_istore (pc := 26) (i := 4) (by decide) rfl (fm_dec dtX8_readFact 17 rfl) ?_
        dsimp only [List.set_cons_zero, List.set_cons_succ]
        exact xf_readFact28 b23 (by rw [(((k0.2.2.1.trans (k8.2.2.1.trans k15.2.2.1)).trans b23.2.2.2.1).1 13 9 (by decide)).1]; exact h139) (fun M2 h2 => hbad M2 kb ab (by unfold clFact; simp only [spBind, e8, e15, e23]) (h2.fr (k0.2.2.1.trans (k8.2.2.1.trans k15.2.2.1))).tb)
    · refine pv_then1 ?_
      refine pv_istoren (pc := 18) (n := 3) 3 rfl (by decide) rfl (fm_dec dtX8_readFact 12 rfl) ?_
      dsimp only [List.set_cons_zero, List.set_cons_succ]
      exact xf_readFact19 b15 (by rw [(((k0.2.2.1.trans k8.2.2.1).trans b15.2.2.2.1).1 13 9 (by decide)).1]; exact h139) (fun M2 h2 => hbad M2 kb ab (by unfold clFact; simp only [spBind, e8, e15]) (h2.fr (k0.2.2.1.trans k8.2.2.1)).tb)
  · refine pv_then1 ?_
    refine pv_istoren (pc := 11) (n := 2) 2 rfl (by decide) rfl (fm_dec dtX8_readFact 7 rfl) ?_
    dsimp only [List.set_cons_zero, List.set_cons_succ]
    exact xf_readFact12 b8 (by rw [((k0.2.2.1.trans b8.2.2.2.1).1 13 9 (by decide)).1]; exact h139) (fun M2 h2 => hbad M2 kb ab (by unfold clFact; simp only [spBind, e8]) (h2.fr k0.2.2.1).tb)
set_option maxRecDepth 20000 in
theorem x_by {M : fmM} {Q : fmR → fmM → Prop} {tx : tX} {n p : Nat} {D : dD} (ht : tOk tx n) (hS : xS2 M tx n p) (hf : M.1 1 4 = 0) (hI : scInv Tx invX M) (hW : xdw 13 M D) (hD : dOk D) (hok : ∀ (M' : fmM) (D' : dD) (q : Nat), clBy tx D p = .inr (D', q) → tok M M' tx n q D' → Q (.inl (some (.int 1))) M') (hbad : ∀ (M' : fmM) (k a : Nat), clBy tx D p = .inl (k, a) → tbad M M' k a → Q (.inl (some (.int 0))) M') : pvGood Tx 3 qX8_readBy [.ref 13, .ref 1] M Q := by
  refine pvGood_of (Nat.le_of_ble_eq_true rfl) ?_
  show pvEv Tx 3 qX8_readBy 0 [some (.ref 13), some (.ref 1), none, none, none] [] M Q
  have k0 : xdOk M M tx n p := ⟨hS, hf, xdFr.refl M, hI⟩
  have h139 : (M.1 13 9).toInt ≤ 8 ∧ 0 ≤ (M.1 13 9).toInt := (by have h8 := hW.1.1; have h7 := hD.1; exact ⟨by omega, by omega⟩)
  have h9d := hD.1
  refine pv_aloadn (pc := 0) (n := 1) 1 rfl rfl (fm_dec dtX8_readBy 0 rfl) ?_
  refine pv_iconst (pc := 1) (v := 0) (by decide) (fm_dec dtX8_readBy 1 rfl) ?_
  refine pv_aloadn (pc := 2) (n := 0) 0 rfl rfl (fm_dec dtX8_readBy 2 rfl) ?_
  refine pv_getI (k := 13) (j := 9) (ci := 8) (pc := 3) pfl_X8_42 (by decide) rfl (by decide) (fm_dec dtX8_readBy 3 rfl) ?_
  refine pv_iconst (pc := 6) (v := 1) (by decide) (fm_dec dtX8_readBy 4 rfl) ?_
  refine pv_isub (pc := 7) (fm_dec dtX8_readBy 5 rfl) ?_
  refine pv_invV2 (k := 1) (d' := 2) (pc := 8) pcv_X8_113 (by decide) rfl (Nat.le_of_ble_eq_true rfl) (by decide) (fm_dec dtX8_readBy 6 rfl) ?_
  refine x_numC 0 ((D.1 : Int) - 1) (by decide) (by have h9 := sc_sub (x := M.1 13 9) (z := 1) (by have h8 : (1 : Int32).toInt = 1 := (by decide); have h7 : (M.1 13 9).toInt = (D.1 : Int) := hW.1.1; omega) (by have h8 : (1 : Int32).toInt = 1 := (by decide); have h7 : (M.1 13 9).toInt = (D.1 : Int) := hW.1.1; omega); have h8 : (1 : Int32).toInt = 1 := (by decide); have h7 : (M.1 13 9).toInt = (D.1 : Int) := hW.1.1; omega) (by omega) k0.1 k0.2.1 k0.2.2.2 (fun M8 a8 q8 w8 e8 hw8 k8 => ?_) (fun M8 kb ab e8 b8 => ?_)
  · refine pv_then1 ?_
    refine pv_istoren (pc := 11) (n := 2) 2 rfl (by decide) rfl (fm_dec dtX8_readBy 7 rfl) ?_
    dsimp only [List.set_cons_zero, List.set_cons_succ]
    refine pv_aloadn (pc := 12) (n := 1) 1 rfl rfl (fm_dec dtX8_readBy 8 rfl) ?_
    refine pv_invV0 (k := 1) (d' := 1) (pc := 13) pcv_X8_88 (by decide) rfl (Nat.le_of_ble_eq_true rfl) (by decide) (fm_dec dtX8_readBy 9 rfl) ?_
    refine x_next k8.1 k8.2.1 k8.2.2.2 (fun M13 x13 hx13 k13 => ?_)
    refine pv_then1 ?_
    refine pv_istoren (pc := 16) (n := 3) 3 rfl (by decide) rfl (fm_dec dtX8_readBy 10 rfl) ?_
    dsimp only [List.set_cons_zero, List.set_cons_succ]
    refine pv_aloadn (pc := 17) (n := 1) 1 rfl rfl (fm_dec dtX8_readBy 11 rfl) ?_
    refine pv_iconst (pc := 18) (v := 0) (by decide) (fm_dec dtX8_readBy 12 rfl) ?_
    refine pv_aloadn (pc := 19) (n := 0) 0 rfl rfl (fm_dec dtX8_readBy 13 rfl) ?_
    refine pv_getI (k := 13) (j := 9) (ci := 8) (pc := 20) pfl_X8_42 (by decide) rfl (by decide) (fm_dec dtX8_readBy 14 rfl) ?_
    refine pv_iconst (pc := 23) (v := 1) (by decide) (fm_dec dtX8_readBy 15 rfl) ?_
    refine pv_isub (pc := 24) (fm_dec dtX8_readBy 16 rfl) ?_
    refine pv_invV2 (k := 1) (d' := 2) (pc := 25) pcv_X8_113 (by decide) rfl (Nat.le_of_ble_eq_true rfl) (by decide) (fm_dec dtX8_readBy 17 rfl) ?_
    refine x_numC 0 ((D.1 : Int) - 1) (by decide) (by have h9 := sc_sub (x := M13.1 13 9) (z := 1) (by have h8 : (1 : Int32).toInt = 1 := (by decide); have h7 : (M13.1 13 9).toInt = (D.1 : Int) := ((hW.xd (k8.2.2.1.trans k13.2.2.1)).1.1); omega) (by have h8 : (1 : Int32).toInt = 1 := (by decide); have h7 : (M13.1 13 9).toInt = (D.1 : Int) := ((hW.xd (k8.2.2.1.trans k13.2.2.1)).1.1); omega); have h8 : (1 : Int32).toInt = 1 := (by decide); have h7 : (M13.1 13 9).toInt = (D.1 : Int) := ((hW.xd (k8.2.2.1.trans k13.2.2.1)).1.1); omega) (by omega) k13.1 k13.2.1 k13.2.2.2 (fun M25 a25 q25 w25 e25 hw25 k25 => ?_) (fun M25 kb ab e25 b25 => ?_)
    · refine pv_then1 ?_
      refine pv_istore (pc := 28) (i := 4) (by decide) rfl (fm_dec dtX8_readBy 18 rfl) ?_
      dsimp only [List.set_cons_zero, List.set_cons_succ]
      have e25 : spNum tx 0 ((D.1 : Int) - 1) q8 = .inr (a25, q25) := (by rw [spNum_sk ht k8.1.2.2.1] at e25; exact e25)
      have hW9 : xdw 13 M25 D := hW.xd (k8.2.2.1.trans (k13.2.2.1.trans k25.2.2.1))
      have n0 := spNum_ok ht hS.2.2.1 e8
      have n1 := spNum_ok ht k8.1.2.2.1 e25
      have hl8 := hD.1
      refine pv_iload (pc := 30) (i := 4) rfl (fm_dec dtX8_readBy 19 rfl) ?_
      refine pv_iloadn (pc := 32) (n := 2) 2 rfl rfl (fm_dec dtX8_readBy 20 rfl) ?_
      refine pv_icmp_ne (pc := 33) 43 (by decide) (fm_dec dtX8_readBy 21 rfl) (fun hc33 => ?_) (fun hc33 => ?_)
      · have hab : ¬ a8 = a25 := (by intro h9; apply hc33; exact i32_ext (by omega))
        refine pv_aloadn (pc := 43) (n := 1) 1 rfl rfl (fm_dec dtX8_readBy 27 rfl) ?_
        refine pv_invV0 (k := 1) (d' := 0) (pc := 44) pcv_X8_117 (by decide) rfl (Nat.le_of_ble_eq_true rfl) (by decide) (fm_dec dtX8_readBy 28 rfl) ?_
        refine c_xfailed (fun _ => ?_) (fun h9 => absurd k25.2.1 h9) 
        refine pv_then1 ?_
        refine pv_if_ne (pc := 47) 54 (by decide) (fm_dec dtX8_readBy 29 rfl) (fun hc47 => by exfalso; revert hc47; decide) (fun _ => ?_)
        refine pv_iloadn (pc := 50) (n := 2) 2 rfl rfl (fm_dec dtX8_readBy 30 rfl) ?_
        refine pv_if_ge (pc := 51) 56 (by decide) (fm_dec dtX8_readBy 31 rfl) (fun _ => ?_) (fun hc51 => by exfalso; rw [sc_le] at hc51; have h7 : (0 : Int32).toInt = 0 := (by decide); omega)
        refine pv_aloadn (pc := 56) (n := 0) 0 rfl rfl (fm_dec dtX8_readBy 34 rfl) ?_
        refine pv_getR (k := 13) (j := 5) (ci := 8) (pc := 57) 19 rfl (by decide) pfl_X8_27 (by decide) rfl (by decide) (fm_dec dtX8_readBy 35 rfl) ?_
        refine pv_iloadn (pc := 60) (n := 2) 2 rfl rfl (fm_dec dtX8_readBy 36 rfl) ?_
        refine pv_iload (pc := 61) (i := 4) rfl (fm_dec dtX8_readBy 37 rfl) ?_
        refine pv_iast (k := 19) (n := 8) (pc := 63) (by decide) rfl rfl (ix_in hw8 (by omega)) (fm_dec dtX8_readBy 38 rfl) ?_
        refine pv_iconst (pc := 64) (v := 1) (by decide) (fm_dec dtX8_readBy 39 rfl) ?_
        exact pv_zreturn (pc := 65) rfl (by first | exact Or.inr rfl | exact Or.inl rfl) (fm_dec dtX8_readBy 40 rfl) (hok _ _ _ (by unfold clBy; simp only [spBind, e8, e25, hab, if_false]) (st_tok (j := 5) (i := a8) (V := (a25 : Int)) ⟨k25.1, k25.2.1, k25.2.2.2, hW9, ((k8.2.2.1.trans (k13.2.2.1.trans k25.2.2.1))).df⟩ (Or.inr rfl) (by omega) hl8 hw8 hw25 (by omega) (Or.inl (by omega))))
      · refine pv_aloadn (pc := 36) (n := 1) 1 rfl rfl (fm_dec dtX8_readBy 22 rfl) ?_
        refine pv_iconst (pc := 37) (v := 2) (by decide) (fm_dec dtX8_readBy 23 rfl) ?_
        refine pv_iloadn (pc := 38) (n := 3) 3 rfl rfl (fm_dec dtX8_readBy 24 rfl) ?_
        refine pv_invV2 (k := 1) (d' := 0) (pc := 39) pcv_X8_84 (by decide) rfl (Nat.le_of_ble_eq_true rfl) (by decide) (fm_dec dtX8_readBy 25 rfl) ?_
        refine c_xfail0 k25.2.1 ?_
        refine pv_then1 ?_
        refine pv_pop (pc := 42) rfl (fm_dec dtX8_readBy 26 rfl) ?_
        have hab : a8 = a25 := (by have h9 := congrArg Int32.toInt hc33; omega)
        exact xf_readBy43 (xdBad.of0 k25 hx13 (sp_le tB_1 ht k8.1.2.2.1)) (by rw [fmI_k _ _ (by decide), fmI_k _ _ (by decide), ((k8.2.2.1.trans (k13.2.2.1.trans k25.2.2.1)).1 13 9 (by decide)).1]; exact h139) (fun M2 h2 => hbad M2 2 (sk tx q8) (by unfold clBy; simp only [spBind, e8, e25, hab, if_true]) (h2.fr (k8.2.2.1.trans k13.2.2.1)).tb)
    · refine pv_then1 ?_
      refine pv_istore (pc := 28) (i := 4) (by decide) rfl (fm_dec dtX8_readBy 18 rfl) ?_
      dsimp only [List.set_cons_zero, List.set_cons_succ]
      have e25 : spNum tx 0 ((D.1 : Int) - 1) q8 = .inl (kb, ab) := (by rw [spNum_sk ht k8.1.2.2.1] at e25; exact e25)
      exact xf_readBy30 b25 (by rw [((k8.2.2.1.trans (k13.2.2.1.trans b25.2.2.2.1)).1 13 9 (by decide)).1]; exact h139) (fun M2 h2 => hbad M2 kb ab (by unfold clBy; simp only [spBind, e8, e25]) (h2.fr (k8.2.2.1.trans k13.2.2.1)).tb)
  · refine pv_then1 ?_
    refine pv_istoren (pc := 11) (n := 2) 2 rfl (by decide) rfl (fm_dec dtX8_readBy 7 rfl) ?_
    dsimp only [List.set_cons_zero, List.set_cons_succ]
    exact xf_readBy12 b8 (by rw [(b8.2.2.2.1.1 13 9 (by decide)).1]; exact h139) (fun M2 h2 => hbad M2 kb ab (by unfold clBy; simp only [spBind, e8]) h2.tb)
theorem ru_tok {M0 M : fmM} {tx : tX} {n q k v : Nat} {D : dD} {x : Int32} (h : tok M0 M tx n q D) (hk : 2 ≤ k ∧ k ≤ 5) (hx : x.toInt = v) (hb : (scAt (invX 13) (9 + k)).1 ≤ x.toInt ∧ x.toInt ≤ (scAt (invX 13) (9 + k)).2) : tok M0 (fmI M 13 (9 + k) x) tx n q (D.1, D.2.1, D.2.2.1, D.2.2.2.1, fun k' => if k' = k then (v : Int) else D.2.2.2.2 k') := by
  obtain ⟨hS, hf, hI, ⟨⟨g1, g2, g3, g4, g5, g6⟩, g7, g8⟩, hF⟩ := h
  have hp : ∀ j, 2 ≤ j → j ≤ 5 → (M.1 13 (9 + j)).toInt = D.2.2.2.2 j → ((fmI M 13 (9 + k) x).1 13 (9 + j)).toInt = if j = k then (v : Int) else D.2.2.2.2 j := fun j _ _ e => by
    by_cases e9 : j = k
    · subst e9
      rw [if_pos rfl, fmI_s]
      exact hx
    · rw [if_neg e9, fmI_j _ _ (by omega)]
      exact e
  refine ⟨hS.of rfl rfl rfl, hf, xInv.put hI hb, ⟨⟨?_, ?_, hp 2 (by decide) (by decide) g3, hp 3 (by decide) (by decide) g4, hp 4 (by decide) (by decide) g5, hp 5 (by decide) (by decide) g6⟩, fun i hi j hj => ?_, fun i hi j hj => ?_⟩, hF.put (by decide)⟩
  · rw [fmI_j _ _ (by omega)]; exact g1
  · rw [fmI_j _ _ (by omega)]; exact g2
  · rw [fmI_k _ _ (by omega)]; exact g7 i hi j hj
  · rw [fmI_k _ _ (by omega)]; exact g8 i hi j hj
theorem ru_bad {M0 M : fmM} {k a j : Nat} {x : Int32} (h : xdBad M0 M k a) (hb : (scAt (invX 13) j).1 ≤ x.toInt ∧ x.toInt ≤ (scAt (invX 13) j).2) : tbad M0 (fmI M 13 j x) k a := ⟨h.1, h.2.1, h.2.2.1, h.2.2.2.1.df.put (by decide), xInv.put h.2.2.2.2 hb⟩
set_option maxRecDepth 20000 in
theorem x_rule4 {M : fmM} {Q : fmR → fmM → Prop} {tx : tX} {n p : Nat} {D : dD} (ht : tOk tx n) (hS : xS2 M tx n p) (hf : M.1 1 4 = 0) (hI : scInv Tx invX M) (hW : xdw 13 M D) (hD : dOk D) (hok : ∀ (M' : fmM) (D' : dD) (q : Nat), clRule tx D 2 p = .inr (D', q) → tok M M' tx n q D' → Q (.inl (some (.int 1))) M') (hbad : ∀ (M' : fmM) (k a : Nat), clRule tx D 2 p = .inl (k, a) → tbad M M' k a → Q (.inl (some (.int 0))) M') : pvGood Tx 3 qX8_readRule [.ref 13, .ref 1, .int 4] M Q := by
  refine pvGood_of (Nat.le_of_ble_eq_true rfl) ?_
  show pvEv Tx 3 qX8_readRule 0 [some (.ref 13), some (.ref 1), some (.int 4)] [] M Q
  have k0 : xdOk M M tx n p := ⟨hS, hf, xdFr.refl M, hI⟩
  have h139 : (M.1 13 9).toInt ≤ 8 ∧ 0 ≤ (M.1 13 9).toInt := (by have h8 := hW.1.1; have h7 := hD.1; exact ⟨by omega, by omega⟩)
  refine pv_iloadn (pc := 0) (n := 2) 2 rfl rfl (fm_dec dtX8_readRule 0 rfl) ?_
  refine pv_table (pc := 1) 28 (by decide) rfl (fm_dec dtX8_readRule 1 rfl) ?_
  refine pv_aloadn (pc := 28) (n := 0) 0 rfl rfl (fm_dec dtX8_readRule 2 rfl) ?_
  refine pv_aloadn (pc := 29) (n := 1) 1 rfl rfl (fm_dec dtX8_readRule 3 rfl) ?_
  refine pv_iconst (pc := 30) (v := 1) (by decide) (fm_dec dtX8_readRule 4 rfl) ?_
  refine pv_bipush (pc := 31) (v := 12) (by decide) (fm_dec dtX8_readRule 5 rfl) ?_
  refine pv_invV2 (k := 1) (d' := 2) (pc := 33) pcv_X8_113 (by decide) rfl (Nat.le_of_ble_eq_true rfl) (by decide) (fm_dec dtX8_readRule 6 rfl) ?_
  refine x_numC 1 12 (by decide) (by decide) (by decide) k0.1 k0.2.1 k0.2.2.2 (fun M33 a33 q33 w33 e33 hw33 k33 => ?_) (fun M33 kb ab e33 b33 => ?_)
  · refine pv_then1 ?_
    refine pv_putI (k := 13) (j := 11) (ci := 8) (pc := 36) pfl_X8_49 (by decide) rfl (by decide) (fm_dec dtX8_readRule 7 rfl) ?_
    refine pv_goto (pc := 39) 80 (by decide) (fm_dec dtX8_readRule 8 rfl) ?_
    refine pv_aloadn (pc := 80) (n := 1) 1 rfl rfl (fm_dec dtX8_readRule 29 rfl) ?_
    refine pv_invV0 (k := 1) (d' := 0) (pc := 81) pcv_X8_117 (by decide) rfl (Nat.le_of_ble_eq_true rfl) (by decide) (fm_dec dtX8_readRule 30 rfl) ?_
    refine c_xfailed (fun _ => ?_) (fun h9 => absurd k33.2.1 h9) 
    refine pv_then1 ?_
    refine pv_if_ne (pc := 84) 91 (by decide) (fm_dec dtX8_readRule 31 rfl) (fun hc84 => by exfalso; revert hc84; decide) (fun _ => ?_)
    refine pv_iconst (pc := 87) (v := 1) (by decide) (fm_dec dtX8_readRule 32 rfl) ?_
    refine pv_goto (pc := 88) 92 (by decide) (fm_dec dtX8_readRule 33 rfl) ?_
    exact pv_zreturn (pc := 92) rfl (by first | exact Or.inr rfl | exact Or.inl rfl) (fm_dec dtX8_readRule 35 rfl) (hok _ _ _ (by unfold clRule; have e8 : spNum tx (dLo 2) (dHi 2) p = .inr (a33, q33) := e33; simp only [spBind, e8]) (ru_tok (k := 2) ⟨k33.1, k33.2.1, k33.2.2.2, hW.xd k33.2.2.1, k33.2.2.1.df⟩ (by decide) hw33 (by have n0 := spNum_ok ht hS.2.2.1 e33; exact ⟨by show ((-1) : Int) ≤ _; omega, by show _ ≤ (12 : Int); omega⟩)))
  · refine pv_then1 ?_
    refine pv_putI (k := 13) (j := 11) (ci := 8) (pc := 36) pfl_X8_49 (by decide) rfl (by decide) (fm_dec dtX8_readRule 7 rfl) ?_
    refine pv_goto (pc := 39) 80 (by decide) (fm_dec dtX8_readRule 8 rfl) ?_
    refine pv_aloadn (pc := 80) (n := 1) 1 rfl rfl (fm_dec dtX8_readRule 29 rfl) ?_
    refine pv_invV0 (k := 1) (d' := 0) (pc := 81) pcv_X8_117 (by decide) rfl (Nat.le_of_ble_eq_true rfl) (by decide) (fm_dec dtX8_readRule 30 rfl) ?_
    refine c_xfailed (fun h9 => absurd h9 b33.nz) (fun _ => ?_) 
    refine pv_then1 ?_
    refine pv_if_ne (pc := 84) 91 (by decide) (fm_dec dtX8_readRule 31 rfl) (fun _ => ?_) (fun hc84 => by exfalso; revert hc84; decide)
    refine pv_iconst (pc := 91) (v := 0) (by decide) (fm_dec dtX8_readRule 34 rfl) ?_
    exact pv_zreturn (pc := 92) rfl (by first | exact Or.inr rfl | exact Or.inl rfl) (fm_dec dtX8_readRule 35 rfl) (hbad _ kb ab (by unfold clRule; have e8 : spNum tx (dLo 2) (dHi 2) p = .inl (kb, ab) := e33; simp only [spBind, e8]) (ru_bad b33 (by decide)))
set_option maxRecDepth 20000 in
theorem x_rule5 {M : fmM} {Q : fmR → fmM → Prop} {tx : tX} {n p : Nat} {D : dD} (ht : tOk tx n) (hS : xS2 M tx n p) (hf : M.1 1 4 = 0) (hI : scInv Tx invX M) (hW : xdw 13 M D) (hD : dOk D) (hok : ∀ (M' : fmM) (D' : dD) (q : Nat), clRule tx D 3 p = .inr (D', q) → tok M M' tx n q D' → Q (.inl (some (.int 1))) M') (hbad : ∀ (M' : fmM) (k a : Nat), clRule tx D 3 p = .inl (k, a) → tbad M M' k a → Q (.inl (some (.int 0))) M') : pvGood Tx 3 qX8_readRule [.ref 13, .ref 1, .int 5] M Q := by
  refine pvGood_of (Nat.le_of_ble_eq_true rfl) ?_
  show pvEv Tx 3 qX8_readRule 0 [some (.ref 13), some (.ref 1), some (.int 5)] [] M Q
  have k0 : xdOk M M tx n p := ⟨hS, hf, xdFr.refl M, hI⟩
  have h139 : (M.1 13 9).toInt ≤ 8 ∧ 0 ≤ (M.1 13 9).toInt := (by have h8 := hW.1.1; have h7 := hD.1; exact ⟨by omega, by omega⟩)
  refine pv_iloadn (pc := 0) (n := 2) 2 rfl rfl (fm_dec dtX8_readRule 0 rfl) ?_
  refine pv_table (pc := 1) 42 (by decide) rfl (fm_dec dtX8_readRule 1 rfl) ?_
  refine pv_aloadn (pc := 42) (n := 0) 0 rfl rfl (fm_dec dtX8_readRule 9 rfl) ?_
  refine pv_aloadn (pc := 43) (n := 1) 1 rfl rfl (fm_dec dtX8_readRule 10 rfl) ?_
  refine pv_iconst (pc := 44) (v := 0) (by decide) (fm_dec dtX8_readRule 11 rfl) ?_
  refine pv_bipush (pc := 45) (v := 9) (by decide) (fm_dec dtX8_readRule 12 rfl) ?_
  refine pv_invV2 (k := 1) (d' := 2) (pc := 47) pcv_X8_113 (by decide) rfl (Nat.le_of_ble_eq_true rfl) (by decide) (fm_dec dtX8_readRule 13 rfl) ?_
  refine x_numC 0 9 (by decide) (by decide) (by decide) k0.1 k0.2.1 k0.2.2.2 (fun M47 a47 q47 w47 e47 hw47 k47 => ?_) (fun M47 kb ab e47 b47 => ?_)
  · refine pv_then1 ?_
    refine pv_putI (k := 13) (j := 12) (ci := 8) (pc := 50) pfl_X8_52 (by decide) rfl (by decide) (fm_dec dtX8_readRule 14 rfl) ?_
    refine pv_goto (pc := 53) 80 (by decide) (fm_dec dtX8_readRule 15 rfl) ?_
    refine pv_aloadn (pc := 80) (n := 1) 1 rfl rfl (fm_dec dtX8_readRule 29 rfl) ?_
    refine pv_invV0 (k := 1) (d' := 0) (pc := 81) pcv_X8_117 (by decide) rfl (Nat.le_of_ble_eq_true rfl) (by decide) (fm_dec dtX8_readRule 30 rfl) ?_
    refine c_xfailed (fun _ => ?_) (fun h9 => absurd k47.2.1 h9) 
    refine pv_then1 ?_
    refine pv_if_ne (pc := 84) 91 (by decide) (fm_dec dtX8_readRule 31 rfl) (fun hc84 => by exfalso; revert hc84; decide) (fun _ => ?_)
    refine pv_iconst (pc := 87) (v := 1) (by decide) (fm_dec dtX8_readRule 32 rfl) ?_
    refine pv_goto (pc := 88) 92 (by decide) (fm_dec dtX8_readRule 33 rfl) ?_
    exact pv_zreturn (pc := 92) rfl (by first | exact Or.inr rfl | exact Or.inl rfl) (fm_dec dtX8_readRule 35 rfl) (hok _ _ _ (by unfold clRule; have e8 : spNum tx (dLo 3) (dHi 3) p = .inr (a47, q47) := e47; simp only [spBind, e8]) (ru_tok (k := 3) ⟨k47.1, k47.2.1, k47.2.2.2, hW.xd k47.2.2.1, k47.2.2.1.df⟩ (by decide) hw47 (by have n0 := spNum_ok ht hS.2.2.1 e47; exact ⟨by show ((-1) : Int) ≤ _; omega, by show _ ≤ (9 : Int); omega⟩)))
  · refine pv_then1 ?_
    refine pv_putI (k := 13) (j := 12) (ci := 8) (pc := 50) pfl_X8_52 (by decide) rfl (by decide) (fm_dec dtX8_readRule 14 rfl) ?_
    refine pv_goto (pc := 53) 80 (by decide) (fm_dec dtX8_readRule 15 rfl) ?_
    refine pv_aloadn (pc := 80) (n := 1) 1 rfl rfl (fm_dec dtX8_readRule 29 rfl) ?_
    refine pv_invV0 (k := 1) (d' := 0) (pc := 81) pcv_X8_117 (by decide) rfl (Nat.le_of_ble_eq_true rfl) (by decide) (fm_dec dtX8_readRule 30 rfl) ?_
    refine c_xfailed (fun h9 => absurd h9 b47.nz) (fun _ => ?_) 
    refine pv_then1 ?_
    refine pv_if_ne (pc := 84) 91 (by decide) (fm_dec dtX8_readRule 31 rfl) (fun _ => ?_) (fun hc84 => by exfalso; revert hc84; decide)
    refine pv_iconst (pc := 91) (v := 0) (by decide) (fm_dec dtX8_readRule 34 rfl) ?_
    exact pv_zreturn (pc := 92) rfl (by first | exact Or.inr rfl | exact Or.inl rfl) (fm_dec dtX8_readRule 35 rfl) (hbad _ kb ab (by unfold clRule; have e8 : spNum tx (dLo 3) (dHi 3) p = .inl (kb, ab) := e47; simp only [spBind, e8]) (ru_bad b47 (by decide)))
set_option maxRecDepth 20000 in
theorem x_rule6 {M : fmM} {Q : fmR → fmM → Prop} {tx : tX} {n p : Nat} {D : dD} (ht : tOk tx n) (hS : xS2 M tx n p) (hf : M.1 1 4 = 0) (hI : scInv Tx invX M) (hW : xdw 13 M D) (hD : dOk D) (hok : ∀ (M' : fmM) (D' : dD) (q : Nat), clRule tx D 4 p = .inr (D', q) → tok M M' tx n q D' → Q (.inl (some (.int 1))) M') (hbad : ∀ (M' : fmM) (k a : Nat), clRule tx D 4 p = .inl (k, a) → tbad M M' k a → Q (.inl (some (.int 0))) M') : pvGood Tx 3 qX8_readRule [.ref 13, .ref 1, .int 6] M Q := by
  refine pvGood_of (Nat.le_of_ble_eq_true rfl) ?_
  show pvEv Tx 3 qX8_readRule 0 [some (.ref 13), some (.ref 1), some (.int 6)] [] M Q
  have k0 : xdOk M M tx n p := ⟨hS, hf, xdFr.refl M, hI⟩
  have h139 : (M.1 13 9).toInt ≤ 8 ∧ 0 ≤ (M.1 13 9).toInt := (by have h8 := hW.1.1; have h7 := hD.1; exact ⟨by omega, by omega⟩)
  refine pv_iloadn (pc := 0) (n := 2) 2 rfl rfl (fm_dec dtX8_readRule 0 rfl) ?_
  refine pv_table (pc := 1) 56 (by decide) rfl (fm_dec dtX8_readRule 1 rfl) ?_
  refine pv_aloadn (pc := 56) (n := 0) 0 rfl rfl (fm_dec dtX8_readRule 16 rfl) ?_
  refine pv_aloadn (pc := 57) (n := 1) 1 rfl rfl (fm_dec dtX8_readRule 17 rfl) ?_
  refine pv_iconst (pc := 58) (v := 0) (by decide) (fm_dec dtX8_readRule 18 rfl) ?_
  refine pv_bipush (pc := 59) (v := 9) (by decide) (fm_dec dtX8_readRule 19 rfl) ?_
  refine pv_invV2 (k := 1) (d' := 2) (pc := 61) pcv_X8_113 (by decide) rfl (Nat.le_of_ble_eq_true rfl) (by decide) (fm_dec dtX8_readRule 20 rfl) ?_
  refine x_numC 0 9 (by decide) (by decide) (by decide) k0.1 k0.2.1 k0.2.2.2 (fun M61 a61 q61 w61 e61 hw61 k61 => ?_) (fun M61 kb ab e61 b61 => ?_)
  · refine pv_then1 ?_
    refine pv_putI (k := 13) (j := 13) (ci := 8) (pc := 64) pfl_X8_55 (by decide) rfl (by decide) (fm_dec dtX8_readRule 21 rfl) ?_
    refine pv_goto (pc := 67) 80 (by decide) (fm_dec dtX8_readRule 22 rfl) ?_
    refine pv_aloadn (pc := 80) (n := 1) 1 rfl rfl (fm_dec dtX8_readRule 29 rfl) ?_
    refine pv_invV0 (k := 1) (d' := 0) (pc := 81) pcv_X8_117 (by decide) rfl (Nat.le_of_ble_eq_true rfl) (by decide) (fm_dec dtX8_readRule 30 rfl) ?_
    refine c_xfailed (fun _ => ?_) (fun h9 => absurd k61.2.1 h9) 
    refine pv_then1 ?_
    refine pv_if_ne (pc := 84) 91 (by decide) (fm_dec dtX8_readRule 31 rfl) (fun hc84 => by exfalso; revert hc84; decide) (fun _ => ?_)
    refine pv_iconst (pc := 87) (v := 1) (by decide) (fm_dec dtX8_readRule 32 rfl) ?_
    refine pv_goto (pc := 88) 92 (by decide) (fm_dec dtX8_readRule 33 rfl) ?_
    exact pv_zreturn (pc := 92) rfl (by first | exact Or.inr rfl | exact Or.inl rfl) (fm_dec dtX8_readRule 35 rfl) (hok _ _ _ (by unfold clRule; have e8 : spNum tx (dLo 4) (dHi 4) p = .inr (a61, q61) := e61; simp only [spBind, e8]) (ru_tok (k := 4) ⟨k61.1, k61.2.1, k61.2.2.2, hW.xd k61.2.2.1, k61.2.2.1.df⟩ (by decide) hw61 (by have n0 := spNum_ok ht hS.2.2.1 e61; exact ⟨by show ((-1) : Int) ≤ _; omega, by show _ ≤ (9 : Int); omega⟩)))
  · refine pv_then1 ?_
    refine pv_putI (k := 13) (j := 13) (ci := 8) (pc := 64) pfl_X8_55 (by decide) rfl (by decide) (fm_dec dtX8_readRule 21 rfl) ?_
    refine pv_goto (pc := 67) 80 (by decide) (fm_dec dtX8_readRule 22 rfl) ?_
    refine pv_aloadn (pc := 80) (n := 1) 1 rfl rfl (fm_dec dtX8_readRule 29 rfl) ?_
    refine pv_invV0 (k := 1) (d' := 0) (pc := 81) pcv_X8_117 (by decide) rfl (Nat.le_of_ble_eq_true rfl) (by decide) (fm_dec dtX8_readRule 30 rfl) ?_
    refine c_xfailed (fun h9 => absurd h9 b61.nz) (fun _ => ?_) 
    refine pv_then1 ?_
    refine pv_if_ne (pc := 84) 91 (by decide) (fm_dec dtX8_readRule 31 rfl) (fun _ => ?_) (fun hc84 => by exfalso; revert hc84; decide)
    refine pv_iconst (pc := 91) (v := 0) (by decide) (fm_dec dtX8_readRule 34 rfl) ?_
    exact pv_zreturn (pc := 92) rfl (by first | exact Or.inr rfl | exact Or.inl rfl) (fm_dec dtX8_readRule 35 rfl) (hbad _ kb ab (by unfold clRule; have e8 : spNum tx (dLo 4) (dHi 4) p = .inl (kb, ab) := e61; simp only [spBind, e8]) (ru_bad b61 (by decide)))
set_option maxRecDepth 20000 in
theorem x_rule7 {M : fmM} {Q : fmR → fmM → Prop} {tx : tX} {n p : Nat} {D : dD} (ht : tOk tx n) (hS : xS2 M tx n p) (hf : M.1 1 4 = 0) (hI : scInv Tx invX M) (hW : xdw 13 M D) (hD : dOk D) (hok : ∀ (M' : fmM) (D' : dD) (q : Nat), clRule tx D 5 p = .inr (D', q) → tok M M' tx n q D' → Q (.inl (some (.int 1))) M') (hbad : ∀ (M' : fmM) (k a : Nat), clRule tx D 5 p = .inl (k, a) → tbad M M' k a → Q (.inl (some (.int 0))) M') : pvGood Tx 3 qX8_readRule [.ref 13, .ref 1, .int 7] M Q := by
  refine pvGood_of (Nat.le_of_ble_eq_true rfl) ?_
  show pvEv Tx 3 qX8_readRule 0 [some (.ref 13), some (.ref 1), some (.int 7)] [] M Q
  have k0 : xdOk M M tx n p := ⟨hS, hf, xdFr.refl M, hI⟩
  have h139 : (M.1 13 9).toInt ≤ 8 ∧ 0 ≤ (M.1 13 9).toInt := (by have h8 := hW.1.1; have h7 := hD.1; exact ⟨by omega, by omega⟩)
  refine pv_iloadn (pc := 0) (n := 2) 2 rfl rfl (fm_dec dtX8_readRule 0 rfl) ?_
  refine pv_table (pc := 1) 70 (by decide) rfl (fm_dec dtX8_readRule 1 rfl) ?_
  refine pv_aloadn (pc := 70) (n := 0) 0 rfl rfl (fm_dec dtX8_readRule 23 rfl) ?_
  refine pv_aloadn (pc := 71) (n := 1) 1 rfl rfl (fm_dec dtX8_readRule 24 rfl) ?_
  refine pv_iconst (pc := 72) (v := 1) (by decide) (fm_dec dtX8_readRule 25 rfl) ?_
  refine pv_iconst (pc := 73) (v := 4) (by decide) (fm_dec dtX8_readRule 26 rfl) ?_
  refine pv_invV2 (k := 1) (d' := 2) (pc := 74) pcv_X8_113 (by decide) rfl (Nat.le_of_ble_eq_true rfl) (by decide) (fm_dec dtX8_readRule 27 rfl) ?_
  refine x_numC 1 4 (by decide) (by decide) (by decide) k0.1 k0.2.1 k0.2.2.2 (fun M74 a74 q74 w74 e74 hw74 k74 => ?_) (fun M74 kb ab e74 b74 => ?_)
  · refine pv_then1 ?_
    refine pv_putI (k := 13) (j := 14) (ci := 8) (pc := 77) pfl_X8_58 (by decide) rfl (by decide) (fm_dec dtX8_readRule 28 rfl) ?_
    refine pv_aloadn (pc := 80) (n := 1) 1 rfl rfl (fm_dec dtX8_readRule 29 rfl) ?_
    refine pv_invV0 (k := 1) (d' := 0) (pc := 81) pcv_X8_117 (by decide) rfl (Nat.le_of_ble_eq_true rfl) (by decide) (fm_dec dtX8_readRule 30 rfl) ?_
    refine c_xfailed (fun _ => ?_) (fun h9 => absurd k74.2.1 h9) 
    refine pv_then1 ?_
    refine pv_if_ne (pc := 84) 91 (by decide) (fm_dec dtX8_readRule 31 rfl) (fun hc84 => by exfalso; revert hc84; decide) (fun _ => ?_)
    refine pv_iconst (pc := 87) (v := 1) (by decide) (fm_dec dtX8_readRule 32 rfl) ?_
    refine pv_goto (pc := 88) 92 (by decide) (fm_dec dtX8_readRule 33 rfl) ?_
    exact pv_zreturn (pc := 92) rfl (by first | exact Or.inr rfl | exact Or.inl rfl) (fm_dec dtX8_readRule 35 rfl) (hok _ _ _ (by unfold clRule; have e8 : spNum tx (dLo 5) (dHi 5) p = .inr (a74, q74) := e74; simp only [spBind, e8]) (ru_tok (k := 5) ⟨k74.1, k74.2.1, k74.2.2.2, hW.xd k74.2.2.1, k74.2.2.1.df⟩ (by decide) hw74 (by have n0 := spNum_ok ht hS.2.2.1 e74; exact ⟨by show ((-1) : Int) ≤ _; omega, by show _ ≤ (4 : Int); omega⟩)))
  · refine pv_then1 ?_
    refine pv_putI (k := 13) (j := 14) (ci := 8) (pc := 77) pfl_X8_58 (by decide) rfl (by decide) (fm_dec dtX8_readRule 28 rfl) ?_
    refine pv_aloadn (pc := 80) (n := 1) 1 rfl rfl (fm_dec dtX8_readRule 29 rfl) ?_
    refine pv_invV0 (k := 1) (d' := 0) (pc := 81) pcv_X8_117 (by decide) rfl (Nat.le_of_ble_eq_true rfl) (by decide) (fm_dec dtX8_readRule 30 rfl) ?_
    refine c_xfailed (fun h9 => absurd h9 b74.nz) (fun _ => ?_) 
    refine pv_then1 ?_
    refine pv_if_ne (pc := 84) 91 (by decide) (fm_dec dtX8_readRule 31 rfl) (fun _ => ?_) (fun hc84 => by exfalso; revert hc84; decide)
    refine pv_iconst (pc := 91) (v := 0) (by decide) (fm_dec dtX8_readRule 34 rfl) ?_
    exact pv_zreturn (pc := 92) rfl (by first | exact Or.inr rfl | exact Or.inl rfl) (fm_dec dtX8_readRule 35 rfl) (hbad _ kb ab (by unfold clRule; have e8 : spNum tx (dLo 5) (dHi 5) p = .inl (kb, ab) := e74; simp only [spBind, e8]) (ru_bad b74 (by decide)))
theorem cb_none {tx : tX} {c p : Nat} {D : dD} (h : dwK (wd tx (sk tx p)) = none) : cBody tx c D p = .inl (1, sk tx p) := by
  unfold cBody
  rw [h]
theorem cb_full {tx : tX} {c p k : Nat} {D : dD} (h : dwK (wd tx (sk tx p)) = some k) (hf : c = 60 ∨ (k = 0 ∧ D.1 = 8) ∨ (k = 1 ∧ D.2.2.1 = 24)) : cBody tx c D p = .inl (3, sk tx p) := by
  unfold cBody
  rw [h]
  exact if_pos hf
theorem cb_go {tx : tX} {c p k : Nat} {D : dD} (h : dwK (wd tx (sk tx p)) = some k) (hf : ¬ (c = 60 ∨ (k = 0 ∧ D.1 = 8) ∨ (k = 1 ∧ D.2.2.1 = 24))) : cBody tx c D p = clB tx D k (sp tW tx (sk tx p)) := by
  unfold cBody
  rw [h]
  exact if_neg hf
theorem xdBad.of3 {M M' : fmM} {tx : tX} {n q aa : Nat} {a : Int32} (h : xdOk M M' tx n q) (ha : a.toInt = aa) (h6 : aa ≤ n) : xdBad M (fmI (fmI M' 1 4 3) 1 5 a) 3 aa := ⟨(show (3 : Int32).toInt = ((3 : Nat) : Int) by decide), ha, by decide, ((h.2.2.1.set (Or.inr (Or.inl rfl))).set (Or.inr (Or.inr rfl))), xI_45 h.2.2.2 (kk := 3) (by decide) (by decide) ha h6 h.1.2.2.2.1.1⟩
set_option maxRecDepth 20000 in
theorem x_clause {M : fmM} {Q : fmR → fmM → Prop} {tx : tX} {n p : Nat} {D : dD} {c : Nat} {cc : Int32} (ht : tOk tx n) (hS : xS2 M tx n p) (hf : M.1 1 4 = 0) (hI : scInv Tx invX M) (hW : xdw 13 M D) (hD : dOk D) (hc : cc.toInt = (c : Int)) (hc6 : c ≤ 60) (hok : ∀ (M' : fmM) (D' : dD) (q : Nat), cBody tx c D p = .inr (D', q) → tok M M' tx n q D' → Q (.inl (some (.int 1))) M') (hbad : ∀ (M' : fmM) (k a : Nat), cBody tx c D p = .inl (k, a) → tbad M M' k a → Q (.inl (some (.int 0))) M') : pvGood Tx 6 qX8_readClause [.ref 13, .ref 1, .int cc] M Q := by
  refine pvGood_of (Nat.le_of_ble_eq_true rfl) ?_
  show pvEv Tx 6 qX8_readClause 0 [some (.ref 13), some (.ref 1), some (.int cc), none, none, none] [] M Q
  have k0 : xdOk M M tx n p := ⟨hS, hf, xdFr.refl M, hI⟩
  have h139 : (M.1 13 9).toInt ≤ 8 ∧ 0 ≤ (M.1 13 9).toInt := (by have h8 := hW.1.1; have h7 := hD.1; exact ⟨by omega, by omega⟩)
  have hsp : sk tx p ≤ n := sp_le tB_1 ht hS.2.2.1
  have z60 : (60 : Int32).toInt = 60 := (by decide)
  have z8 : (8 : Int32).toInt = 8 := (by decide)
  have z24 : (24 : Int32).toInt = 24 := (by decide)
  refine pv_aloadn (pc := 0) (n := 1) 1 rfl rfl (fm_dec dtX8_readClause 0 rfl) ?_
  refine pv_invV0 (k := 1) (d' := 1) (pc := 1) pcv_X8_88 (by decide) rfl (Nat.le_of_ble_eq_true rfl) (by decide) (fm_dec dtX8_readClause 1 rfl) ?_
  refine x_next hS hf hI (fun M1 x1 hx1 k1 => ?_)
  refine pv_then1 ?_
  refine pv_istoren (pc := 4) (n := 3) 3 rfl (by decide) rfl (fm_dec dtX8_readClause 2 rfl) ?_
  dsimp only [List.set_cons_zero, List.set_cons_succ]
  refine pv_aloadn (pc := 5) (n := 1) 1 rfl rfl (fm_dec dtX8_readClause 3 rfl) ?_
  refine pv_ldcT (i := 2) (pc := 6) pkn_X8_91 ptx_X8_91 (fm_dec dtX8_readClause 4 rfl) ?_
  refine pv_invV1 (k := 1) (d' := 5) (pc := 8) pcv_X8_93 (by decide) rfl (Nat.le_of_ble_eq_true rfl) (by decide) (fm_dec dtX8_readClause 5 rfl) ?_
  refine x_word (i5 := 2) (by decide) chs_2 wsTold_ok (by decide) k1.1 k1.2.1 k1.2.2.2 (fun M8 j8 w8 e8 hw8 k8 => ?_) (fun e8 M8 b8 => ?_)  
  · refine pv_then1 ?_
    refine pv_istore (pc := 11) (i := 4) (by decide) rfl (fm_dec dtX8_readClause 6 rfl) ?_
    dsimp only [List.set_cons_zero, List.set_cons_succ]
    rw [sk_sk ht hS.2.2.1] at e8
    rw [sk_sk ht hS.2.2.1] at k8
    have hdw := dwK_of e8
    have hW8 : xdw 13 M8 D := hW.xd ((k1.2.2.1.trans k8.2.2.1))
    have g9 : (M8.1 13 9).toInt = (D.1 : Int) := hW8.1.1
    have g10 : (M8.1 13 10).toInt = (D.2.2.1 : Int) := hW8.1.2.1
    have d8 := hD.1
    have d24 := hD.2.1
    refine pv_iload (pc := 13) (i := 4) rfl (fm_dec dtX8_readClause 7 rfl) ?_
    refine pv_iconst (pc := 15) (v := (-1)) (by decide) (fm_dec dtX8_readClause 8 rfl) ?_
    refine pv_icmp_ne (pc := 16) 21 (by decide) (fm_dec dtX8_readClause 9 rfl) (fun _ => ?_) (fun hc16 => by exfalso; have h9 := congrArg Int32.toInt hc16; have h8 : (-1 : Int32).toInt = -1 := (by decide); omega)
    refine pv_iloadn (pc := 21) (n := 2) 2 rfl rfl (fm_dec dtX8_readClause 12 rfl) ?_
    refine pv_bipush (pc := 22) (v := 60) (by decide) (fm_dec dtX8_readClause 13 rfl) ?_
    refine pv_icmp_ge (pc := 24) 56 (by decide) (fm_dec dtX8_readClause 14 rfl) (fun hc24 => ?_) (fun hc24 => ?_)
    · refine pv_iconst (pc := 56) (v := 1) (by decide) (fm_dec dtX8_readClause 28 rfl) ?_
      refine pv_goto (pc := 57) 61 (by decide) (fm_dec dtX8_readClause 29 rfl) ?_
      refine pv_istore (pc := 61) (i := 5) (by decide) rfl (fm_dec dtX8_readClause 31 rfl) ?_
      dsimp only [List.set_cons_zero, List.set_cons_succ]
      refine pv_iload (pc := 63) (i := 5) rfl (fm_dec dtX8_readClause 32 rfl) ?_
      refine pv_if_eq (pc := 65) 75 (by decide) (fm_dec dtX8_readClause 33 rfl) (fun hc65 => by exfalso; revert hc65; decide) (fun _ => ?_)
      refine pv_aloadn (pc := 68) (n := 1) 1 rfl rfl (fm_dec dtX8_readClause 34 rfl) ?_
      refine pv_iconst (pc := 69) (v := 3) (by decide) (fm_dec dtX8_readClause 35 rfl) ?_
      refine pv_iloadn (pc := 70) (n := 3) 3 rfl rfl (fm_dec dtX8_readClause 36 rfl) ?_
      refine pv_invV2 (k := 1) (d' := 0) (pc := 71) pcv_X8_84 (by decide) rfl (Nat.le_of_ble_eq_true rfl) (by decide) (fm_dec dtX8_readClause 37 rfl) ?_
      refine c_xfail0 k8.2.1 ?_
      refine pv_then1 ?_
      exact pv_zreturn (pc := 74) rfl (by first | exact Or.inr rfl | exact Or.inl rfl) (fm_dec dtX8_readClause 38 rfl) (hbad _ 3 (sk tx p) (cb_full hdw.1 (Or.inl (by rw [sc_le] at hc24; omega))) ((xdBad.of3 k8 hx1 hsp).fr k1.2.2.1).tb)
    · refine pv_iload (pc := 27) (i := 4) rfl (fm_dec dtX8_readClause 15 rfl) ?_
      refine pv_if_ne (pc := 29) 41 (by decide) (fm_dec dtX8_readClause 16 rfl) (fun hc29 => ?_) (fun hc29 => ?_)
      · refine pv_iload (pc := 41) (i := 4) rfl (fm_dec dtX8_readClause 21 rfl) ?_
        refine pv_iconst (pc := 43) (v := 3) (by decide) (fm_dec dtX8_readClause 22 rfl) ?_
        refine pv_icmp_ne (pc := 44) 60 (by decide) (fm_dec dtX8_readClause 23 rfl) (fun hc44 => ?_) (fun hc44 => ?_)
        · refine pv_iconst (pc := 60) (v := 0) (by decide) (fm_dec dtX8_readClause 30 rfl) ?_
          refine pv_istore (pc := 61) (i := 5) (by decide) rfl (fm_dec dtX8_readClause 31 rfl) ?_
          dsimp only [List.set_cons_zero, List.set_cons_succ]
          refine pv_iload (pc := 63) (i := 5) rfl (fm_dec dtX8_readClause 32 rfl) ?_
          refine pv_if_eq (pc := 65) 75 (by decide) (fm_dec dtX8_readClause 33 rfl) (fun _ => ?_) (fun hc65 => by exfalso; revert hc65; decide)
          have hj0 : ¬ j8 = 0 := (by intro h9; apply hc29; exact i32_ext (by have h6 : (0 : Int32).toInt = 0 := (by decide); omega))
          have hj3 : ¬ j8 = 3 := (by intro h9; apply hc44; exact i32_ext (by have h6 : (3 : Int32).toInt = 3 := (by decide); omega))
          have hcn : ¬ c = 60 := (by rw [sc_le] at hc24; omega)
          have hj8 := hdw.2
          have hjj : j8 = 1 ∨ j8 = 2 ∨ j8 = 4 ∨ j8 = 5 ∨ j8 = 6 ∨ j8 = 7 := (by omega)
          rcases hjj with rfl | rfl | rfl | rfl | rfl | rfl
          · have e4 : w8 = (1 : Int32) := i32_ext (hw8.trans (by decide))
            subst e4
            refine pv_iload (pc := 75) (i := 4) rfl (fm_dec dtX8_readClause 39 rfl) ?_
            refine pv_table (pc := 77) 114 (by decide) rfl (fm_dec dtX8_readClause 40 rfl) ?_
            refine pv_aloadn (pc := 114) (n := 0) 0 rfl rfl (fm_dec dtX8_readClause 45 rfl) ?_
            refine pv_aloadn (pc := 115) (n := 1) 1 rfl rfl (fm_dec dtX8_readClause 46 rfl) ?_
            refine pv_invV1 (k := 13) (d' := 3) (pc := 116) pcv_X8_101 (by decide) rfl (Nat.le_of_ble_eq_true rfl) (by decide) (fm_dec dtX8_readClause 47 rfl) ?_
            refine x_has ht k8.1 k8.2.1 k8.2.2.2 hW8 hD (fun M9 D9 q9 e h9 => ?_) (fun M9 kb ab e h9 => ?_)  
            · refine pv_then1 ?_
              exact pv_zreturn (pc := 119) rfl (by first | exact Or.inr rfl | exact Or.inl rfl) (fm_dec dtX8_readClause 48 rfl) (hok M9 D9 q9 (by rw [cb_go hdw.1 (by intro h9; have h8 : kkF 1 = 6 := (by decide); rcases h9 with h9 | h9 | h9 <;> omega)]; exact e) (h9.fr ((k1.2.2.1.trans k8.2.2.1)).df))
            · refine pv_then1 ?_
              exact pv_zreturn (pc := 119) rfl (by first | exact Or.inr rfl | exact Or.inl rfl) (fm_dec dtX8_readClause 48 rfl) (hbad M9 kb ab (by rw [cb_go hdw.1 (by intro h9; have h8 : kkF 1 = 6 := (by decide); rcases h9 with h9 | h9 | h9 <;> omega)]; exact e) (h9.fr ((k1.2.2.1.trans k8.2.2.1)).df))
          · have e4 : w8 = (2 : Int32) := i32_ext (hw8.trans (by decide))
            subst e4
            refine pv_iload (pc := 75) (i := 4) rfl (fm_dec dtX8_readClause 39 rfl) ?_
            refine pv_table (pc := 77) 120 (by decide) rfl (fm_dec dtX8_readClause 40 rfl) ?_
            refine pv_aloadn (pc := 120) (n := 0) 0 rfl rfl (fm_dec dtX8_readClause 49 rfl) ?_
            refine pv_aloadn (pc := 121) (n := 1) 1 rfl rfl (fm_dec dtX8_readClause 50 rfl) ?_
            refine pv_invV1 (k := 13) (d' := 3) (pc := 122) pcv_X8_104 (by decide) rfl (Nat.le_of_ble_eq_true rfl) (by decide) (fm_dec dtX8_readClause 51 rfl) ?_
            refine x_by ht k8.1 k8.2.1 k8.2.2.2 hW8 hD (fun M9 D9 q9 e h9 => ?_) (fun M9 kb ab e h9 => ?_)  
            · refine pv_then1 ?_
              exact pv_zreturn (pc := 125) rfl (by first | exact Or.inr rfl | exact Or.inl rfl) (fm_dec dtX8_readClause 52 rfl) (hok M9 D9 q9 (by rw [cb_go hdw.1 (by intro h9; have h8 : kkF 2 = 7 := (by decide); rcases h9 with h9 | h9 | h9 <;> omega)]; exact e) (h9.fr ((k1.2.2.1.trans k8.2.2.1)).df))
            · refine pv_then1 ?_
              exact pv_zreturn (pc := 125) rfl (by first | exact Or.inr rfl | exact Or.inl rfl) (fm_dec dtX8_readClause 52 rfl) (hbad M9 kb ab (by rw [cb_go hdw.1 (by intro h9; have h8 : kkF 2 = 7 := (by decide); rcases h9 with h9 | h9 | h9 <;> omega)]; exact e) (h9.fr ((k1.2.2.1.trans k8.2.2.1)).df))
          · have e4 : w8 = (4 : Int32) := i32_ext (hw8.trans (by decide))
            subst e4
            refine pv_iload (pc := 75) (i := 4) rfl (fm_dec dtX8_readClause 39 rfl) ?_
            refine pv_table (pc := 77) 132 (by decide) rfl (fm_dec dtX8_readClause 40 rfl) ?_
            refine pv_aloadn (pc := 132) (n := 0) 0 rfl rfl (fm_dec dtX8_readClause 57 rfl) ?_
            refine pv_aloadn (pc := 133) (n := 1) 1 rfl rfl (fm_dec dtX8_readClause 58 rfl) ?_
            refine pv_iload (pc := 134) (i := 4) rfl (fm_dec dtX8_readClause 59 rfl) ?_
            refine pv_invV2 (k := 13) (d' := 3) (pc := 136) pcv_X8_110 (by decide) rfl (Nat.le_of_ble_eq_true rfl) (by decide) (fm_dec dtX8_readClause 60 rfl) ?_
            refine x_rule4 ht k8.1 k8.2.1 k8.2.2.2 hW8 hD (fun M9 D9 q9 e h9 => ?_) (fun M9 kb ab e h9 => ?_)  
            · refine pv_then1 ?_
              exact pv_zreturn (pc := 139) rfl (by first | exact Or.inr rfl | exact Or.inl rfl) (fm_dec dtX8_readClause 61 rfl) (hok M9 D9 q9 (by rw [cb_go hdw.1 (by intro h9; have h8 : kkF 4 = 2 := (by decide); rcases h9 with h9 | h9 | h9 <;> omega)]; exact e) (h9.fr ((k1.2.2.1.trans k8.2.2.1)).df))
            · refine pv_then1 ?_
              exact pv_zreturn (pc := 139) rfl (by first | exact Or.inr rfl | exact Or.inl rfl) (fm_dec dtX8_readClause 61 rfl) (hbad M9 kb ab (by rw [cb_go hdw.1 (by intro h9; have h8 : kkF 4 = 2 := (by decide); rcases h9 with h9 | h9 | h9 <;> omega)]; exact e) (h9.fr ((k1.2.2.1.trans k8.2.2.1)).df))
          · have e4 : w8 = (5 : Int32) := i32_ext (hw8.trans (by decide))
            subst e4
            refine pv_iload (pc := 75) (i := 4) rfl (fm_dec dtX8_readClause 39 rfl) ?_
            refine pv_table (pc := 77) 132 (by decide) rfl (fm_dec dtX8_readClause 40 rfl) ?_
            refine pv_aloadn (pc := 132) (n := 0) 0 rfl rfl (fm_dec dtX8_readClause 57 rfl) ?_
            refine pv_aloadn (pc := 133) (n := 1) 1 rfl rfl (fm_dec dtX8_readClause 58 rfl) ?_
            refine pv_iload (pc := 134) (i := 4) rfl (fm_dec dtX8_readClause 59 rfl) ?_
            refine pv_invV2 (k := 13) (d' := 3) (pc := 136) pcv_X8_110 (by decide) rfl (Nat.le_of_ble_eq_true rfl) (by decide) (fm_dec dtX8_readClause 60 rfl) ?_
            refine x_rule5 ht k8.1 k8.2.1 k8.2.2.2 hW8 hD (fun M9 D9 q9 e h9 => ?_) (fun M9 kb ab e h9 => ?_)  
            · refine pv_then1 ?_
              exact pv_zreturn (pc := 139) rfl (by first | exact Or.inr rfl | exact Or.inl rfl) (fm_dec dtX8_readClause 61 rfl) (hok M9 D9 q9 (by rw [cb_go hdw.1 (by intro h9; have h8 : kkF 5 = 3 := (by decide); rcases h9 with h9 | h9 | h9 <;> omega)]; exact e) (h9.fr ((k1.2.2.1.trans k8.2.2.1)).df))
            · refine pv_then1 ?_
              exact pv_zreturn (pc := 139) rfl (by first | exact Or.inr rfl | exact Or.inl rfl) (fm_dec dtX8_readClause 61 rfl) (hbad M9 kb ab (by rw [cb_go hdw.1 (by intro h9; have h8 : kkF 5 = 3 := (by decide); rcases h9 with h9 | h9 | h9 <;> omega)]; exact e) (h9.fr ((k1.2.2.1.trans k8.2.2.1)).df))
          · have e4 : w8 = (6 : Int32) := i32_ext (hw8.trans (by decide))
            subst e4
            refine pv_iload (pc := 75) (i := 4) rfl (fm_dec dtX8_readClause 39 rfl) ?_
            refine pv_table (pc := 77) 132 (by decide) rfl (fm_dec dtX8_readClause 40 rfl) ?_
            refine pv_aloadn (pc := 132) (n := 0) 0 rfl rfl (fm_dec dtX8_readClause 57 rfl) ?_
            refine pv_aloadn (pc := 133) (n := 1) 1 rfl rfl (fm_dec dtX8_readClause 58 rfl) ?_
            refine pv_iload (pc := 134) (i := 4) rfl (fm_dec dtX8_readClause 59 rfl) ?_
            refine pv_invV2 (k := 13) (d' := 3) (pc := 136) pcv_X8_110 (by decide) rfl (Nat.le_of_ble_eq_true rfl) (by decide) (fm_dec dtX8_readClause 60 rfl) ?_
            refine x_rule6 ht k8.1 k8.2.1 k8.2.2.2 hW8 hD (fun M9 D9 q9 e h9 => ?_) (fun M9 kb ab e h9 => ?_)  
            · refine pv_then1 ?_
              exact pv_zreturn (pc := 139) rfl (by first | exact Or.inr rfl | exact Or.inl rfl) (fm_dec dtX8_readClause 61 rfl) (hok M9 D9 q9 (by rw [cb_go hdw.1 (by intro h9; have h8 : kkF 6 = 4 := (by decide); rcases h9 with h9 | h9 | h9 <;> omega)]; exact e) (h9.fr ((k1.2.2.1.trans k8.2.2.1)).df))
            · refine pv_then1 ?_
              exact pv_zreturn (pc := 139) rfl (by first | exact Or.inr rfl | exact Or.inl rfl) (fm_dec dtX8_readClause 61 rfl) (hbad M9 kb ab (by rw [cb_go hdw.1 (by intro h9; have h8 : kkF 6 = 4 := (by decide); rcases h9 with h9 | h9 | h9 <;> omega)]; exact e) (h9.fr ((k1.2.2.1.trans k8.2.2.1)).df))
          · have e4 : w8 = (7 : Int32) := i32_ext (hw8.trans (by decide))
            subst e4
            refine pv_iload (pc := 75) (i := 4) rfl (fm_dec dtX8_readClause 39 rfl) ?_
            refine pv_table (pc := 77) 132 (by decide) rfl (fm_dec dtX8_readClause 40 rfl) ?_
            refine pv_aloadn (pc := 132) (n := 0) 0 rfl rfl (fm_dec dtX8_readClause 57 rfl) ?_
            refine pv_aloadn (pc := 133) (n := 1) 1 rfl rfl (fm_dec dtX8_readClause 58 rfl) ?_
            refine pv_iload (pc := 134) (i := 4) rfl (fm_dec dtX8_readClause 59 rfl) ?_
            refine pv_invV2 (k := 13) (d' := 3) (pc := 136) pcv_X8_110 (by decide) rfl (Nat.le_of_ble_eq_true rfl) (by decide) (fm_dec dtX8_readClause 60 rfl) ?_
            refine x_rule7 ht k8.1 k8.2.1 k8.2.2.2 hW8 hD (fun M9 D9 q9 e h9 => ?_) (fun M9 kb ab e h9 => ?_)  
            · refine pv_then1 ?_
              exact pv_zreturn (pc := 139) rfl (by first | exact Or.inr rfl | exact Or.inl rfl) (fm_dec dtX8_readClause 61 rfl) (hok M9 D9 q9 (by rw [cb_go hdw.1 (by intro h9; have h8 : kkF 7 = 5 := (by decide); rcases h9 with h9 | h9 | h9 <;> omega)]; exact e) (h9.fr ((k1.2.2.1.trans k8.2.2.1)).df))
            · refine pv_then1 ?_
              exact pv_zreturn (pc := 139) rfl (by first | exact Or.inr rfl | exact Or.inl rfl) (fm_dec dtX8_readClause 61 rfl) (hbad M9 kb ab (by rw [cb_go hdw.1 (by intro h9; have h8 : kkF 7 = 5 := (by decide); rcases h9 with h9 | h9 | h9 <;> omega)]; exact e) (h9.fr ((k1.2.2.1.trans k8.2.2.1)).df))
        · refine pv_aloadn (pc := 47) (n := 0) 0 rfl rfl (fm_dec dtX8_readClause 24 rfl) ?_
          refine pv_getI (k := 13) (j := 10) (ci := 8) (pc := 48) pfl_X8_46 (by decide) rfl (by decide) (fm_dec dtX8_readClause 25 rfl) ?_
          refine pv_bipush (pc := 51) (v := 24) (by decide) (fm_dec dtX8_readClause 26 rfl) ?_
          refine pv_icmp_lt (pc := 53) 60 (by decide) (fm_dec dtX8_readClause 27 rfl) (fun hc53 => ?_) (fun hc53 => ?_)
          · refine pv_iconst (pc := 60) (v := 0) (by decide) (fm_dec dtX8_readClause 30 rfl) ?_
            refine pv_istore (pc := 61) (i := 5) (by decide) rfl (fm_dec dtX8_readClause 31 rfl) ?_
            dsimp only [List.set_cons_zero, List.set_cons_succ]
            refine pv_iload (pc := 63) (i := 5) rfl (fm_dec dtX8_readClause 32 rfl) ?_
            refine pv_if_eq (pc := 65) 75 (by decide) (fm_dec dtX8_readClause 33 rfl) (fun _ => ?_) (fun hc65 => by exfalso; revert hc65; decide)
            have hj3 : j8 = 3 := (by have h7 := congrArg Int32.toInt hc44; have h6 : (3 : Int32).toInt = 3 := (by decide); omega)
            have hcn : ¬ c = 60 := (by rw [sc_le] at hc24; omega)
            have h24 : D.2.2.1 < 24 := (by rw [sc_lt] at hc53; omega)
            have hjj : j8 = 3 := (by omega)
            subst hjj
            have e4 : w8 = (3 : Int32) := i32_ext (hw8.trans (by decide))
            subst e4
            refine pv_iload (pc := 75) (i := 4) rfl (fm_dec dtX8_readClause 39 rfl) ?_
            refine pv_table (pc := 77) 126 (by decide) rfl (fm_dec dtX8_readClause 40 rfl) ?_
            refine pv_aloadn (pc := 126) (n := 0) 0 rfl rfl (fm_dec dtX8_readClause 53 rfl) ?_
            refine pv_aloadn (pc := 127) (n := 1) 1 rfl rfl (fm_dec dtX8_readClause 54 rfl) ?_
            refine pv_invV1 (k := 13) (d' := 3) (pc := 128) pcv_X8_107 (by decide) rfl (Nat.le_of_ble_eq_true rfl) (by decide) (fm_dec dtX8_readClause 55 rfl) ?_
            refine x_fact ht k8.1 k8.2.1 k8.2.2.2 hW8 hD (by omega) (fun M9 D9 q9 e h9 => ?_) (fun M9 kb ab e h9 => ?_)  
            · refine pv_then1 ?_
              exact pv_zreturn (pc := 131) rfl (by first | exact Or.inr rfl | exact Or.inl rfl) (fm_dec dtX8_readClause 56 rfl) (hok M9 D9 q9 (by rw [cb_go hdw.1 (by intro h9; have h8 : kkF 3 = 1 := (by decide); rcases h9 with h9 | h9 | h9 <;> omega)]; exact e) (h9.fr ((k1.2.2.1.trans k8.2.2.1)).df))
            · refine pv_then1 ?_
              exact pv_zreturn (pc := 131) rfl (by first | exact Or.inr rfl | exact Or.inl rfl) (fm_dec dtX8_readClause 56 rfl) (hbad M9 kb ab (by rw [cb_go hdw.1 (by intro h9; have h8 : kkF 3 = 1 := (by decide); rcases h9 with h9 | h9 | h9 <;> omega)]; exact e) (h9.fr ((k1.2.2.1.trans k8.2.2.1)).df))
          · refine pv_iconst (pc := 56) (v := 1) (by decide) (fm_dec dtX8_readClause 28 rfl) ?_
            refine pv_goto (pc := 57) 61 (by decide) (fm_dec dtX8_readClause 29 rfl) ?_
            refine pv_istore (pc := 61) (i := 5) (by decide) rfl (fm_dec dtX8_readClause 31 rfl) ?_
            dsimp only [List.set_cons_zero, List.set_cons_succ]
            refine pv_iload (pc := 63) (i := 5) rfl (fm_dec dtX8_readClause 32 rfl) ?_
            refine pv_if_eq (pc := 65) 75 (by decide) (fm_dec dtX8_readClause 33 rfl) (fun hc65 => by exfalso; revert hc65; decide) (fun _ => ?_)
            refine pv_aloadn (pc := 68) (n := 1) 1 rfl rfl (fm_dec dtX8_readClause 34 rfl) ?_
            refine pv_iconst (pc := 69) (v := 3) (by decide) (fm_dec dtX8_readClause 35 rfl) ?_
            refine pv_iloadn (pc := 70) (n := 3) 3 rfl rfl (fm_dec dtX8_readClause 36 rfl) ?_
            refine pv_invV2 (k := 1) (d' := 0) (pc := 71) pcv_X8_84 (by decide) rfl (Nat.le_of_ble_eq_true rfl) (by decide) (fm_dec dtX8_readClause 37 rfl) ?_
            refine c_xfail0 k8.2.1 ?_
            refine pv_then1 ?_
            exact pv_zreturn (pc := 74) rfl (by first | exact Or.inr rfl | exact Or.inl rfl) (fm_dec dtX8_readClause 38 rfl) (hbad _ 3 (sk tx p) (cb_full hdw.1 (Or.inr (Or.inr ⟨by have h8 : j8 = 3 := (by have h7 := congrArg Int32.toInt hc44; have h6 : (3 : Int32).toInt = 3 := (by decide); omega); subst h8; decide, by rw [sc_lt] at hc53; omega⟩))) ((xdBad.of3 k8 hx1 hsp).fr k1.2.2.1).tb)
      · refine pv_aloadn (pc := 32) (n := 0) 0 rfl rfl (fm_dec dtX8_readClause 17 rfl) ?_
        refine pv_getI (k := 13) (j := 9) (ci := 8) (pc := 33) pfl_X8_42 (by decide) rfl (by decide) (fm_dec dtX8_readClause 18 rfl) ?_
        refine pv_bipush (pc := 36) (v := 8) (by decide) (fm_dec dtX8_readClause 19 rfl) ?_
        refine pv_icmp_ge (pc := 38) 56 (by decide) (fm_dec dtX8_readClause 20 rfl) (fun hc38 => ?_) (fun hc38 => ?_)
        · refine pv_iconst (pc := 56) (v := 1) (by decide) (fm_dec dtX8_readClause 28 rfl) ?_
          refine pv_goto (pc := 57) 61 (by decide) (fm_dec dtX8_readClause 29 rfl) ?_
          refine pv_istore (pc := 61) (i := 5) (by decide) rfl (fm_dec dtX8_readClause 31 rfl) ?_
          dsimp only [List.set_cons_zero, List.set_cons_succ]
          refine pv_iload (pc := 63) (i := 5) rfl (fm_dec dtX8_readClause 32 rfl) ?_
          refine pv_if_eq (pc := 65) 75 (by decide) (fm_dec dtX8_readClause 33 rfl) (fun hc65 => by exfalso; revert hc65; decide) (fun _ => ?_)
          refine pv_aloadn (pc := 68) (n := 1) 1 rfl rfl (fm_dec dtX8_readClause 34 rfl) ?_
          refine pv_iconst (pc := 69) (v := 3) (by decide) (fm_dec dtX8_readClause 35 rfl) ?_
          refine pv_iloadn (pc := 70) (n := 3) 3 rfl rfl (fm_dec dtX8_readClause 36 rfl) ?_
          refine pv_invV2 (k := 1) (d' := 0) (pc := 71) pcv_X8_84 (by decide) rfl (Nat.le_of_ble_eq_true rfl) (by decide) (fm_dec dtX8_readClause 37 rfl) ?_
          refine c_xfail0 k8.2.1 ?_
          refine pv_then1 ?_
          exact pv_zreturn (pc := 74) rfl (by first | exact Or.inr rfl | exact Or.inl rfl) (fm_dec dtX8_readClause 38 rfl) (hbad _ 3 (sk tx p) (cb_full hdw.1 (Or.inr (Or.inl ⟨by have h8 : j8 = 0 := (by have h7 := congrArg Int32.toInt hc29; have h6 : (0 : Int32).toInt = 0 := (by decide); omega); subst h8; decide, by rw [sc_le] at hc38; omega⟩))) ((xdBad.of3 k8 hx1 hsp).fr k1.2.2.1).tb)
        · refine pv_iload (pc := 41) (i := 4) rfl (fm_dec dtX8_readClause 21 rfl) ?_
          refine pv_iconst (pc := 43) (v := 3) (by decide) (fm_dec dtX8_readClause 22 rfl) ?_
          refine pv_icmp_ne (pc := 44) 60 (by decide) (fm_dec dtX8_readClause 23 rfl) (fun _ => ?_) (fun hc44 => by exfalso; have h9 := congrArg Int32.toInt hc44; have h9 : w8.toInt = 3 := h9; have h8 := congrArg Int32.toInt hc29; have h7 : (0 : Int32).toInt = 0 := (by decide); omega)
          refine pv_iconst (pc := 60) (v := 0) (by decide) (fm_dec dtX8_readClause 30 rfl) ?_
          refine pv_istore (pc := 61) (i := 5) (by decide) rfl (fm_dec dtX8_readClause 31 rfl) ?_
          dsimp only [List.set_cons_zero, List.set_cons_succ]
          refine pv_iload (pc := 63) (i := 5) rfl (fm_dec dtX8_readClause 32 rfl) ?_
          refine pv_if_eq (pc := 65) 75 (by decide) (fm_dec dtX8_readClause 33 rfl) (fun _ => ?_) (fun hc65 => by exfalso; revert hc65; decide)
          have hj0 : j8 = 0 := (by have h7 := congrArg Int32.toInt hc29; have h6 : (0 : Int32).toInt = 0 := (by decide); omega)
          have hcn : ¬ c = 60 := (by rw [sc_le] at hc24; omega)
          have h8l : D.1 < 8 := (by rw [sc_le] at hc38; omega)
          have hjj : j8 = 0 := (by omega)
          subst hjj
          have e4 : w8 = (0 : Int32) := i32_ext (hw8.trans (by decide))
          subst e4
          refine pv_iload (pc := 75) (i := 4) rfl (fm_dec dtX8_readClause 39 rfl) ?_
          refine pv_table (pc := 77) 108 (by decide) rfl (fm_dec dtX8_readClause 40 rfl) ?_
          refine pv_aloadn (pc := 108) (n := 0) 0 rfl rfl (fm_dec dtX8_readClause 41 rfl) ?_
          refine pv_aloadn (pc := 109) (n := 1) 1 rfl rfl (fm_dec dtX8_readClause 42 rfl) ?_
          refine pv_invV1 (k := 13) (d' := 3) (pc := 110) pcv_X8_97 (by decide) rfl (Nat.le_of_ble_eq_true rfl) (by decide) (fm_dec dtX8_readClause 43 rfl) ?_
          refine x_life ht k8.1 k8.2.1 k8.2.2.2 hW8 hD (by omega) (fun M9 D9 q9 e h9 => ?_) (fun M9 kb ab e h9 => ?_)  
          · refine pv_then1 ?_
            exact pv_zreturn (pc := 113) rfl (by first | exact Or.inr rfl | exact Or.inl rfl) (fm_dec dtX8_readClause 44 rfl) (hok M9 D9 q9 (by rw [cb_go hdw.1 (by intro h9; have h8 : kkF 0 = 0 := (by decide); rcases h9 with h9 | h9 | h9 <;> omega)]; exact e) (h9.fr ((k1.2.2.1.trans k8.2.2.1)).df))
          · refine pv_then1 ?_
            exact pv_zreturn (pc := 113) rfl (by first | exact Or.inr rfl | exact Or.inl rfl) (fm_dec dtX8_readClause 44 rfl) (hbad M9 kb ab (by rw [cb_go hdw.1 (by intro h9; have h8 : kkF 0 = 0 := (by decide); rcases h9 with h9 | h9 | h9 <;> omega)]; exact e) (h9.fr ((k1.2.2.1.trans k8.2.2.1)).df))
  · refine pv_then1 ?_
    refine pv_istore (pc := 11) (i := 4) (by decide) rfl (fm_dec dtX8_readClause 6 rfl) ?_
    dsimp only [List.set_cons_zero, List.set_cons_succ]
    rw [sk_sk ht hS.2.2.1] at e8 b8
    refine pv_iload (pc := 13) (i := 4) rfl (fm_dec dtX8_readClause 7 rfl) ?_
    refine pv_iconst (pc := 15) (v := (-1)) (by decide) (fm_dec dtX8_readClause 8 rfl) ?_
    refine pv_icmp_ne (pc := 16) 21 (by decide) (fm_dec dtX8_readClause 9 rfl) (fun hc16 => by exfalso; revert hc16; decide) (fun _ => ?_)
    refine pv_iconst (pc := 19) (v := 0) (by decide) (fm_dec dtX8_readClause 10 rfl) ?_
    exact pv_zreturn (pc := 20) rfl (by first | exact Or.inr rfl | exact Or.inl rfl) (fm_dec dtX8_readClause 11 rfl) (hbad _ 1 (sk tx p) (cb_none (dwK_no e8)) (b8.fr k1.2.2.1).tb)
