-- THE REFERENCE: weeks to come
theorem scInv.put {M : fmM} {k j : Nat} {x : Int32} (hI : scInv Tm invM M) (hb : (scAt (invM k) j).1 ≤ x.toInt ∧ x.toInt ≤ (scAt (invM k) j).2) (hp : jmPr k j = false) : scInv Tm invM (fmI M k j x) := by
  refine ⟨fun k' j' hj => ?_, fun hm => jm_stable (hI.2 hm) (fun k' j' hk => ?_)⟩
  · rw [fmI_at]
    by_cases e : k' = k ∧ j' = j
    · rw [if_pos e, e.1, e.2]
      exact hb
    · rw [if_neg e]
      exact hI.1 k' j' hj
  · show (fmI M k j x).1 k' j' = _
    rw [fmI_at, if_neg]
    rintro ⟨rfl, rfl⟩
    rw [hp] at hk
    cases hk
theorem scInv.p89 {M : fmM} {x : Int32} (hI : scInv Tm invM M) : scInv Tm invM (fmI M 8 9 x) := hI.put (k := 8) (j := 9) (x := x) (scq_t x) rfl
theorem scInv.p47 {M : fmM} {x : Int32} (hI : scInv Tm invM M) : scInv Tm invM (fmI M 0 47 x) := hI.put (k := 0) (j := 47) (x := x) (scq_t x) rfl
theorem scInv.p48 {M : fmM} {x : Int32} (hI : scInv Tm invM M) : scInv Tm invM (fmI M 0 48 x) := hI.put (k := 0) (j := 48) (x := x) (scq_t x) rfl
theorem scFr_nil {M M' : fmM} (h : scFr [] M M') : M' = M := Prod.ext (funext fun k => funext fun j => (h k j rfl).1) (funext fun k => funext fun j => (h k j rfl).2)
theorem sc_sg {i : Int32} {k : Nat} {lo hi : Int} (hi1 : i.toInt = k) (hb : lo ≤ (k : Int) ∧ (k : Int) ≤ hi) : scEk [(lo, hi)] [(k : Int)] := ⟨rfl, fun n e x he hx => by
  cases n with
  | zero =>
    cases he
    cases hx
    exact hb
  | succ n => cases he⟩
theorem sc_a8 {i : Int32} {k : Nat} (hi : i.toInt = k) : scSk [(k : Int)] [.inr (.inr (.inl [0])), .inr (.inr (.inl [8])), .inl (some 0, 0)] [.ref 0, .ref 8, .int i] := ⟨⟨0, by simp, rfl⟩, ⟨8, by simp, rfl⟩, ⟨i, rfl, ⟨(k : Int), rfl, hi.trans (Int.add_zero _).symm⟩⟩, trivial⟩
theorem sc_o1 {T : fmT} {inv : Nat → List scI} {y : fmY} {d : Nat} {en : List scI} {sg : List scV} {fs : List scF} {e : scI} {W : List (Nat × Nat × Nat)} {σ : List Int} {M M' : fmM} {r : fmR} (h : scEnd T inv (y, d, en, sg, fs, [(1, e, [], [], [])], W) σ M r M') : (∃ n : Int32, r = .inl (some (.int n)) ∧ e.1 ≤ n.toInt ∧ n.toInt ≤ e.2) ∧ scInv T inv M' ∧ scFr W M M' := by
  obtain ⟨⟨o, ho, hr, -⟩, h1, h2⟩ := h
  have eo : o = (1, e, [], [], []) := by simpa using ho
  subst eo
  exact ⟨hr, h1, h2⟩
theorem sc_o0 {T : fmT} {inv : Nat → List scI} {y : fmY} {d : Nat} {en : List scI} {sg : List scV} {fs : List scF} {e : scI} {W : List (Nat × Nat × Nat)} {σ : List Int} {M M' : fmM} {r : fmR} (h : scEnd T inv (y, d, en, sg, fs, [(0, e, [], [], [])], W) σ M r M') : r = .inl none ∧ scInv T inv M' ∧ scFr W M M' := by
  obtain ⟨⟨o, ho, hr, -⟩, h1, h2⟩ := h
  have eo : o = (0, e, [], [], []) := by simpa using ho
  subst eo
  exact ⟨hr, h1, h2⟩
theorem s_hours {M : fmM} {Q : fmR → fmM → Prop} {i : Int32} {k : Nat} (hi : i.toInt = k) (hk : k < 8) (hI : scInv Tm invM M) (hq : ∀ n : Int32, Q (.inl (some (.int n))) M) : pvGood Tm 2 qX11_hoursFor [.ref 0, .ref 8, .int i] M Q := (hh_X11_hoursFor_0 M [(k : Int)] _ (sc_sg hi ⟨by omega, by omega⟩) (sc_a8 hi) (fun f hf => by cases hf) hI).imp (fun r M' h => by
  obtain ⟨⟨n, rfl, -, -⟩, h1, h2⟩ := sc_o1 h
  rw [scFr_nil h2]
  exact hq n)
theorem s_dies {M : fmM} {Q : fmR → fmM → Prop} {i : Int32} {k : Nat} (hi : i.toInt = k) (hk : k < 8) (hI : scInv Tm invM M) (hq : ∀ M' : fmM, scInv Tm invM M' → scFr [(5, 0, 160), (6, 0, 5), (8, 0, 10), (8, 11, 3)] M M' → Q (.inl none) M') : pvGood Tm 8 qX11_dies [.ref 0, .ref 8, .int i] M Q := (hh_X11_dies_0 M [(k : Int)] _ (sc_sg hi ⟨by omega, by omega⟩) (sc_a8 hi) (fun f hf => by cases hf) hI).imp (fun r M' h => by
  obtain ⟨rfl, h1, h2⟩ := sc_o0 h
  exact hq M' h1 h2)
theorem s_week {M : fmM} {Q : fmR → fmM → Prop} (hI : scInv Tm invM M) (hq : ∀ (n : Int32) (M' : fmM), scInv Tm invM M' → scFr [(8, 9, 2)] M M' → Q (.inl (some (.int n))) M') : pvGood Tm 0 qX11_weekEnds [.ref 0, .ref 8] M Q := (hh_X11_weekEnds_0 M [] [.ref 0, .ref 8] ⟨rfl, fun n e x he hx => by cases he⟩ ⟨⟨0, by simp, rfl⟩, ⟨8, by simp, rfl⟩, trivial⟩ (fun f hf => by cases hf) hI).imp (fun r M' h => by
  obtain ⟨⟨n, rfl, -, -⟩, h1, h2⟩ := sc_o1 h
  exact hq n M' h1 h2)
theorem s_copies {M : fmM} {Q : fmR → fmM → Prop} (hI : scInv Tm invM M) (hq : ∀ M' : fmM, scInv Tm invM M' → scFr [(8, 0, 14)] M M' → Q (.inl none) M') : pvGood Tm 0 qX11_copies [.ref 7, .ref 8] M Q := (hh_X11_copies_0 M [] [.ref 7, .ref 8] ⟨rfl, fun n e x he hx => by cases he⟩ ⟨⟨7, by simp, rfl⟩, ⟨8, by simp, rfl⟩, trivial⟩ (fun f hf => by cases hf) hI).imp (fun r M' h => by
  obtain ⟨rfl, h1, h2⟩ := sc_o0 h
  exact hq M' h1 h2)
/-- lives whose piece isn't of this week, on the trial row -/
def cnt8 (M : fmM) : Nat := (List.range 8).countP (fun k => decide (¬ M.1 8 (1 + k) = M.1 8 10))
theorem cnt8_lt {M M' : fmM} {k : Nat} (hk : k < 8) (h : ¬ M.1 8 (1 + k) = M.1 8 10) (h1 : M'.1 8 (1 + k) = M.1 8 10) (h2 : ∀ j, j ≠ 9 → j ≠ 1 + k → M'.1 8 j = M.1 8 j) : cnt8 M' < cnt8 M := by
  have e10 : M'.1 8 10 = M.1 8 10 := by
    by_cases e : 10 = 1 + k
    · omega
    · exact h2 10 (by decide) e
  have e : ∀ i, i < 8 → i ≠ k → M'.1 8 (1 + i) = M.1 8 (1 + i) := fun i hi hik => h2 _ (by omega) (by omega)
  unfold cnt8
  rw [e10]
  simp only [List.range, List.range.loop, List.countP_cons, List.countP_nil]
  rcases (show k = 0 ∨ k = 1 ∨ k = 2 ∨ k = 3 ∨ k = 4 ∨ k = 5 ∨ k = 6 ∨ k = 7 by omega) with rfl | rfl | rfl | rfl | rfl | rfl | rfl | rfl
  · rw [e 1 (by decide) (by decide), e 2 (by decide) (by decide), e 3 (by decide) (by decide), e 4 (by decide) (by decide), e 5 (by decide) (by decide), e 6 (by decide) (by decide), e 7 (by decide) (by decide)]
    simp [h, h1]
  · rw [e 0 (by decide) (by decide), e 2 (by decide) (by decide), e 3 (by decide) (by decide), e 4 (by decide) (by decide), e 5 (by decide) (by decide), e 6 (by decide) (by decide), e 7 (by decide) (by decide)]
    simp [h, h1]
  · rw [e 1 (by decide) (by decide), e 0 (by decide) (by decide), e 3 (by decide) (by decide), e 4 (by decide) (by decide), e 5 (by decide) (by decide), e 6 (by decide) (by decide), e 7 (by decide) (by decide)]
    simp [h, h1]
  · rw [e 1 (by decide) (by decide), e 2 (by decide) (by decide), e 0 (by decide) (by decide), e 4 (by decide) (by decide), e 5 (by decide) (by decide), e 6 (by decide) (by decide), e 7 (by decide) (by decide)]
    simp [h, h1]
  · rw [e 1 (by decide) (by decide), e 2 (by decide) (by decide), e 3 (by decide) (by decide), e 0 (by decide) (by decide), e 5 (by decide) (by decide), e 6 (by decide) (by decide), e 7 (by decide) (by decide)]
    simp [h, h1]
  · rw [e 1 (by decide) (by decide), e 2 (by decide) (by decide), e 3 (by decide) (by decide), e 4 (by decide) (by decide), e 0 (by decide) (by decide), e 6 (by decide) (by decide), e 7 (by decide) (by decide)]
    simp [h, h1]
  · rw [e 1 (by decide) (by decide), e 2 (by decide) (by decide), e 3 (by decide) (by decide), e 4 (by decide) (by decide), e 5 (by decide) (by decide), e 0 (by decide) (by decide), e 7 (by decide) (by decide)]
    simp [h, h1]
  · rw [e 1 (by decide) (by decide), e 2 (by decide) (by decide), e 3 (by decide) (by decide), e 4 (by decide) (by decide), e 5 (by decide) (by decide), e 6 (by decide) (by decide), e 0 (by decide) (by decide)]
    simp [h, h1]
def fst8 (M : fmM) (r : Int32) : Prop := r = -1 ∨ ∃ k : Nat, k < 8 ∧ r.toInt = k ∧ ¬ M.1 8 (1 + k) = M.1 8 10
set_option maxRecDepth 20000 in
theorem c_mayWrite0 {M : fmM} {Q : fmR → fmM → Prop} {i : Int32} {k : Nat} (hi : i.toInt = k) (hk : k < 8) (h : M.1 8 (1 + k) = M.1 8 10) (hq : Q (.inl (some (.int 0))) M) : pvGood Tm 1 qX11_mayWrite [.ref 0, .ref 8, .int i] M Q := by
  refine pvGood_of (Nat.le_of_ble_eq_true rfl) ?_
  show pvEv Tm 1 qX11_mayWrite 0 [some (.ref 0), some (.ref 8), some (.int i)] [] M Q
  refine pv_aloadn (pc := 0) (n := 1) 1 rfl rfl (fm_dec dtX11_mayWrite 0 rfl) ?_
  refine pv_iconst (pc := 1) (v := 0) (by decide) (fm_dec dtX11_mayWrite 1 rfl) ?_
  refine pv_iald (k := 8) (n := 14) (pc := 2) (by decide) rfl rfl (fm_inl (by decide)) (fm_dec dtX11_mayWrite 2 rfl) ?_
  refine pv_iloadn (pc := 3) (n := 2) 2 rfl rfl (fm_dec dtX11_mayWrite 3 rfl) ?_
  refine pv_iS2 (d' := 0) (pc := 4) pcs_X11_256 (Nat.le_of_ble_eq_true rfl) (by decide) (fm_dec dtX11_mayWrite 4 rfl) ?_
  refine c_has (fun h15 => ?_) (fun h15 => ?_)
  · refine pv_then1 ?_
    refine pv_if_ne (pc := 7) 26 (by decide) (fm_dec dtX11_mayWrite 5 rfl) (fun _ => ?_) (fun hc7 => by exfalso; revert hc7; decide)
    refine pv_iconst (pc := 26) (v := 0) (by decide) (fm_dec dtX11_mayWrite 17 rfl) ?_
    exact pv_zreturn (pc := 27) rfl (by first | exact Or.inr rfl | exact Or.inl rfl) (fm_dec dtX11_mayWrite 18 rfl) hq
  · refine pv_then1 ?_
    refine pv_if_ne (pc := 7) 26 (by decide) (fm_dec dtX11_mayWrite 5 rfl) (fun hc7 => by exfalso; revert hc7; decide) (fun _ => ?_)
    refine pv_aloadn (pc := 10) (n := 1) 1 rfl rfl (fm_dec dtX11_mayWrite 6 rfl) ?_
    refine pv_iconst (pc := 11) (v := 1) (by decide) (fm_dec dtX11_mayWrite 7 rfl) ?_
    refine pv_iloadn (pc := 12) (n := 2) 2 rfl rfl (fm_dec dtX11_mayWrite 8 rfl) ?_
    refine pv_iadd (pc := 13) (fm_dec dtX11_mayWrite 9 rfl) ?_
    refine pv_iald (k := 8) (n := 14) (pc := 14) (by decide) rfl rfl (ix_in (ix_1 hi (by omega)) (by omega)) (fm_dec dtX11_mayWrite 10 rfl) ?_
    refine pv_aloadn (pc := 15) (n := 1) 1 rfl rfl (fm_dec dtX11_mayWrite 11 rfl) ?_
    refine pv_bipush (pc := 16) (v := 10) (by decide) (fm_dec dtX11_mayWrite 12 rfl) ?_
    refine pv_iald (k := 8) (n := 14) (pc := 18) (by decide) rfl rfl (fm_inl (by decide)) (fm_dec dtX11_mayWrite 13 rfl) ?_
    refine pv_icmp_eq (pc := 19) 26 (by decide) (fm_dec dtX11_mayWrite 14 rfl) (fun _ => ?_) (fun hc19 => by exfalso; exact hc19 (by rw [i32_cl (ix_1 hi (by omega))]; exact h))
    refine pv_iconst (pc := 26) (v := 0) (by decide) (fm_dec dtX11_mayWrite 17 rfl) ?_
    exact pv_zreturn (pc := 27) rfl (by first | exact Or.inr rfl | exact Or.inl rfl) (fm_dec dtX11_mayWrite 18 rfl) hq
set_option maxRecDepth 20000 in
theorem c_saved0 {M : fmM} {Q : fmR → fmM → Prop} {i : Int32} {k : Nat} (hi : i.toInt = k) (hk : k < 8) (h : M.1 8 (1 + k) = M.1 8 10) (hq : Q (.inl (some (.int 0))) M) : pvGood Tm 7 qX11_saved [.ref 0, .ref 8, .int i] M Q := by
  refine pvGood_of (Nat.le_of_ble_eq_true rfl) ?_
  show pvEv Tm 7 qX11_saved 0 [some (.ref 0), some (.ref 8), some (.int i)] [] M Q
  refine pv_aloadn (pc := 0) (n := 0) 0 rfl rfl (fm_dec dtX11_saved 0 rfl) ?_
  refine pv_aloadn (pc := 1) (n := 1) 1 rfl rfl (fm_dec dtX11_saved 1 rfl) ?_
  refine pv_iloadn (pc := 2) (n := 2) 2 rfl rfl (fm_dec dtX11_saved 2 rfl) ?_
  refine pv_invV2 (k := 0) (d' := 1) (pc := 3) pcv_X11_296 (by decide) rfl (Nat.le_of_ble_eq_true rfl) (by decide) (fm_dec dtX11_saved 3 rfl) ?_
  refine c_mayWrite0 hi hk h ?_
  refine pv_then1 ?_
  refine pv_if_eq (pc := 6) 46 (by decide) (fm_dec dtX11_saved 4 rfl) (fun _ => ?_) (fun hc6 => by exfalso; revert hc6; decide)
  refine pv_iconst (pc := 46) (v := 0) (by decide) (fm_dec dtX11_saved 30 rfl) ?_
  exact pv_ireturn (pc := 47) rfl (fm_dec dtX11_saved 31 rfl) hq
theorem s_saved {M : fmM} {Q : fmR → fmM → Prop} {i : Int32} {k : Nat} (hi : i.toInt = k) (hk : k < 8) (hI : scInv Tm invM M) (hq : ∀ (r : Int32) (M' : fmM), scInv Tm invM M' → scFr [(5, 0, 160), (6, 0, 5)] M M' → (¬ r = 0 → ¬ M.1 8 (1 + k) = M.1 8 10) → Q (.inl (some (.int r))) M') : pvGood Tm 8 qX11_saved [.ref 0, .ref 8, .int i] M Q := by
  by_cases h : M.1 8 (1 + k) = M.1 8 10
  · exact (c_saved0 hi hk h (hq 0 M hI scFr.rfl (fun h => absurd rfl h))).up (by decide)
  · refine (hh_X11_saved_0 M [(k : Int)] _ (sc_sg hi ⟨by omega, by omega⟩) (sc_a8 hi) (fun f hf => by cases hf) hI).imp (fun r M' h9 => ?_)
    obtain ⟨⟨n, rfl, -, -⟩, h1, h2⟩ := sc_o1 h9
    exact hq n M' h1 h2 (fun _ => h)
set_option maxRecDepth 20000 in
theorem fo_loop {Q : fmR → fmM → Prop} {M0 : fmM} {hours : Int32} (hq : ∀ (r : Int32) (M' : fmM), scInv Tm invM M' → scFr [(5, 0, 160), (6, 0, 5)] M0 M' → fst8 M0 r → Q (.inl (some (.int r))) M') : ∀ (m : Nat) (M : fmM) (k : Nat) (ii best : Int32), ii.toInt = k → k + m = 8 → scInv Tm invM M → scFr [(5, 0, 160), (6, 0, 5)] M0 M → fst8 M0 best → pvEv Tm 9 qX11_firstOf 5 [some (.ref 0), some (.ref 8), some (.int hours), some (.int best), some (.int ii)] [] M Q := by
  intro m
  induction m using Nat.strongRecOn with
  | _ m ih =>
    intro M k ii best hii hm hI hF hb
    refine pv_iload (pc := 5) (i := 4) rfl (fm_dec dtX11_firstOf 4 rfl) ?_
    refine pv_aloadn (pc := 7) (n := 0) 0 rfl rfl (fm_dec dtX11_firstOf 5 rfl) ?_
    refine pv_getR (k := 0) (j := 12) (ci := 11) (pc := 8) 4 rfl (by decide) pfl_X11_23 (by decide) rfl (by decide) (fm_dec dtX11_firstOf 6 rfl) ?_
    refine pv_iconst (pc := 11) (v := 0) (by decide) (fm_dec dtX11_firstOf 7 rfl) ?_
    refine pv_iald (k := 4) (n := 6) (pc := 12) (by decide) rfl rfl (fm_inl (by decide)) (fm_dec dtX11_firstOf 8 rfl) ?_
    refine pv_icmp_ge (pc := 13) 90 (by decide) (fm_dec dtX11_firstOf 9 rfl) (fun hc13 => ?_) (fun hc13 => ?_)
    · refine pv_iloadn (pc := 90) (n := 3) 3 rfl rfl (fm_dec dtX11_firstOf 53 rfl) ?_
      exact pv_ireturn (pc := 91) rfl (fm_dec dtX11_firstOf 54 rfl) (hq _ M hI hF hb)
    · have hk8 : k < 8 := (by rw [sc_le] at hc13; have h9 : (M.1 4 0).toInt ≤ 8 := (hI.1 4 0 (by decide)).2; have h8 : (M.1 4 (Int32.toNatClampNeg 0)).toInt = (M.1 4 0).toInt := rfl; omega)
      have e8 : ∀ j, M.1 8 j = M0.1 8 j := fun j => (hF 8 j rfl).1
      refine pv_aloadn (pc := 16) (n := 0) 0 rfl rfl (fm_dec dtX11_firstOf 10 rfl) ?_
      refine pv_aloadn (pc := 17) (n := 1) 1 rfl rfl (fm_dec dtX11_firstOf 11 rfl) ?_
      refine pv_iload (pc := 18) (i := 4) rfl (fm_dec dtX11_firstOf 12 rfl) ?_
      refine pv_invV2 (k := 0) (d' := 8) (pc := 20) pcv_X11_355 (by decide) rfl (Nat.le_of_ble_eq_true rfl) (by decide) (fm_dec dtX11_firstOf 13 rfl) ?_
      refine s_saved hii hk8 hI (fun r20 M20 hI20 f20 g20 => ?_)
      refine pv_then1 ?_
      refine pv_if_eq (pc := 23) 84 (by decide) (fm_dec dtX11_firstOf 14 rfl) (fun hc23 => ?_) (fun hc23 => ?_)
      · refine pv_iincc (pc := 84) 4 1 (by decide) rfl (by decide) rfl (fm_dec dtX11_firstOf 51 rfl) ?_
        dsimp only [List.set_cons_zero, List.set_cons_succ]
        refine pv_goto (pc := 87) 5 (by decide) (fm_dec dtX11_firstOf 52 rfl) ?_
        exact ih (8 - (k + 1)) (by omega) M20 (k + 1) _ _ (i32_p1 hii (by omega)) (by omega) hI20 ((hF).trans f20 rfl) hb
      · refine pv_aloadn (pc := 26) (n := 0) 0 rfl rfl (fm_dec dtX11_firstOf 15 rfl) ?_
        refine pv_aloadn (pc := 27) (n := 1) 1 rfl rfl (fm_dec dtX11_firstOf 16 rfl) ?_
        refine pv_iload (pc := 28) (i := 4) rfl (fm_dec dtX11_firstOf 17 rfl) ?_
        refine pv_invV2 (k := 0) (d' := 2) (pc := 30) pcv_X11_290 (by decide) rfl (Nat.le_of_ble_eq_true rfl) (by decide) (fm_dec dtX11_firstOf 18 rfl) ?_
        refine s_hours hii hk8 hI20 (fun n9 => ?_)
        refine pv_then1 ?_
        refine pv_iloadn (pc := 33) (n := 2) 2 rfl rfl (fm_dec dtX11_firstOf 19 rfl) ?_
        refine pv_icmp_le (pc := 34) 40 (by decide) (fm_dec dtX11_firstOf 20 rfl) (fun hc34 => ?_) (fun hc34 => ?_)
        · refine pv_iloadn (pc := 40) (n := 3) 3 rfl rfl (fm_dec dtX11_firstOf 22 rfl) ?_
          refine pv_iconst (pc := 41) (v := (-1)) (by decide) (fm_dec dtX11_firstOf 23 rfl) ?_
          refine pv_icmp_eq (pc := 42) 81 (by decide) (fm_dec dtX11_firstOf 24 rfl) (fun hc42 => ?_) (fun hc42 => ?_)
          · refine pv_iload (pc := 81) (i := 4) rfl (fm_dec dtX11_firstOf 49 rfl) ?_
            refine pv_istoren (pc := 83) (n := 3) 3 rfl (by decide) rfl (fm_dec dtX11_firstOf 50 rfl) ?_
            dsimp only [List.set_cons_zero, List.set_cons_succ]
            refine pv_iincc (pc := 84) 4 1 (by decide) rfl (by decide) rfl (fm_dec dtX11_firstOf 51 rfl) ?_
            dsimp only [List.set_cons_zero, List.set_cons_succ]
            refine pv_goto (pc := 87) 5 (by decide) (fm_dec dtX11_firstOf 52 rfl) ?_
            exact ih (8 - (k + 1)) (by omega) M20 (k + 1) _ _ (i32_p1 hii (by omega)) (by omega) hI20 ((hF).trans f20 rfl) (Or.inr ⟨k, hk8, hii, fun h9 => g20 hc23 (by rw [e8 _, e8 _]; exact h9)⟩)
          · obtain ⟨kb, hkb8, hkb, -⟩ := hb.resolve_left hc42
            refine pv_aloadn (pc := 45) (n := 0) 0 rfl rfl (fm_dec dtX11_firstOf 25 rfl) ?_
            refine pv_aloadn (pc := 46) (n := 1) 1 rfl rfl (fm_dec dtX11_firstOf 26 rfl) ?_
            refine pv_iload (pc := 47) (i := 4) rfl (fm_dec dtX11_firstOf 27 rfl) ?_
            refine pv_invV2 (k := 0) (d' := 8) (pc := 49) pcv_X11_355 (by decide) rfl (Nat.le_of_ble_eq_true rfl) (by decide) (fm_dec dtX11_firstOf 28 rfl) ?_
            refine s_saved hii hk8 hI20 (fun r49 M49 hI49 f49 g49 => ?_)
            refine pv_then1 ?_
            refine pv_i2l (pc := 52) (fm_dec dtX11_firstOf 29 rfl) ?_
            refine pv_aloadn (pc := 53) (n := 0) 0 rfl rfl (fm_dec dtX11_firstOf 30 rfl) ?_
            refine pv_aloadn (pc := 54) (n := 1) 1 rfl rfl (fm_dec dtX11_firstOf 31 rfl) ?_
            refine pv_iloadn (pc := 55) (n := 3) 3 rfl rfl (fm_dec dtX11_firstOf 32 rfl) ?_
            refine pv_invV2 (k := 0) (d' := 2) (pc := 56) pcv_X11_290 (by decide) rfl (Nat.le_of_ble_eq_true rfl) (by decide) (fm_dec dtX11_firstOf 33 rfl) ?_
            refine s_hours hkb hkb8 hI49 (fun n9 => ?_)
            refine pv_then1 ?_
            refine pv_i2l (pc := 59) (fm_dec dtX11_firstOf 34 rfl) ?_
            refine pv_lmul (pc := 60) (fm_dec dtX11_firstOf 35 rfl) ?_
            refine pv_aloadn (pc := 61) (n := 0) 0 rfl rfl (fm_dec dtX11_firstOf 36 rfl) ?_
            refine pv_aloadn (pc := 62) (n := 1) 1 rfl rfl (fm_dec dtX11_firstOf 37 rfl) ?_
            refine pv_iloadn (pc := 63) (n := 3) 3 rfl rfl (fm_dec dtX11_firstOf 38 rfl) ?_
            refine pv_invV2 (k := 0) (d' := 8) (pc := 64) pcv_X11_355 (by decide) rfl (Nat.le_of_ble_eq_true rfl) (by decide) (fm_dec dtX11_firstOf 39 rfl) ?_
            refine s_saved hkb hkb8 hI49 (fun r64 M64 hI64 f64 g64 => ?_)
            refine pv_then1 ?_
            refine pv_i2l (pc := 67) (fm_dec dtX11_firstOf 40 rfl) ?_
            refine pv_aloadn (pc := 68) (n := 0) 0 rfl rfl (fm_dec dtX11_firstOf 41 rfl) ?_
            refine pv_aloadn (pc := 69) (n := 1) 1 rfl rfl (fm_dec dtX11_firstOf 42 rfl) ?_
            refine pv_iload (pc := 70) (i := 4) rfl (fm_dec dtX11_firstOf 43 rfl) ?_
            refine pv_invV2 (k := 0) (d' := 2) (pc := 72) pcv_X11_290 (by decide) rfl (Nat.le_of_ble_eq_true rfl) (by decide) (fm_dec dtX11_firstOf 44 rfl) ?_
            refine s_hours hii hk8 hI64 (fun n9 => ?_)
            refine pv_then1 ?_
            refine pv_i2l (pc := 75) (fm_dec dtX11_firstOf 45 rfl) ?_
            refine pv_lmul (pc := 76) (fm_dec dtX11_firstOf 46 rfl) ?_
            refine pv_lcmp (pc := 77) (fm_dec dtX11_firstOf 47 rfl) ?_
            refine pv_if_le (pc := 78) 84 (by decide) (fm_dec dtX11_firstOf 48 rfl) (fun hc78 => ?_) (fun hc78 => ?_)
            · refine pv_iincc (pc := 84) 4 1 (by decide) rfl (by decide) rfl (fm_dec dtX11_firstOf 51 rfl) ?_
              dsimp only [List.set_cons_zero, List.set_cons_succ]
              refine pv_goto (pc := 87) 5 (by decide) (fm_dec dtX11_firstOf 52 rfl) ?_
              exact ih (8 - (k + 1)) (by omega) M64 (k + 1) _ _ (i32_p1 hii (by omega)) (by omega) hI64 ((((hF).trans f20 rfl).trans f49 rfl).trans f64 rfl) hb
            · refine pv_iload (pc := 81) (i := 4) rfl (fm_dec dtX11_firstOf 49 rfl) ?_
              refine pv_istoren (pc := 83) (n := 3) 3 rfl (by decide) rfl (fm_dec dtX11_firstOf 50 rfl) ?_
              dsimp only [List.set_cons_zero, List.set_cons_succ]
              refine pv_iincc (pc := 84) 4 1 (by decide) rfl (by decide) rfl (fm_dec dtX11_firstOf 51 rfl) ?_
              dsimp only [List.set_cons_zero, List.set_cons_succ]
              refine pv_goto (pc := 87) 5 (by decide) (fm_dec dtX11_firstOf 52 rfl) ?_
              exact ih (8 - (k + 1)) (by omega) M64 (k + 1) _ _ (i32_p1 hii (by omega)) (by omega) hI64 ((((hF).trans f20 rfl).trans f49 rfl).trans f64 rfl) (Or.inr ⟨k, hk8, hii, fun h9 => g20 hc23 (by rw [e8 _, e8 _]; exact h9)⟩)
        · refine pv_goto (pc := 37) 84 (by decide) (fm_dec dtX11_firstOf 21 rfl) ?_
          refine pv_iincc (pc := 84) 4 1 (by decide) rfl (by decide) rfl (fm_dec dtX11_firstOf 51 rfl) ?_
          dsimp only [List.set_cons_zero, List.set_cons_succ]
          refine pv_goto (pc := 87) 5 (by decide) (fm_dec dtX11_firstOf 52 rfl) ?_
          exact ih (8 - (k + 1)) (by omega) M20 (k + 1) _ _ (i32_p1 hii (by omega)) (by omega) hI20 ((hF).trans f20 rfl) hb
set_option maxRecDepth 20000 in
theorem s_first {M : fmM} {Q : fmR → fmM → Prop} {hours : Int32} (hI : scInv Tm invM M) (hq : ∀ (r : Int32) (M' : fmM), scInv Tm invM M' → scFr [(5, 0, 160), (6, 0, 5)] M M' → fst8 M r → Q (.inl (some (.int r))) M') : pvGood Tm 9 qX11_firstOf [.ref 0, .ref 8, .int hours] M Q := by
  refine pvGood_of (Nat.le_of_ble_eq_true rfl) ?_
  show pvEv Tm 9 qX11_firstOf 0 [some (.ref 0), some (.ref 8), some (.int hours), none, none] [] M Q
  refine pv_iconst (pc := 0) (v := (-1)) (by decide) (fm_dec dtX11_firstOf 0 rfl) ?_
  refine pv_istoren (pc := 1) (n := 3) 3 rfl (by decide) rfl (fm_dec dtX11_firstOf 1 rfl) ?_
  dsimp only [List.set_cons_zero, List.set_cons_succ]
  refine pv_iconst (pc := 2) (v := 0) (by decide) (fm_dec dtX11_firstOf 2 rfl) ?_
  refine pv_istore (pc := 3) (i := 4) (by decide) rfl (fm_dec dtX11_firstOf 3 rfl) ?_
  dsimp only [List.set_cons_zero, List.set_cons_succ]
  exact fo_loop hq 8 M 0 0 (-1) (by decide) (by decide) hI scFr.rfl (Or.inl rfl)
theorem wr_ok {M : fmM} {v : Int32} {k : Nat} (hk : k < 8) (hI : scInv Tm invM M) : scInv Tm invM (fmI (fmI M 8 9 v) 8 (1 + k) (M.1 8 10)) ∧ scFr [(8, 0, 14)] M (fmI (fmI M 8 9 v) 8 (1 + k) (M.1 8 10)) ∧ (fmI (fmI M 8 9 v) 8 (1 + k) (M.1 8 10)).1 8 (1 + k) = M.1 8 10 ∧ ∀ j, j ≠ 9 → j ≠ 1 + k → (fmI (fmI M 8 9 v) 8 (1 + k) (M.1 8 10)).1 8 j = M.1 8 j := by
  have hb : ∀ k, k < 8 → scAt (invM 8) (1 + k) = (-1000, 200) ∧ jmPr 8 (1 + k) = false := by decide
  have h10 : 0 ≤ (M.1 8 10).toInt ∧ (M.1 8 10).toInt ≤ 200 := hI.1 8 10 (by decide)
  refine ⟨hI.p89.put ?_ (hb k hk).2, (scFr.rfl.toI (scIn_of (8, 0, 14) List.mem_cons_self ⟨rfl, Nat.zero_le _, by decide⟩)).toI (scIn_of (8, 0, 14) List.mem_cons_self ⟨rfl, Nat.zero_le _, by show 1 + k < 0 + 14; omega⟩), fmI_s _ _ _ _, fun j a b => ?_⟩
  · rw [(hb k hk).1]
    exact ⟨by show -1000 ≤ _; omega, h10.2⟩
  · rw [fmI_j _ _ b, fmI_j _ _ a]
set_option maxRecDepth 20000 in
theorem s_writes {M : fmM} {Q : fmR → fmM → Prop} {i : Int32} {k : Nat} (hi : i.toInt = k) (hk : k < 8) (hI : scInv Tm invM M) (hq : ∀ M' : fmM, scInv Tm invM M' → scFr [(8, 0, 14)] M M' → M'.1 8 (1 + k) = M.1 8 10 → (∀ j, j ≠ 9 → j ≠ 1 + k → M'.1 8 j = M.1 8 j) → Q (.inl none) M') : pvGood Tm 3 qX11_writes [.ref 0, .ref 8, .int i] M Q := by
  refine pvGood_of (Nat.le_of_ble_eq_true rfl) ?_
  show pvEv Tm 3 qX11_writes 0 [some (.ref 0), some (.ref 8), some (.int i)] [] M Q
  refine pv_aloadn (pc := 0) (n := 1) 1 rfl rfl (fm_dec dtX11_writes 0 rfl) ?_
  refine pv_bipush (pc := 1) (v := 9) (by decide) (fm_dec dtX11_writes 1 rfl) ?_
  refine pv_dup2 (pc := 3) rfl rfl (fm_dec dtX11_writes 2 rfl) ?_
  refine pv_iald (k := 8) (n := 14) (pc := 4) (by decide) rfl rfl (fm_inl (by decide)) (fm_dec dtX11_writes 3 rfl) ?_
  refine pv_aloadn (pc := 5) (n := 0) 0 rfl rfl (fm_dec dtX11_writes 4 rfl) ?_
  refine pv_aloadn (pc := 6) (n := 1) 1 rfl rfl (fm_dec dtX11_writes 5 rfl) ?_
  refine pv_iloadn (pc := 7) (n := 2) 2 rfl rfl (fm_dec dtX11_writes 6 rfl) ?_
  refine pv_invV2 (k := 0) (d' := 2) (pc := 8) pcv_X11_290 (by decide) rfl (Nat.le_of_ble_eq_true rfl) (by decide) (fm_dec dtX11_writes 7 rfl) ?_
  refine s_hours hi hk hI (fun n9 => ?_)
  refine pv_then1 ?_
  refine pv_isub (pc := 11) (fm_dec dtX11_writes 8 rfl) ?_
  refine pv_iast (k := 8) (n := 14) (pc := 12) (by decide) rfl rfl (fm_inl (by decide)) (fm_dec dtX11_writes 9 rfl) ?_
  refine pv_aloadn (pc := 13) (n := 1) 1 rfl rfl (fm_dec dtX11_writes 10 rfl) ?_
  refine pv_iconst (pc := 14) (v := 1) (by decide) (fm_dec dtX11_writes 11 rfl) ?_
  refine pv_iloadn (pc := 15) (n := 2) 2 rfl rfl (fm_dec dtX11_writes 12 rfl) ?_
  refine pv_iadd (pc := 16) (fm_dec dtX11_writes 13 rfl) ?_
  refine pv_aloadn (pc := 17) (n := 1) 1 rfl rfl (fm_dec dtX11_writes 14 rfl) ?_
  refine pv_bipush (pc := 18) (v := 10) (by decide) (fm_dec dtX11_writes 15 rfl) ?_
  refine pv_iald (k := 8) (n := 14) (pc := 20) (by decide) rfl rfl (fm_inl (by decide)) (fm_dec dtX11_writes 16 rfl) ?_
  refine pv_iast (k := 8) (n := 14) (pc := 21) (by decide) rfl rfl (ix_in (ix_1 hi (by omega)) (by omega)) (fm_dec dtX11_writes 17 rfl) ?_
  exact pv_return (pc := 22) rfl (fm_dec dtX11_writes 18 rfl) (by rw [i32_cl (ix_1 hi (by omega))]; have h9 := wr_ok (v := M.1 8 9 - n9) hk hI; exact hq _ h9.1 h9.2.1 h9.2.2.1 h9.2.2.2)
set_option maxRecDepth 20000 in
theorem yb_3 {Q : fmR → fmM → Prop} {M0 : fmM} {seed weeks ww : Int32} (hq : ∀ (M' : fmM) (nx' : Int32), scInv Tm invM M' → scFr [(0, 47, 2), (5, 0, 160), (6, 0, 5), (8, 0, 14)] M0 M' → pvEv Tm 12 qX11_yearsBy 176 [some (.ref 0), some (.int seed), some (.int weeks), some (.int ww), some (.int nx')] [] M' Q) : ∀ (m : Nat) (M : fmM) (nx : Int32), cnt8 M ≤ m → scInv Tm invM M → scFr [(0, 47, 2), (5, 0, 160), (6, 0, 5), (8, 0, 14)] M0 M → fst8 M nx → pvEv Tm 12 qX11_yearsBy 130 [some (.ref 0), some (.int seed), some (.int weeks), some (.int ww), some (.int nx)] [] M Q := by
  intro m
  induction m using Nat.strongRecOn with
  | _ m ih =>
    intro M nx hm hI hF hb
    refine pv_iload (pc := 130) (i := 4) rfl (fm_dec dtX11_yearsBy 69 rfl) ?_
    refine pv_iconst (pc := 132) (v := (-1)) (by decide) (fm_dec dtX11_yearsBy 70 rfl) ?_
    refine pv_icmp_eq (pc := 133) 176 (by decide) (fm_dec dtX11_yearsBy 71 rfl) (fun hc133 => ?_) (fun hc133 => ?_)
    · exact hq M nx hI hF
    · obtain ⟨kb, hkb8, hkb, hkn⟩ := hb.resolve_left hc133
      refine pv_aloadn (pc := 136) (n := 0) 0 rfl rfl (fm_dec dtX11_yearsBy 72 rfl) ?_
      refine pv_aloadn (pc := 137) (n := 0) 0 rfl rfl (fm_dec dtX11_yearsBy 73 rfl) ?_
      refine pv_getR (k := 0) (j := 28) (ci := 11) (pc := 138) 8 rfl (by decide) pfl_X11_64 (by decide) rfl (by decide) (fm_dec dtX11_yearsBy 74 rfl) ?_
      refine pv_iload (pc := 141) (i := 4) rfl (fm_dec dtX11_yearsBy 75 rfl) ?_
      refine pv_invV2 (k := 0) (d' := 3) (pc := 143) pcv_X11_299 (by decide) rfl (Nat.le_of_ble_eq_true rfl) (by decide) (fm_dec dtX11_yearsBy 76 rfl) ?_
      refine s_writes hkb hkb8 hI (fun M143 hI143 f143 g1 g2 => ?_)
      refine pv_then0 ?_
      refine pv_aloadn (pc := 146) (n := 0) 0 rfl rfl (fm_dec dtX11_yearsBy 77 rfl) ?_
      refine pv_dup (pc := 147) rfl (fm_dec dtX11_yearsBy 78 rfl) ?_
      refine pv_getI (k := 0) (j := 48) (ci := 11) (pc := 148) pfl_X11_429 (by decide) rfl (by decide) (fm_dec dtX11_yearsBy 79 rfl) ?_
      refine pv_iconst (pc := 151) (v := 1) (by decide) (fm_dec dtX11_yearsBy 80 rfl) ?_
      refine pv_iadd (pc := 152) (fm_dec dtX11_yearsBy 81 rfl) ?_
      refine pv_putI (k := 0) (j := 48) (ci := 11) (pc := 153) pfl_X11_429 (by decide) rfl (by decide) (fm_dec dtX11_yearsBy 82 rfl) ?_
      refine pv_aloadn (pc := 156) (n := 0) 0 rfl rfl (fm_dec dtX11_yearsBy 83 rfl) ?_
      refine pv_aloadn (pc := 157) (n := 0) 0 rfl rfl (fm_dec dtX11_yearsBy 84 rfl) ?_
      refine pv_getR (k := 0) (j := 28) (ci := 11) (pc := 158) 8 rfl (by decide) pfl_X11_64 (by decide) rfl (by decide) (fm_dec dtX11_yearsBy 85 rfl) ?_
      refine pv_aloadn (pc := 161) (n := 0) 0 rfl rfl (fm_dec dtX11_yearsBy 86 rfl) ?_
      refine pv_getR (k := 0) (j := 28) (ci := 11) (pc := 162) 8 rfl (by decide) pfl_X11_64 (by decide) rfl (by decide) (fm_dec dtX11_yearsBy 87 rfl) ?_
      refine pv_bipush (pc := 165) (v := 9) (by decide) (fm_dec dtX11_yearsBy 88 rfl) ?_
      refine pv_iald (k := 8) (n := 14) (pc := 167) (by decide) rfl rfl (fm_inl (by decide)) (fm_dec dtX11_yearsBy 89 rfl) ?_
      refine pv_invV2 (k := 0) (d' := 9) (pc := 168) pcv_X11_358 (by decide) rfl (Nat.le_of_ble_eq_true rfl) (by decide) (fm_dec dtX11_yearsBy 90 rfl) ?_
      refine s_first (M := fmI M143 0 48 (M143.1 0 48 + 1)) hI143.p48 (fun r168 M168 hI168 f168 b168 => ?_)
      refine pv_then1 ?_
      refine pv_istore (pc := 171) (i := 4) (by decide) rfl (fm_dec dtX11_yearsBy 91 rfl) ?_
      dsimp only [List.set_cons_zero, List.set_cons_succ]
      refine pv_goto (pc := 173) 130 (by decide) (fm_dec dtX11_yearsBy 92 rfl) ?_
      have e8 : ∀ j, M168.1 8 j = M143.1 8 j := fun j => ((f168 8 j rfl).1).trans (by rw [fmI_k _ _ (by decide)])
      have hlt : cnt8 M168 < cnt8 M := cnt8_lt hkb8 hkn (by rw [e8]; exact g1) (fun j a b => by rw [e8]; exact g2 j a b)
      exact ih (cnt8 M168) (by omega) M168 _ (Nat.le_refl _) hI168 (((hF.trans f143 rfl).toI (scIn_of (0, 47, 2) List.mem_cons_self ⟨rfl, by decide, by decide⟩)).trans f168 rfl) (b168.imp id (fun ⟨q, q1, q2, q3⟩ => ⟨q, q1, q2, fun h9 => q3 (by have a1 := e8 (1 + q); have a2 := e8 10; rw [fmI_k _ _ (by decide)]; rw [← a1, ← a2]; exact h9)⟩))
set_option maxRecDepth 20000 in
theorem yb_2 {Q : fmR → fmM → Prop} {M0 : fmM} {seed weeks ww : Int32} (hq : ∀ (M' : fmM) (ii' : Int32), scInv Tm invM M' → scFr [(0, 47, 2), (5, 0, 160), (6, 0, 5), (8, 0, 14)] M0 M' → pvEv Tm 12 qX11_yearsBy 113 [some (.ref 0), some (.int seed), some (.int weeks), some (.int ww), some (.int ii')] [] M' Q) : ∀ (m : Nat) (M : fmM) (k : Nat) (ii : Int32), ii.toInt = k → k + m = 8 → scInv Tm invM M → scFr [(0, 47, 2), (5, 0, 160), (6, 0, 5), (8, 0, 14)] M0 M → pvEv Tm 12 qX11_yearsBy 31 [some (.ref 0), some (.int seed), some (.int weeks), some (.int ww), some (.int ii)] [] M Q := by
  intro m
  induction m using Nat.strongRecOn with
  | _ m ih =>
    intro M k ii hii hm hI hF
    refine pv_iload (pc := 31) (i := 4) rfl (fm_dec dtX11_yearsBy 18 rfl) ?_
    refine pv_aloadn (pc := 33) (n := 0) 0 rfl rfl (fm_dec dtX11_yearsBy 19 rfl) ?_
    refine pv_getR (k := 0) (j := 12) (ci := 11) (pc := 34) 4 rfl (by decide) pfl_X11_23 (by decide) rfl (by decide) (fm_dec dtX11_yearsBy 20 rfl) ?_
    refine pv_iconst (pc := 37) (v := 0) (by decide) (fm_dec dtX11_yearsBy 21 rfl) ?_
    refine pv_iald (k := 4) (n := 6) (pc := 38) (by decide) rfl rfl (fm_inl (by decide)) (fm_dec dtX11_yearsBy 22 rfl) ?_
    refine pv_icmp_ge (pc := 39) 113 (by decide) (fm_dec dtX11_yearsBy 23 rfl) (fun hc39 => ?_) (fun hc39 => ?_)
    · exact hq M ii hI hF
    · have hk8 : k < 8 := (by rw [sc_le] at hc39; have h9 : (M.1 4 0).toInt ≤ 8 := (hI.1 4 0 (by decide)).2; have h8 : (M.1 4 (Int32.toNatClampNeg 0)).toInt = (M.1 4 0).toInt := rfl; omega)
      refine pv_aloadn (pc := 42) (n := 0) 0 rfl rfl (fm_dec dtX11_yearsBy 24 rfl) ?_
      refine pv_getR (k := 0) (j := 28) (ci := 11) (pc := 43) 8 rfl (by decide) pfl_X11_64 (by decide) rfl (by decide) (fm_dec dtX11_yearsBy 25 rfl) ?_
      refine pv_iconst (pc := 46) (v := 0) (by decide) (fm_dec dtX11_yearsBy 26 rfl) ?_
      refine pv_iald (k := 8) (n := 14) (pc := 47) (by decide) rfl rfl (fm_inl (by decide)) (fm_dec dtX11_yearsBy 27 rfl) ?_
      refine pv_iload (pc := 48) (i := 4) rfl (fm_dec dtX11_yearsBy 28 rfl) ?_
      refine pv_iS2 (d' := 0) (pc := 50) pcs_X11_256 (Nat.le_of_ble_eq_true rfl) (by decide) (fm_dec dtX11_yearsBy 29 rfl) ?_
      refine c_has (fun h15 => ?_) (fun h15 => ?_)
      · refine pv_then1 ?_
        refine pv_if_eq (pc := 53) 59 (by decide) (fm_dec dtX11_yearsBy 30 rfl) (fun hc53 => by exfalso; revert hc53; decide) (fun _ => ?_)
        refine pv_goto (pc := 56) 107 (by decide) (fm_dec dtX11_yearsBy 31 rfl) ?_
        refine pv_iincc (pc := 107) 4 1 (by decide) rfl (by decide) rfl (fm_dec dtX11_yearsBy 58 rfl) ?_
        dsimp only [List.set_cons_zero, List.set_cons_succ]
        refine pv_goto (pc := 110) 31 (by decide) (fm_dec dtX11_yearsBy 59 rfl) ?_
        exact ih (8 - (k + 1)) (by omega) M (k + 1) _ (i32_p1 hii (by omega)) (by omega) hI (hF)
      · refine pv_then1 ?_
        refine pv_if_eq (pc := 53) 59 (by decide) (fm_dec dtX11_yearsBy 30 rfl) (fun _ => ?_) (fun hc53 => by exfalso; revert hc53; decide)
        refine pv_aloadn (pc := 59) (n := 0) 0 rfl rfl (fm_dec dtX11_yearsBy 32 rfl) ?_
        refine pv_aloadn (pc := 60) (n := 0) 0 rfl rfl (fm_dec dtX11_yearsBy 33 rfl) ?_
        refine pv_getI (k := 0) (j := 47) (ci := 11) (pc := 61) pfl_X11_426 (by decide) rfl (by decide) (fm_dec dtX11_yearsBy 34 rfl) ?_
        refine pv_ldcw (pc := 64) pkc_X11_432 (fm_dec dtX11_yearsBy 35 rfl) ?_
        refine pv_imul (pc := 67) (fm_dec dtX11_yearsBy 36 rfl) ?_
        refine pv_sipush (pc := 68) (v := 12345) (by decide) (fm_dec dtX11_yearsBy 37 rfl) ?_
        refine pv_iadd (pc := 71) (fm_dec dtX11_yearsBy 38 rfl) ?_
        refine pv_putI (k := 0) (j := 47) (ci := 11) (pc := 72) pfl_X11_426 (by decide) rfl (by decide) (fm_dec dtX11_yearsBy 39 rfl) ?_
        refine pv_aloadn (pc := 75) (n := 0) 0 rfl rfl (fm_dec dtX11_yearsBy 40 rfl) ?_
        refine pv_getI (k := 0) (j := 47) (ci := 11) (pc := 76) pfl_X11_426 (by decide) rfl (by decide) (fm_dec dtX11_yearsBy 41 rfl) ?_
        refine pv_bipush (pc := 79) (v := 16) (by decide) (fm_dec dtX11_yearsBy 42 rfl) ?_
        refine pv_ishr (pc := 81) (fm_dec dtX11_yearsBy 43 rfl) ?_
        refine pv_bipush (pc := 82) (v := 63) (by decide) (fm_dec dtX11_yearsBy 44 rfl) ?_
        refine pv_iand (pc := 84) (fm_dec dtX11_yearsBy 45 rfl) ?_
        refine pv_aloadn (pc := 85) (n := 0) 0 rfl rfl (fm_dec dtX11_yearsBy 46 rfl) ?_
        refine pv_getR (k := 0) (j := 14) (ci := 11) (pc := 86) 17 rfl (by decide) pfl_X11_31 (by decide) rfl (by decide) (fm_dec dtX11_yearsBy 47 rfl) ?_
        refine pv_iload (pc := 89) (i := 4) rfl (fm_dec dtX11_yearsBy 48 rfl) ?_
        refine pv_aald (k := 17) (n := 8) (r := (35 + k)) (pc := 91) (by decide) (Or.inr (Or.inr rfl)) rfl (rw_life.inb hii hk8) (rw_life.at hii hk8) (rw_life.2.2.2 _ hk8).2.1 (fm_dec dtX11_yearsBy 49 rfl) ?_
        refine pv_iconst (pc := 92) (v := 1) (by decide) (fm_dec dtX11_yearsBy 50 rfl) ?_
        refine pv_iald (k := (35 + k)) (n := 6) (pc := 93) (rw_life.2.2.2 _ hk8).2.2.1 (rw_life.2.2.2 _ hk8).2.2.2.1 (rw_life.2.2.2 _ hk8).2.2.2.2 (fm_inl (by decide)) (fm_dec dtX11_yearsBy 51 rfl) ?_
        refine pv_icmp_ge (pc := 94) 107 (by decide) (fm_dec dtX11_yearsBy 52 rfl) (fun hc94 => ?_) (fun hc94 => ?_)
        · refine pv_iincc (pc := 107) 4 1 (by decide) rfl (by decide) rfl (fm_dec dtX11_yearsBy 58 rfl) ?_
          dsimp only [List.set_cons_zero, List.set_cons_succ]
          refine pv_goto (pc := 110) 31 (by decide) (fm_dec dtX11_yearsBy 59 rfl) ?_
          exact ih (8 - (k + 1)) (by omega) _ (k + 1) _ (i32_p1 hii (by omega)) (by omega) hI.p47 ((hF.toI (scIn_of (0, 47, 2) List.mem_cons_self ⟨rfl, by decide, by decide⟩)))
        · refine pv_aloadn (pc := 97) (n := 0) 0 rfl rfl (fm_dec dtX11_yearsBy 53 rfl) ?_
          refine pv_aloadn (pc := 98) (n := 0) 0 rfl rfl (fm_dec dtX11_yearsBy 54 rfl) ?_
          refine pv_getR (k := 0) (j := 28) (ci := 11) (pc := 99) 8 rfl (by decide) pfl_X11_64 (by decide) rfl (by decide) (fm_dec dtX11_yearsBy 55 rfl) ?_
          refine pv_iload (pc := 102) (i := 4) rfl (fm_dec dtX11_yearsBy 56 rfl) ?_
          refine pv_invV2 (k := 0) (d' := 8) (pc := 104) pcv_X11_303 (by decide) rfl (Nat.le_of_ble_eq_true rfl) (by decide) (fm_dec dtX11_yearsBy 57 rfl) ?_
          refine s_dies hii hk8 hI.p47 (fun M104 hI104 f104 => ?_)
          refine pv_then0 ?_
          refine pv_iincc (pc := 107) 4 1 (by decide) rfl (by decide) rfl (fm_dec dtX11_yearsBy 58 rfl) ?_
          dsimp only [List.set_cons_zero, List.set_cons_succ]
          refine pv_goto (pc := 110) 31 (by decide) (fm_dec dtX11_yearsBy 59 rfl) ?_
          exact ih (8 - (k + 1)) (by omega) M104 (k + 1) _ (i32_p1 hii (by omega)) (by omega) hI104 ((hF.toI (scIn_of (0, 47, 2) List.mem_cons_self ⟨rfl, by decide, by decide⟩)).trans f104 rfl)
set_option maxRecDepth 20000 in
theorem yb_1 {Q : fmR → fmM → Prop} {M0 : fmM} {seed weeks : Int32} (h60 : weeks.toInt ≤ 60) (hq : ∀ M' : fmM, scInv Tm invM M' → scFr [(0, 47, 2), (5, 0, 160), (6, 0, 5), (8, 0, 14)] M0 M' → Q (.inl none) M') : ∀ (m : Nat) (M : fmM) (k : Nat) (ww : Int32) (v4 : Option Value), ww.toInt = k → k + m = 60 → scInv Tm invM M → scFr [(0, 47, 2), (5, 0, 160), (6, 0, 5), (8, 0, 14)] M0 M → pvEv Tm 12 qX11_yearsBy 23 [some (.ref 0), some (.int seed), some (.int weeks), some (.int ww), v4] [] M Q := by
  intro m
  induction m using Nat.strongRecOn with
  | _ m ih =>
    intro M k ww v4 hww hm hI hF
    refine pv_iloadn (pc := 23) (n := 3) 3 rfl rfl (fm_dec dtX11_yearsBy 13 rfl) ?_
    refine pv_iloadn (pc := 24) (n := 2) 2 rfl rfl (fm_dec dtX11_yearsBy 14 rfl) ?_
    refine pv_icmp_ge (pc := 25) 191 (by decide) (fm_dec dtX11_yearsBy 15 rfl) (fun hc25 => ?_) (fun hc25 => ?_)
    · exact pv_return (pc := 191) rfl (fm_dec dtX11_yearsBy 100 rfl) (hq M hI hF)
    · have hk60 : k < 60 := (by rw [sc_le] at hc25; omega)
      refine pv_iconst (pc := 28) (v := 0) (by decide) (fm_dec dtX11_yearsBy 16 rfl) ?_
      refine pv_istore (pc := 29) (i := 4) (by decide) rfl (fm_dec dtX11_yearsBy 17 rfl) ?_
      dsimp only [List.set_cons_zero, List.set_cons_succ]
      refine yb_2 (fun M2 i2 hI2 hF2 => ?_) 8 M 0 _ (by decide) (by decide) hI hF
      refine pv_aloadn (pc := 113) (n := 0) 0 rfl rfl (fm_dec dtX11_yearsBy 60 rfl) ?_
      refine pv_aloadn (pc := 114) (n := 0) 0 rfl rfl (fm_dec dtX11_yearsBy 61 rfl) ?_
      refine pv_getR (k := 0) (j := 28) (ci := 11) (pc := 115) 8 rfl (by decide) pfl_X11_64 (by decide) rfl (by decide) (fm_dec dtX11_yearsBy 62 rfl) ?_
      refine pv_aloadn (pc := 118) (n := 0) 0 rfl rfl (fm_dec dtX11_yearsBy 63 rfl) ?_
      refine pv_getR (k := 0) (j := 28) (ci := 11) (pc := 119) 8 rfl (by decide) pfl_X11_64 (by decide) rfl (by decide) (fm_dec dtX11_yearsBy 64 rfl) ?_
      refine pv_bipush (pc := 122) (v := 9) (by decide) (fm_dec dtX11_yearsBy 65 rfl) ?_
      refine pv_iald (k := 8) (n := 14) (pc := 124) (by decide) rfl rfl (fm_inl (by decide)) (fm_dec dtX11_yearsBy 66 rfl) ?_
      refine pv_invV2 (k := 0) (d' := 9) (pc := 125) pcv_X11_358 (by decide) rfl (Nat.le_of_ble_eq_true rfl) (by decide) (fm_dec dtX11_yearsBy 67 rfl) ?_
      refine s_first hI2 (fun r125 M125 hI125 f125 b125 => ?_)
      refine pv_then1 ?_
      refine pv_istore (pc := 128) (i := 4) (by decide) rfl (fm_dec dtX11_yearsBy 68 rfl) ?_
      dsimp only [List.set_cons_zero, List.set_cons_succ]
      refine yb_3 (fun M3 n3 hI3 hF3 => ?_) (cnt8 M125) M125 _ (Nat.le_refl _) hI125 (hF2.trans f125 rfl) (b125.imp id (fun ⟨q, q1, q2, q3⟩ => ⟨q, q1, q2, fun h9 => q3 (by have a1 := (f125 8 (1 + q) rfl).1; have a2 := (f125 8 10 rfl).1; rw [← a1, ← a2]; exact h9)⟩))
      refine pv_aloadn (pc := 176) (n := 0) 0 rfl rfl (fm_dec dtX11_yearsBy 93 rfl) ?_
      refine pv_aloadn (pc := 177) (n := 0) 0 rfl rfl (fm_dec dtX11_yearsBy 94 rfl) ?_
      refine pv_getR (k := 0) (j := 28) (ci := 11) (pc := 178) 8 rfl (by decide) pfl_X11_64 (by decide) rfl (by decide) (fm_dec dtX11_yearsBy 95 rfl) ?_
      refine pv_invV1 (k := 0) (d' := 0) (pc := 181) pcv_X11_306 (by decide) rfl (Nat.le_of_ble_eq_true rfl) (by decide) (fm_dec dtX11_yearsBy 96 rfl) ?_
      refine s_week hI3 (fun n9 M9 hI9 f9 => ?_)
      refine pv_then1 ?_
      refine pv_pop (pc := 184) rfl (fm_dec dtX11_yearsBy 97 rfl) ?_
      refine pv_iincc (pc := 185) 3 1 (by decide) rfl (by decide) rfl (fm_dec dtX11_yearsBy 98 rfl) ?_
      dsimp only [List.set_cons_zero, List.set_cons_succ]
      refine pv_goto (pc := 188) 23 (by decide) (fm_dec dtX11_yearsBy 99 rfl) ?_
      exact ih (60 - (k + 1)) (by omega) M9 (k + 1) _ _ (i32_p1 hww (by omega)) (by omega) hI9 (hF3.trans f9 rfl)
set_option maxRecDepth 20000 in
theorem s_years {M : fmM} {Q : fmR → fmM → Prop} {seed weeks : Int32} (h60 : weeks.toInt ≤ 60) (hI : scInv Tm invM M) (hq : ∀ M' : fmM, scInv Tm invM M' → scFr [(0, 47, 2), (5, 0, 160), (6, 0, 5), (8, 0, 14)] M M' → Q (.inl none) M') : pvGood Tm 12 qX11_yearsBy [.ref 0, .int seed, .int weeks] M Q := by
  refine pvGood_of (Nat.le_of_ble_eq_true rfl) ?_
  show pvEv Tm 12 qX11_yearsBy 0 [some (.ref 0), some (.int seed), some (.int weeks), none, none] [] M Q
  refine pv_aloadn (pc := 0) (n := 0) 0 rfl rfl (fm_dec dtX11_yearsBy 0 rfl) ?_
  refine pv_getR (k := 0) (j := 27) (ci := 11) (pc := 1) 7 rfl (by decide) pfl_X11_61 (by decide) rfl (by decide) (fm_dec dtX11_yearsBy 1 rfl) ?_
  refine pv_aloadn (pc := 4) (n := 0) 0 rfl rfl (fm_dec dtX11_yearsBy 2 rfl) ?_
  refine pv_getR (k := 0) (j := 28) (ci := 11) (pc := 5) 8 rfl (by decide) pfl_X11_64 (by decide) rfl (by decide) (fm_dec dtX11_yearsBy 3 rfl) ?_
  refine pv_iS2 (d' := 0) (pc := 8) pcs_X11_323 (Nat.le_of_ble_eq_true rfl) (by decide) (fm_dec dtX11_yearsBy 4 rfl) ?_
  refine s_copies hI (fun M8 hI8 f8 => ?_)
  refine pv_then0 ?_
  refine pv_aloadn (pc := 11) (n := 0) 0 rfl rfl (fm_dec dtX11_yearsBy 5 rfl) ?_
  refine pv_iloadn (pc := 12) (n := 1) 1 rfl rfl (fm_dec dtX11_yearsBy 6 rfl) ?_
  refine pv_putI (k := 0) (j := 47) (ci := 11) (pc := 13) pfl_X11_426 (by decide) rfl (by decide) (fm_dec dtX11_yearsBy 7 rfl) ?_
  refine pv_aloadn (pc := 16) (n := 0) 0 rfl rfl (fm_dec dtX11_yearsBy 8 rfl) ?_
  refine pv_iconst (pc := 17) (v := 0) (by decide) (fm_dec dtX11_yearsBy 9 rfl) ?_
  refine pv_putI (k := 0) (j := 48) (ci := 11) (pc := 18) pfl_X11_429 (by decide) rfl (by decide) (fm_dec dtX11_yearsBy 10 rfl) ?_
  refine pv_iconst (pc := 21) (v := 0) (by decide) (fm_dec dtX11_yearsBy 11 rfl) ?_
  refine pv_istoren (pc := 22) (n := 3) 3 rfl (by decide) rfl (fm_dec dtX11_yearsBy 12 rfl) ?_
  dsimp only [List.set_cons_zero, List.set_cons_succ]
  exact yb_1 h60 hq 60 _ 0 _ _ (by decide) (by decide) hI8.p47.p48 ((((scFr.rfl (W := [(0, 47, 2), (5, 0, 160), (6, 0, 5), (8, 0, 14)])).trans f8 rfl).toI (scIn_of (0, 47, 2) List.mem_cons_self ⟨rfl, by decide, by decide⟩)).toI (scIn_of (0, 47, 2) List.mem_cons_self ⟨rfl, by decide, by decide⟩))
theorem hh_hand_yearsBy : scH Tm invM cc_hand_yearsBy := by
  intro M σ as hE hS hF hI
  obtain ⟨r, st1, hr, e1, q1⟩ := scSk_r hS
  obtain ⟨i, st2, e2, hi, q2⟩ := scSk_i q1
  obtain ⟨w, st3, e3, hw, q3⟩ := scSk_i q2
  have e5 := scSk_0 q3
  have er : r = 0 := by simpa using hr
  have h60 : w.toInt ≤ 60 := (sc_ev hE rfl hw).2
  subst er
  subst e5
  subst e3
  subst e2
  subst e1
  exact s_years h60 hI (fun M' h1 h2 => ⟨⟨_, List.mem_cons_self, rfl, fun q hq => (by cases hq), fun q hq => (by cases hq)⟩, h1, h2⟩)
