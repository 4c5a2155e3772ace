-- THE CLASS DOES A WORK
/-- told, law, state and counts, as they stand here -/
def xAll (M : fmM) (D : dD) (cs : tC) (R : gR) : Prop := xdw 3 M D ∧ lwX M cs ∧ xst M D R.1 ∧ stO D R.1 ∧ (M.1 28 4).toInt = (R.2.1 : Int) ∧ (M.1 28 5).toInt = (R.2.2.1 : Int) ∧ (M.1 28 6).toInt = (R.2.2.2 : Int) ∧ R.2.2.1 + R.2.2.2 ≤ R.2.1 ∧ R.2.1 ≤ 200
/-- numbers that can be -/
def nuO (D : dD) (ss : tS) : Prop := ss.length ≤ 150 ∧ ∀ s ∈ ss, (s.1 < 3 → s.2.1 < D.1) ∧ s.2.1 ≤ 20
/-- l stands in ss from place a on -/
def seg (ss : tS) (a : Nat) (l : tS) : Prop := ∀ i, i < l.length → ss[a + i]? = l[i]?
def pFr (M M' : fmM) : Prop := (∀ k j, k ≠ 26 → k ≠ 28 → k ≠ 47 → k ≠ 48 → M'.1 k j = M.1 k j) ∧ (∀ k j, k ≠ 47 → M'.2 k j = M.2 k j)
theorem pFr.refl (M : fmM) : pFr M M := ⟨fun _ _ _ _ _ _ => rfl, fun _ _ _ => rfl⟩
theorem pFr.trans {M M1 M2 : fmM} (h : pFr M M1) (h' : pFr M1 M2) : pFr M M2 := ⟨fun k j a b c d => (h'.1 k j a b c d).trans (h.1 k j a b c d), fun k j a => (h'.2 k j a).trans (h.2 k j a)⟩
theorem pFr.put {M M1 : fmM} {j : Nat} {x : Int32} (h : pFr M M1) : pFr M (fmI M1 28 j x) := ⟨fun k' j' a b c d => by rw [fmI_k _ _ b]; exact h.1 k' j' a b c d, h.2⟩
theorem sFr.p {M M1 : fmM} (h : sFr M M1) : pFr M M1 := ⟨fun k j a _ c d => h.1 k j a c d, h.2⟩
theorem wRep.p {M M' : fmM} {b : Nat} {ss : tS} (h : wRep M b ss) (hf : pFr M M') : wRep M' b ss := fun i c hi => by
  rw [hf.1 29 _ (by decide) (by decide) (by decide) (by decide), hf.1 30 _ (by decide) (by decide) (by decide) (by decide), hf.1 31 _ (by decide) (by decide) (by decide) (by decide)]
  exact h i c hi
theorem lwX.f {M M' : fmM} {cs : tC} (h : lwX M cs) (e : M'.1 23 3 = M.1 23 3) (e2 : ∀ i, M'.1 24 i = M.1 24 i) : lwX M' cs := ⟨by rw [e]; exact h.1, h.2.1, fun i c hi => by rw [e2]; exact h.2.2.1 i c hi, h.2.2.2⟩
theorem xAll.put {M : fmM} {D : dD} {cs : tC} {R : gR} {j : Nat} {x : Int32} (h : xAll M D cs R) (hj : 4 ≤ j ∧ j ≤ 6) : xdw 3 (fmI M 28 j x) D ∧ lwX (fmI M 28 j x) cs ∧ xst (fmI M 28 j x) D R.1 := ⟨h.1.of (fun k j' a b => by rw [fmI_k _ _ (by omega)]), h.2.1.f (by rw [fmI_k _ _ (by decide)]) (fun i => by rw [fmI_k _ _ (by decide)]), h.2.2.1.of (fun k j' a => by rw [fmI_k _ _ (by omega)]) rfl⟩
theorem seg.hd {ss : tS} {a : Nat} {s : Nat × Nat × Nat} {r : tS} (h : seg ss a (s :: r)) : ss[a]? = some s := h 0 (Nat.succ_pos _)
theorem seg.tl {ss : tS} {a : Nat} {s : Nat × Nat × Nat} {r : tS} (h : seg ss a (s :: r)) : seg ss (a + 1) r := fun i hi => by
  have h9 := h (i + 1) (by rw [List.length_cons]; omega)
  rw [show a + 1 + i = a + (i + 1) by omega]
  exact h9
theorem seg.tk {ss : tS} {a n : Nat} {r : tS} (h : seg ss a r) : seg ss a (r.take n) := fun i hi => by
  rw [List.length_take] at hi
  rw [List.getElem?_take_of_lt (by omega)]
  exact h i (by omega)
theorem seg.dp {ss : tS} {a n : Nat} {r : tS} (h : seg ss a r) : seg ss (a + n) (r.drop n) := fun i hi => by
  rw [List.length_drop] at hi
  rw [List.getElem?_drop, show a + n + i = a + (n + i) by omega]
  exact h (n + i) (by omega)
theorem go_0 {D : dD} {cs : tC} {f a : Nat} {R : gR} : goL D cs f a [] R = R := by cases f <;> rfl
theorem go_s {D : dD} {cs : tC} {f a : Nat} {l : tS} {R : gR} (h : ¬ R.2.1 < 200) : goL D cs f a l R = R := by
  cases f with
  | zero => rfl
  | succ f =>
    cases l with
    | nil => rfl
    | cons s r => exact if_neg h
theorem go_1 {D : dD} {cs : tC} {f a : Nat} {s : Nat × Nat × Nat} {r : tS} {R : gR} (h : R.2.1 < 200) (h4 : ¬ s.1 = 4) : goL D cs (f + 1) a (s :: r) R = goL D cs f (a + 1) r (oneR D cs R s.1 s.2.1) := by
  show (if R.2.1 < 200 then (if s.1 = 4 then _ else _) else R) = _
  rw [if_pos h, if_neg h4]
theorem go_4 {D : dD} {cs : tC} {f a : Nat} {s : Nat × Nat × Nat} {r : tS} {R : gR} (h : R.2.1 < 200) (h4 : s.1 = 4) : goL D cs (f + 1) a (s :: r) R = goL D cs f s.2.2 (r.drop (s.2.2 - (a + 1))) (loR (goL D cs f (a + 1) (r.take (s.2.2 - (a + 1)))) s.2.1 (R.1, R.2.1 + 1, R.2.2)) := by
  show (if R.2.1 < 200 then (if s.1 = 4 then _ else _) else R) = _
  rw [if_pos h, if_pos h4]
theorem one_g {D : dD} {cs : tC} {R : gR} {k i : Nat} : (oneR D cs R k i).2.1 = R.2.1 + 1 := by
  unfold oneR
  split <;> rfl
theorem lo_ge {F : gR → gR} (hF : ∀ R : gR, R.2.1 ≤ (F R).2.1) : ∀ (n : Nat) (R : gR), R.2.1 ≤ (loR F n R).2.1 := by
  intro n
  induction n with
  | zero => intro R; exact Nat.le_refl _
  | succ n ih =>
    intro R
    show R.2.1 ≤ (if R.2.1 < 200 then loR F n (F R) else R).2.1
    split
    · exact Nat.le_trans (hF R) (ih _)
    · exact Nat.le_refl _
theorem go_ge {D : dD} {cs : tC} : ∀ (f a : Nat) (l : tS) (R : gR), R.2.1 ≤ (goL D cs f a l R).2.1 := by
  intro f
  induction f with
  | zero => intro a l R; exact Nat.le_refl _
  | succ f ih =>
    intro a l R
    cases l with
    | nil => exact Nat.le_refl _
    | cons s r =>
      by_cases h : R.2.1 < 200
      · by_cases h4 : s.1 = 4
        · rw [go_4 h h4]
          have h1 := lo_ge (F := goL D cs f (a + 1) (r.take (s.2.2 - (a + 1)))) (fun R => ih _ _ R) s.2.1 (R.1, R.2.1 + 1, R.2.2)
          have h2 := ih s.2.2 (r.drop (s.2.2 - (a + 1))) (loR (goL D cs f (a + 1) (r.take (s.2.2 - (a + 1)))) s.2.1 (R.1, R.2.1 + 1, R.2.2))
          have h1 : R.2.1 + 1 ≤ _ := h1
          omega
        · rw [go_1 h h4]
          have h2 := ih (a + 1) r (oneR D cs R s.1 s.2.1)
          rw [one_g] at h2
          omega
      · rw [go_s h]
        exact Nat.le_refl _
theorem wn_1 {g d a : Nat} {s : Nat × Nat × Nat} {r : tS} (h : wnL g d a (s :: r)) (h4 : ¬ s.1 = 4) : s.1 < 4 ∧ s.2.2 = a + 1 ∧ ∃ g', wnL g' d (a + 1) r := by
  cases g with
  | zero => exact absurd h (by intro h; exact h)
  | succ g =>
    unfold wnL at h
    rw [if_neg h4] at h
    exact ⟨h.1, h.2.1, g, h.2.2⟩
theorem wn_4 {g d a : Nat} {s : Nat × Nat × Nat} {r : tS} (h : wnL g d a (s :: r)) (h4 : s.1 = 4) : 0 < d ∧ a + 1 ≤ s.2.2 ∧ s.2.2 ≤ a + 1 + r.length ∧ (∃ g', wnL g' (d - 1) (a + 1) (r.take (s.2.2 - (a + 1)))) ∧ ∃ g', wnL g' d s.2.2 (r.drop (s.2.2 - (a + 1))) := by
  cases g with
  | zero => exact absurd h (by intro h; exact h)
  | succ g =>
    unfold wnL at h
    rw [if_pos h4] at h
    exact ⟨h.1, h.2.1, h.2.2.1, ⟨g, h.2.2.2.1⟩, g, h.2.2.2.2⟩
/-- behind the start of perform, for the steps l that stand from place a on -/
def xpL (D : dD) (cs : tC) (ss : tS) (f : Nat) : Prop := ∀ (M : fmM) (Q : fmR → fmM → Prop) (a o g : Nat) (l : tS) (R : gR) (fr to op av : Int32) (v7 : Option Value), xAll M D cs R → wRep M 0 ss → seg ss a l → a + l.length ≤ ss.length → wnL g (6 - o) a l → o ≤ 6 → av.toInt = (a : Int) → to.toInt = ((a + l.length : Nat) : Int) → op.toInt = (o : Int) → 200 - R.2.1 < f → (∀ M' : fmM, xAll M' D cs (goL D cs f a l R) → pFr M M' → Q (.inl none) M') → pvEv Tx (12 + f) qX9_perform 3 [some (.ref 28), some (.ref 32), some (.ref 47), some (.int fr), some (.int to), some (.int op), some (.int av), v7] [] M Q
theorem xpL.go {D : dD} {cs : tC} {ss : tS} {f : Nat} (h : xpL D cs ss f) {M : fmM} {Q : fmR → fmM → Prop} {a o g : Nat} {l : tS} {R : gR} {to op fr : Int32} (h1 : xAll M D cs R) (h2 : wRep M 0 ss) (h3 : seg ss a l) (h4 : a + l.length ≤ ss.length) (h5 : wnL g (6 - o) a l) (h6 : o ≤ 6) (h7 : fr.toInt = (a : Int)) (h8 : to.toInt = ((a + l.length : Nat) : Int)) (h9 : op.toInt = (o : Int)) (h10 : 200 - R.2.1 < f) (hq : ∀ M' : fmM, xAll M' D cs (goL D cs f a l R) → pFr M M' → Q (.inl none) M') : pvGood Tx (12 + f) qX9_perform [.ref 28, .ref 32, .ref 47, .int fr, .int to, .int op] M Q := by
  refine pvGood_of (Nat.le_of_ble_eq_true rfl) ?_
  show pvEv Tx (12 + f) qX9_perform 0 [some (.ref 28), some (.ref 32), some (.ref 47), some (.int fr), some (.int to), some (.int op), none, none] [] M Q
  refine pv_iloadn (pc := 0) (n := 3) 3 rfl rfl (fm_dec dtX9_perform 0 rfl) ?_
  refine pv_istore (pc := 1) (i := 6) (by decide) rfl (fm_dec dtX9_perform 1 rfl) ?_
  dsimp only [List.set_cons_zero, List.set_cons_succ]
  exact h M Q a o g l R fr to op fr none h1 h2 h3 h4 h5 h6 h7 h8 h9 h10 hq
set_option maxRecDepth 20000 in
theorem xpe_in {Q : fmR → fmM → Prop} {D : dD} {cs : tC} {ss : tS} {f : Nat} (h : xpL D cs ss f) {a oN g9 v e : Nat} {s : Nat × Nat × Nat} {r : tS} {fr to op av : Int32} (hsa : ss[a]? = some s) (hs2 : s.2.1 = v) (hs3 : s.2.2 = e) (h4s : s.1 = 4) (hv20 : v ≤ 20) (hseg : seg ss (a + 1) r) (hlen : a + 1 + r.length ≤ ss.length) (hae : a + 1 ≤ e) (her : e ≤ a + 1 + r.length) (hwn : wnL g9 (6 - (oN + 1)) (a + 1) (r.take (e - (a + 1)))) (ho : oN < 6) (ha : av.toInt = (a : Int)) (ha150 : a < 150) (hop : op.toInt = (oN : Int)) : ∀ (q : Nat) (M : fmM) (R : gR) (c : Nat) (cc : Int32), xAll M D cs R → wRep M 0 ss → 200 - R.2.1 < f → cc.toInt = (c : Int) → c + q = v → (∀ (M' : fmM) (v7 : Option Value), xAll M' D cs (loR (goL D cs f (a + 1) (r.take (e - (a + 1)))) q R) → pFr M M' → pvEv Tx (12 + (f + 1)) qX9_perform 108 [some (.ref 28), some (.ref 32), some (.ref 47), some (.int fr), some (.int to), some (.int op), some (.int av), v7] [] M' Q) → pvEv Tx (12 + (f + 1)) qX9_perform 59 [some (.ref 28), some (.ref 32), some (.ref 47), some (.int fr), some (.int to), some (.int op), some (.int av), some (.int cc)] [] M Q := by
  intro q
  induction q with
  | zero =>
    intro M R c cc hA hW hg hc hcq hq
    have hrow := hW a s hsa
    rw [Nat.zero_add] at hrow
    have hv9 : (M.1 30 a).toInt = (v : Int) := hrow.2.1.trans (by rw [hs2])
    have he9 : (M.1 31 a).toInt = (e : Int) := (hrow.2.2 h4s).trans (by rw [hs3])
    refine pv_iload (pc := 59) (i := 7) rfl (fm_dec dtX9_perform 29 rfl) ?_
    refine pv_aloadn (pc := 61) (n := 0) 0 rfl rfl (fm_dec dtX9_perform 30 rfl) ?_
    refine pv_getR (k := 28) (j := 1) (ci := 9) (pc := 62) 30 rfl (by decide) pfl_X9_15 (by decide) rfl (by decide) (fm_dec dtX9_perform 31 rfl) ?_
    refine pv_iload (pc := 65) (i := 6) rfl (fm_dec dtX9_perform 32 rfl) ?_
    refine pv_iald (k := 30) (n := 150) (pc := 67) (by decide) rfl rfl (ix_in ha ha150) (fm_dec dtX9_perform 33 rfl) ?_
    refine pv_icmp_ge (pc := 68) 108 (by decide) (fm_dec dtX9_perform 34 rfl) (fun _ => ?_) (fun hc68 => by exfalso; apply hc68; rw [sc_le, i32_cl ha]; omega)
    exact hq M _ hA (pFr.refl M)
  | succ q ih =>
    intro M R c cc hA hW hg hc hcq hq
    have hrow := hW a s hsa
    rw [Nat.zero_add] at hrow
    have hv9 : (M.1 30 a).toInt = (v : Int) := hrow.2.1.trans (by rw [hs2])
    have he9 : (M.1 31 a).toInt = (e : Int) := (hrow.2.2 h4s).trans (by rw [hs3])
    refine pv_iload (pc := 59) (i := 7) rfl (fm_dec dtX9_perform 29 rfl) ?_
    refine pv_aloadn (pc := 61) (n := 0) 0 rfl rfl (fm_dec dtX9_perform 30 rfl) ?_
    refine pv_getR (k := 28) (j := 1) (ci := 9) (pc := 62) 30 rfl (by decide) pfl_X9_15 (by decide) rfl (by decide) (fm_dec dtX9_perform 31 rfl) ?_
    refine pv_iload (pc := 65) (i := 6) rfl (fm_dec dtX9_perform 32 rfl) ?_
    refine pv_iald (k := 30) (n := 150) (pc := 67) (by decide) rfl rfl (ix_in ha ha150) (fm_dec dtX9_perform 33 rfl) ?_
    refine pv_icmp_ge (pc := 68) 108 (by decide) (fm_dec dtX9_perform 34 rfl) (fun hc68 => by exfalso; rw [sc_le, i32_cl ha] at hc68; omega) (fun _ => ?_)
    refine pv_aloadn (pc := 71) (n := 0) 0 rfl rfl (fm_dec dtX9_perform 35 rfl) ?_
    refine pv_getI (k := 28) (j := 4) (ci := 9) (pc := 72) pfl_X9_25 (by decide) rfl (by decide) (fm_dec dtX9_perform 36 rfl) ?_
    refine pv_sipush (pc := 75) (v := 200) (by decide) (fm_dec dtX9_perform 37 rfl) ?_
    refine pv_icmp_ge (pc := 78) 108 (by decide) (fm_dec dtX9_perform 38 rfl) (fun hc78 => ?_) (fun hc78 => ?_)
    · have eL : loR (goL D cs f (a + 1) (r.take (e - (a + 1)))) (q + 1) R = R := if_neg (by rw [sc_le] at hc78; have z200 : (200 : Int32).toInt = 200 := (by decide); have h9 := hA.2.2.2.2.1; omega)
      rw [eL] at hq
      exact hq M _ hA (pFr.refl M)
    · have hg2 : R.2.1 < 200 := (by rw [sc_le] at hc78; have z200 : (200 : Int32).toInt = 200 := (by decide); have h9 := hA.2.2.2.2.1; omega)
      have eL : loR (goL D cs f (a + 1) (r.take (e - (a + 1)))) (q + 1) R = loR (goL D cs f (a + 1) (r.take (e - (a + 1)))) q ((goL D cs f (a + 1) (r.take (e - (a + 1)))) R) := if_pos hg2
      rw [eL] at hq
      refine pv_aloadn (pc := 81) (n := 0) 0 rfl rfl (fm_dec dtX9_perform 39 rfl) ?_
      refine pv_aloadn (pc := 82) (n := 1) 1 rfl rfl (fm_dec dtX9_perform 40 rfl) ?_
      refine pv_aloadn (pc := 83) (n := 2) 2 rfl rfl (fm_dec dtX9_perform 41 rfl) ?_
      refine pv_iload (pc := 84) (i := 6) rfl (fm_dec dtX9_perform 42 rfl) ?_
      refine pv_iconst (pc := 86) (v := 1) (by decide) (fm_dec dtX9_perform 43 rfl) ?_
      refine pv_iadd (pc := 87) (fm_dec dtX9_perform 44 rfl) ?_
      refine pv_aloadn (pc := 88) (n := 0) 0 rfl rfl (fm_dec dtX9_perform 45 rfl) ?_
      refine pv_getR (k := 28) (j := 2) (ci := 9) (pc := 89) 31 rfl (by decide) pfl_X9_18 (by decide) rfl (by decide) (fm_dec dtX9_perform 46 rfl) ?_
      refine pv_iload (pc := 92) (i := 6) rfl (fm_dec dtX9_perform 47 rfl) ?_
      refine pv_iald (k := 31) (n := 150) (pc := 94) (by decide) rfl rfl (ix_in ha ha150) (fm_dec dtX9_perform 48 rfl) ?_
      refine pv_iload (pc := 95) (i := 5) rfl (fm_dec dtX9_perform 49 rfl) ?_
      refine pv_iconst (pc := 97) (v := 1) (by decide) (fm_dec dtX9_perform 50 rfl) ?_
      refine pv_iadd (pc := 98) (fm_dec dtX9_perform 51 rfl) ?_
      refine pv_invV5 (k := 28) (d' := (12 + f)) (pc := 99) pcv_X9_76 (by decide) rfl (Nat.le_of_ble_eq_true rfl) (by omega) (fm_dec dtX9_perform 52 rfl) ?_
      refine h.go (a := a + 1) (o := oN + 1) (g := g9) hA hW (seg.tk hseg) (by rw [List.length_take]; omega) hwn (by omega) (i32_p1 ha (by omega)) (by rw [i32_cl ha, he9, List.length_take]; omega) (i32_p1 hop (by omega)) hg (fun M99 h99 f99 => ?_) 
      refine pv_then0 ?_
      refine pv_iincc (pc := 102) 7 1 (by decide) rfl (by decide) rfl (fm_dec dtX9_perform 53 rfl) ?_
      dsimp only [List.set_cons_zero, List.set_cons_succ]
      refine pv_goto (pc := 105) 59 (by decide) (fm_dec dtX9_perform 54 rfl) ?_
      exact ih M99 _ (c + 1) _ h99 (hW.p f99) (by have h9 := go_ge (D := D) (cs := cs) f (a + 1) (r.take (e - (a + 1))) R; omega) (i32_p1 hc (by omega)) (by omega) (fun M' v7 a1 b1 => hq M' v7 a1 (f99.trans b1))
set_option maxRecDepth 20000 in
theorem xp_E {D : dD} {cs : tC} {ss : tS} (hD : dOk D) (hN : nuO D ss) : ∀ f, xpL D cs ss f := by
  intro f
  induction f with
  | zero =>
    intro M Q a o g l R fr to op av v7 hA hW hseg hlen hwn ho6 ha ht hop hf hq
    omega
  | succ f ih =>
    intro M Q a o g l R fr to op av v7 hA hW hseg hlen hwn ho6 ha ht hop hf hq
    refine pv_iload (pc := 3) (i := 6) rfl (fm_dec dtX9_perform 2 rfl) ?_
    refine pv_iload (pc := 5) (i := 4) rfl (fm_dec dtX9_perform 3 rfl) ?_
    refine pv_icmp_ge (pc := 7) 178 (by decide) (fm_dec dtX9_perform 4 rfl) (fun hc7 => ?_) (fun hc7 => ?_)
    · exact pv_return (pc := 178) rfl (fm_dec dtX9_perform 92 rfl) (by have el : l = [] := (by cases l with | nil => rfl | cons s r => (rw [sc_le] at hc7; rw [List.length_cons] at ht; omega)); subst el; rw [go_0] at hq; exact hq M hA (pFr.refl M))
    · obtain ⟨s, r, rfl⟩ : ∃ s r, l = s :: r := (by cases l with | nil => (rw [sc_le] at hc7; rw [List.length_nil] at ht; omega) | cons s r => exact ⟨s, r, rfl⟩)
      rw [List.length_cons] at ht hlen
      have ha150 : a < 150 := (by have := hN.1; omega)
      have hsa := hseg.hd
      have hnu := hN.2 s (List.mem_of_getElem? hsa)
      refine pv_iload (pc := 10) (i := 6) rfl (fm_dec dtX9_perform 5 rfl) ?_
      refine pv_sipush (pc := 12) (v := 150) (by decide) (fm_dec dtX9_perform 6 rfl) ?_
      refine pv_icmp_ge (pc := 15) 178 (by decide) (fm_dec dtX9_perform 7 rfl) (fun hc15 => by exfalso; rw [sc_le] at hc15; have z150 : (150 : Int32).toInt = 150 := (by decide); omega) (fun _ => ?_)
      refine pv_aloadn (pc := 18) (n := 0) 0 rfl rfl (fm_dec dtX9_perform 8 rfl) ?_
      refine pv_getI (k := 28) (j := 4) (ci := 9) (pc := 19) pfl_X9_25 (by decide) rfl (by decide) (fm_dec dtX9_perform 9 rfl) ?_
      refine pv_sipush (pc := 22) (v := 200) (by decide) (fm_dec dtX9_perform 10 rfl) ?_
      refine pv_icmp_ge (pc := 25) 178 (by decide) (fm_dec dtX9_perform 11 rfl) (fun hc25 => ?_) (fun hc25 => ?_)
      · exact pv_return (pc := 178) rfl (fm_dec dtX9_perform 92 rfl) (by rw [go_s (by rw [sc_le] at hc25; have z200 : (200 : Int32).toInt = 200 := (by decide); have h9 := hA.2.2.2.2.1; omega)] at hq; exact hq M hA (pFr.refl M))
      · have hg2 : R.2.1 < 200 := (by rw [sc_le] at hc25; have z200 : (200 : Int32).toInt = 200 := (by decide); have h9 := hA.2.2.2.2.1; omega)
        have hP1 := hA.put (x := M.1 28 4 + 1) (show 4 ≤ 4 ∧ 4 ≤ 6 by decide)
        have e4 : ((fmI M 28 4 (M.1 28 4 + 1)).1 28 4).toInt = ((R.2.1 + 1 : Nat) : Int) := (by rw [fmI_s]; exact i32_p1 hA.2.2.2.2.1 (by omega))
        have f1 : pFr M (fmI M 28 4 (M.1 28 4 + 1)) := (pFr.refl M).put
        have hW1 : wRep (fmI M 28 4 (M.1 28 4 + 1)) 0 ss := hW.p f1
        have hA1 : xAll (fmI M 28 4 (M.1 28 4 + 1)) D cs (R.1, R.2.1 + 1, R.2.2) := ⟨hP1.1, hP1.2.1, hP1.2.2, hA.2.2.2.1, e4, hA.2.2.2.2.2.1, hA.2.2.2.2.2.2.1, (by show R.2.2.1 + R.2.2.2 ≤ R.2.1 + 1; have := hA.2.2.2.2.2.2.2.1; omega), hg2⟩
        have hrow1 := hW1 a s hsa
        rw [Nat.zero_add] at hrow1
        refine pv_iload (pc := 28) (i := 5) rfl (fm_dec dtX9_perform 12 rfl) ?_
        refine pv_bipush (pc := 30) (v := 6) (by decide) (fm_dec dtX9_perform 13 rfl) ?_
        refine pv_icmp_gt (pc := 32) 178 (by decide) (fm_dec dtX9_perform 14 rfl) (fun hc32 => by exfalso; rw [sc_lt] at hc32; have z6 : (6 : Int32).toInt = 6 := (by decide); omega) (fun _ => ?_)
        refine pv_aloadn (pc := 35) (n := 0) 0 rfl rfl (fm_dec dtX9_perform 15 rfl) ?_
        refine pv_dup (pc := 36) rfl (fm_dec dtX9_perform 16 rfl) ?_
        refine pv_getI (k := 28) (j := 4) (ci := 9) (pc := 37) pfl_X9_25 (by decide) rfl (by decide) (fm_dec dtX9_perform 17 rfl) ?_
        refine pv_iconst (pc := 40) (v := 1) (by decide) (fm_dec dtX9_perform 18 rfl) ?_
        refine pv_iadd (pc := 41) (fm_dec dtX9_perform 19 rfl) ?_
        refine pv_putI (k := 28) (j := 4) (ci := 9) (pc := 42) pfl_X9_25 (by decide) rfl (by decide) (fm_dec dtX9_perform 20 rfl) ?_
        refine pv_aloadn (pc := 45) (n := 0) 0 rfl rfl (fm_dec dtX9_perform 21 rfl) ?_
        refine pv_getR (k := 28) (j := 0) (ci := 9) (pc := 46) 29 rfl (by decide) pfl_X9_9 (by decide) rfl (by decide) (fm_dec dtX9_perform 22 rfl) ?_
        refine pv_iload (pc := 49) (i := 6) rfl (fm_dec dtX9_perform 23 rfl) ?_
        refine pv_iald (k := 29) (n := 150) (pc := 51) (by decide) rfl rfl (ix_in ha ha150) (fm_dec dtX9_perform 24 rfl) ?_
        refine pv_iconst (pc := 52) (v := 4) (by decide) (fm_dec dtX9_perform 25 rfl) ?_
        refine pv_icmp_ne (pc := 53) 127 (by decide) (fm_dec dtX9_perform 26 rfl) (fun hc53 => ?_) (fun hc53 => ?_)
        · have h4 : ¬ s.1 = 4 := (fun h9 => hc53 (i32_ext (by rw [i32_cl ha, hrow1.1, h9]; decide)))
          obtain ⟨hk4, hs2, g8, w8⟩ := wn_1 hwn h4
          rw [go_1 hg2 h4] at hq
          refine pv_aloadn (pc := 127) (n := 1) 1 rfl rfl (fm_dec dtX9_perform 65 rfl) ?_
          refine pv_aloadn (pc := 128) (n := 2) 2 rfl rfl (fm_dec dtX9_perform 66 rfl) ?_
          refine pv_aloadn (pc := 129) (n := 0) 0 rfl rfl (fm_dec dtX9_perform 67 rfl) ?_
          refine pv_getR (k := 28) (j := 0) (ci := 9) (pc := 130) 29 rfl (by decide) pfl_X9_9 (by decide) rfl (by decide) (fm_dec dtX9_perform 68 rfl) ?_
          refine pv_iload (pc := 133) (i := 6) rfl (fm_dec dtX9_perform 69 rfl) ?_
          refine pv_iald (k := 29) (n := 150) (pc := 135) (by decide) rfl rfl (ix_in ha ha150) (fm_dec dtX9_perform 70 rfl) ?_
          refine pv_aloadn (pc := 136) (n := 0) 0 rfl rfl (fm_dec dtX9_perform 71 rfl) ?_
          refine pv_getR (k := 28) (j := 1) (ci := 9) (pc := 137) 30 rfl (by decide) pfl_X9_15 (by decide) rfl (by decide) (fm_dec dtX9_perform 72 rfl) ?_
          refine pv_iload (pc := 140) (i := 6) rfl (fm_dec dtX9_perform 73 rfl) ?_
          refine pv_iald (k := 30) (n := 150) (pc := 142) (by decide) rfl rfl (ix_in ha ha150) (fm_dec dtX9_perform 74 rfl) ?_
          refine pv_iS4 (d' := 5) (pc := 143) pcs_X9_85 (Nat.le_of_ble_eq_true rfl) (by omega) (fm_dec dtX9_perform 75 rfl) ?_
          refine c_xps (k := s.1) (i := s.2.1) (by rw [i32_cl ha]; exact hrow1.1) (by rw [i32_cl ha]; exact hrow1.2.1) hk4 (by have := hnu.2; omega) hD hP1.1 hP1.2.1 hP1.2.2 hA.2.2.2.1 (fun h9 => hnu.1 h9) (fun h143 => ?_) (fun M9 S9 h143 x143 f143 => ?_)  
          · refine pv_then1 ?_
            refine pv_if_eq (pc := 146) 162 (by decide) (fm_dec dtX9_perform 76 rfl) (fun _ => ?_) (fun hc146 => by exfalso; revert hc146; decide)
            refine pv_aloadn (pc := 162) (n := 0) 0 rfl rfl (fm_dec dtX9_perform 84 rfl) ?_
            refine pv_dup (pc := 163) rfl (fm_dec dtX9_perform 85 rfl) ?_
            refine pv_getI (k := 28) (j := 6) (ci := 9) (pc := 164) pfl_X9_31 (by decide) rfl (by decide) (fm_dec dtX9_perform 86 rfl) ?_
            refine pv_iconst (pc := 167) (v := 1) (by decide) (fm_dec dtX9_perform 87 rfl) ?_
            refine pv_iadd (pc := 168) (fm_dec dtX9_perform 88 rfl) ?_
            refine pv_putI (k := 28) (j := 6) (ci := 9) (pc := 169) pfl_X9_31 (by decide) rfl (by decide) (fm_dec dtX9_perform 89 rfl) ?_
            refine pv_iincc (pc := 172) 6 1 (by decide) rfl (by decide) rfl (fm_dec dtX9_perform 90 rfl) ?_
            dsimp only [List.set_cons_zero, List.set_cons_succ]
            refine pv_goto (pc := 175) 3 (by decide) (fm_dec dtX9_perform 91 rfl) ?_
            have eR : oneR D cs R s.1 s.2.1 = (R.1, R.2.1 + 1, R.2.2.1, R.2.2.2 + 1) := (by unfold oneR; rw [h143])
            rw [eR] at hq
            have hP2 := hA1.put (x := (fmI M 28 4 (M.1 28 4 + 1)).1 28 6 + 1) (show 4 ≤ 6 ∧ 6 ≤ 6 by decide)
            refine (ih _ Q (a + 1) o g8 r (R.1, R.2.1 + 1, R.2.2.1, R.2.2.2 + 1) _ _ _ _ _ ⟨hP2.1, hP2.2.1, hP2.2.2, hA.2.2.2.1, e4, hA.2.2.2.2.2.1, (by rw [fmI_s]; exact i32_p1 hA.2.2.2.2.2.2.1 (by have := hA.2.2.2.2.2.2.2.1; omega)), (by show R.2.2.1 + (R.2.2.2 + 1) ≤ R.2.1 + 1; have := hA.2.2.2.2.2.2.2.1; omega), hg2⟩ (hW.p (f1.put)) hseg.tl (by omega) w8 ho6 (i32_p1 ha (by omega)) (by rw [ht]; congr 1; omega) hop (by show 200 - (R.2.1 + 1) < f; omega) (fun M' h1 h2 => hq M' h1 ((f1.put).trans h2))).up (by omega)
          · refine pv_then1 ?_
            refine pv_if_eq (pc := 146) 162 (by decide) (fm_dec dtX9_perform 76 rfl) (fun hc146 => by exfalso; revert hc146; decide) (fun _ => ?_)
            refine pv_aloadn (pc := 149) (n := 0) 0 rfl rfl (fm_dec dtX9_perform 77 rfl) ?_
            refine pv_dup (pc := 150) rfl (fm_dec dtX9_perform 78 rfl) ?_
            refine pv_getI (k := 28) (j := 5) (ci := 9) (pc := 151) pfl_X9_28 (by decide) rfl (by decide) (fm_dec dtX9_perform 79 rfl) ?_
            refine pv_iconst (pc := 154) (v := 1) (by decide) (fm_dec dtX9_perform 80 rfl) ?_
            refine pv_iadd (pc := 155) (fm_dec dtX9_perform 81 rfl) ?_
            refine pv_putI (k := 28) (j := 5) (ci := 9) (pc := 156) pfl_X9_28 (by decide) rfl (by decide) (fm_dec dtX9_perform 82 rfl) ?_
            refine pv_goto (pc := 159) 172 (by decide) (fm_dec dtX9_perform 83 rfl) ?_
            refine pv_iincc (pc := 172) 6 1 (by decide) rfl (by decide) rfl (fm_dec dtX9_perform 90 rfl) ?_
            dsimp only [List.set_cons_zero, List.set_cons_succ]
            refine pv_goto (pc := 175) 3 (by decide) (fm_dec dtX9_perform 91 rfl) ?_
            have eR : oneR D cs R s.1 s.2.1 = (S9, R.2.1 + 1, R.2.2.1 + 1, R.2.2.2) := (by unfold oneR; rw [h143])
            rw [eR] at hq
            have fM : pFr M M9 := f1.trans f143.p
            have hO9 := do_ok hD hA.2.2.2.1 hnu.1 h143
            have x9 : xAll (fmI M9 28 5 (M9.1 28 5 + 1)) D cs (S9, R.2.1 + 1, R.2.2.1 + 1, R.2.2.2) := ⟨hP1.1.of (fun k j a1 b1 => by rw [fmI_k _ _ (by omega), f143.1 k j (by omega) (by omega) (by omega)]), hP1.2.1.f (by rw [fmI_k _ _ (by decide), f143.1 23 3 (by decide) (by decide) (by decide)]) (fun i => by rw [fmI_k _ _ (by decide), f143.1 24 i (by decide) (by decide) (by decide)]), x143.of (fun k j a1 => by rw [fmI_k _ _ (by omega)]) rfl, hO9, (by rw [fmI_j _ _ (by decide), f143.1 28 4 (by decide) (by decide) (by decide)]; exact e4), (by rw [fmI_s, f143.1 28 5 (by decide) (by decide) (by decide)]; exact i32_p1 hA.2.2.2.2.2.1 (by have := hA.2.2.2.2.2.2.2.1; omega)), (by rw [fmI_j _ _ (by decide), f143.1 28 6 (by decide) (by decide) (by decide)]; exact hA.2.2.2.2.2.2.1), (by show R.2.2.1 + 1 + R.2.2.2 ≤ R.2.1 + 1; have := hA.2.2.2.2.2.2.2.1; omega), hg2⟩
            refine (ih _ Q (a + 1) o g8 r (S9, R.2.1 + 1, R.2.2.1 + 1, R.2.2.2) _ _ _ _ _ x9 (hW.p (fM.put)) hseg.tl (by omega) w8 ho6 (i32_p1 ha (by omega)) (by rw [ht]; congr 1; omega) hop (by show 200 - (R.2.1 + 1) < f; omega) (fun M' h1 h2 => hq M' h1 ((fM.put).trans h2))).up (by omega)
        · have h4 : s.1 = 4 := (by have h9 := congrArg Int32.toInt hc53; rw [i32_cl ha, hrow1.1] at h9; have z4 : (4 : Int32).toInt = 4 := (by decide); omega)
          have hwn := wn_4 hwn h4
          rw [go_4 hg2 h4] at hq
          refine pv_iconst (pc := 56) (v := 0) (by decide) (fm_dec dtX9_perform 27 rfl) ?_
          refine pv_istore (pc := 57) (i := 7) (by decide) rfl (fm_dec dtX9_perform 28 rfl) ?_
          dsimp only [List.set_cons_zero, List.set_cons_succ]
          obtain ⟨w1, w2, w3, ⟨g9, w4⟩, g8, w5⟩ := hwn
          have hlt : R.2.1 + 1 ≤ (loR (goL D cs f (a + 1) (r.take (s.2.2 - (a + 1)))) s.2.1 (R.1, R.2.1 + 1, R.2.2)).2.1 := lo_ge (fun R => go_ge f _ _ R) s.2.1 (R.1, R.2.1 + 1, R.2.2)
          refine xpe_in ih hsa rfl rfl h4 hnu.2 hseg.tl (by omega) w2 w3 (by rw [show 6 - (o + 1) = 6 - o - 1 by omega]; exact w4) (by omega) ha ha150 hop s.2.1 _ _ 0 0 hA1 hW1 (by show 200 - (R.2.1 + 1) < f; omega) (by decide) (by omega) (fun M9 v9 a9 f9 => ?_)
          have hr9 := (hW1.p f9) a s hsa
          rw [Nat.zero_add] at hr9
          refine pv_iload (pc := 108) (i := 6) rfl (fm_dec dtX9_perform 55 rfl) ?_
          refine pv_iconst (pc := 110) (v := 1) (by decide) (fm_dec dtX9_perform 56 rfl) ?_
          refine pv_iadd (pc := 111) (fm_dec dtX9_perform 57 rfl) ?_
          refine pv_aloadn (pc := 112) (n := 0) 0 rfl rfl (fm_dec dtX9_perform 58 rfl) ?_
          refine pv_getR (k := 28) (j := 2) (ci := 9) (pc := 113) 31 rfl (by decide) pfl_X9_18 (by decide) rfl (by decide) (fm_dec dtX9_perform 59 rfl) ?_
          refine pv_iload (pc := 116) (i := 6) rfl (fm_dec dtX9_perform 60 rfl) ?_
          refine pv_iald (k := 31) (n := 150) (pc := 118) (by decide) rfl rfl (ix_in ha ha150) (fm_dec dtX9_perform 61 rfl) ?_
          refine pv_mm (pc := 119) pmm_X9_80 (by omega) (Nat.le_of_ble_eq_true rfl) (fm_dec dtX9_perform 62 rfl) ?_
          refine pv_istore (pc := 122) (i := 6) (by decide) rfl (fm_dec dtX9_perform 63 rfl) ?_
          dsimp only [List.set_cons_zero, List.set_cons_succ]
          refine pv_goto (pc := 124) 3 (by decide) (fm_dec dtX9_perform 64 rfl) ?_
          have em : (pvMx true (av + 1) (M9.1 31 av.toNatClampNeg)).toInt = (s.2.2 : Int) := (by rw [mxt, i32_cl ha, hr9.2.2 h4, i32_p1 ha (by omega)]; omega)
          refine (ih M9 Q s.2.2 o g8 (r.drop (s.2.2 - (a + 1))) _ _ _ _ _ _ a9 (hW1.p f9) (by have h8 := hseg.tl.dp (n := s.2.2 - (a + 1)); rw [show a + 1 + (s.2.2 - (a + 1)) = s.2.2 by omega] at h8; exact h8) (by rw [List.length_drop]; omega) w5 ho6 em (by rw [ht, List.length_drop]; congr 1; omega) hop (by omega) (fun M' h1 h2 => hq M' h1 ((f1.trans f9).trans h2))).up (by omega)
