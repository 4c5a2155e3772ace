-- THE CLASS READS LAWS
def cdV (c : Nat × Nat) : Int := if c.1 = 0 then (c.2 : Int) else if c.1 = 1 then -1 - (c.2 : Int) else if c.1 < 6 then -6 - (c.1 : Int) else -(c.1 : Int)
def xlPre (M : fmM) (tx : tX) (n p m : Nat) : Prop := xS2 M tx n p ∧ M.1 1 4 = 0 ∧ scInv Tx invX M ∧ (M.1 23 4).toInt = (m : Int) ∧ m ≤ p ∧ n ≤ 150
def xlRep (M : fmM) (m : Nat) (cs : tC) : Prop := ∀ i c, cs[i]? = some c → (M.1 25 (m + i)).toInt = cdV c
def xlFr (m : Nat) (M M' : fmM) : Prop := (∀ k j, k ≠ 1 → ¬ (k = 23 ∧ j = 4) → ¬ (k = 25 ∧ m ≤ j) → M'.1 k j = M.1 k j) ∧ (∀ k j, k ≠ 1 → k ≠ 23 → k ≠ 25 → M'.2 k j = M.2 k j) ∧ (∀ j, j ≠ 3 → j ≠ 4 → j ≠ 5 → M'.1 1 j = M.1 1 j)
def xlOk (M M' : fmM) (tx : tX) (n q m : Nat) (cs : tC) : Prop := xS2 M' tx n q ∧ M'.1 1 4 = 0 ∧ scInv Tx invX M' ∧ (M'.1 23 4).toInt = ((m + cs.length : Nat) : Int) ∧ xlRep M' m cs ∧ xlFr m M M'
def xlBad (M M' : fmM) (k a : Nat) : Prop := (M'.1 1 4).toInt = (k : Int) ∧ (M'.1 1 5).toInt = (a : Int) ∧ k ≠ 0 ∧ scInv Tx invX M' ∧ xlFr 0 M M'
theorem xlFr.refl (m : Nat) (M : fmM) : xlFr m M M := ⟨fun _ _ _ _ _ => rfl, fun _ _ _ _ _ => rfl, fun _ _ _ _ => rfl⟩
theorem xlFr.trans {m m' : Nat} {M M1 M2 : fmM} (h : xlFr m M M1) (h' : xlFr m' M1 M2) (hm : m ≤ m') : xlFr m M M2 := ⟨fun k j a b c => (h'.1 k j a b (by omega)).trans (h.1 k j a b c), fun k j a b c => (h'.2.1 k j a b c).trans (h.2.1 k j a b c), fun j a b c => (h'.2.2 j a b c).trans (h.2.2 j a b c)⟩
theorem xlFr.zero {m : Nat} {M M1 : fmM} (h : xlFr m M M1) : xlFr 0 M M1 := ⟨fun k j a b c => h.1 k j a b (by omega), h.2.1, h.2.2⟩
theorem xlFr.tr0 {m m' : Nat} {M M1 M2 : fmM} (h : xlFr m M M1) (h' : xlFr m' M1 M2) : xlFr 0 M M2 := xlFr.trans h.zero h'.zero (Nat.le_refl _)
theorem xdFr.xl {M M1 : fmM} (h : xdFr M M1) (m : Nat) : xlFr m M M1 := ⟨fun k j a _ _ => (h.1 k j a).1, fun k j a _ _ => (h.1 k j a).2, h.2⟩
theorem xlRep.fr {M M' : fmM} {m m' : Nat} {cs : tC} (h : xlRep M m cs) (hf : xlFr m' M M') (hm : m + cs.length ≤ m') : xlRep M' m cs := fun i c hi => by
  have hl : i < cs.length := (List.getElem?_eq_some_iff.mp hi).1
  rw [hf.1 25 (m + i) (by decide) (by omega) (by omega)]
  exact h i c hi
theorem xlRep.app {M : fmM} {m : Nat} {cs ds : tC} (h : xlRep M m cs) (h' : xlRep M (m + cs.length) ds) : xlRep M m (cs ++ ds) := fun i c hi => by
  by_cases e : i < cs.length
  · rw [List.getElem?_append_left e] at hi
    exact h i c hi
  · rw [List.getElem?_append_right (by omega)] at hi
    have h9 := h' (i - cs.length) c hi
    rw [show m + cs.length + (i - cs.length) = m + i by omega] at h9
    exact h9
theorem xlOk.trans {M M1 M2 : fmM} {tx : tX} {n q1 q2 m : Nat} {cs ds : tC} (h : xlOk M M1 tx n q1 m cs) (h' : xlOk M1 M2 tx n q2 (m + cs.length) ds) : xlOk M M2 tx n q2 m (cs ++ ds) := ⟨h'.1, h'.2.1, h'.2.2.1, by rw [List.length_append, ← Nat.add_assoc]; exact h'.2.2.2.1, (h.2.2.2.2.1.fr h'.2.2.2.2.2 (Nat.le_refl _)).app h'.2.2.2.2.1, h.2.2.2.2.2.trans h'.2.2.2.2.2 (by omega)⟩
theorem xlOk.xd {M M1 M2 : fmM} {tx : tX} {n q1 q2 m : Nat} {cs : tC} (h : xlOk M M1 tx n q1 m cs) (h' : xdOk M1 M2 tx n q2) : xlOk M M2 tx n q2 m cs := ⟨h'.1, h'.2.1, h'.2.2.2, by rw [(h'.2.2.1.1 23 4 (by decide)).1]; exact h.2.2.2.1, h.2.2.2.2.1.fr (h'.2.2.1.xl (m + cs.length)) (Nat.le_refl _), h.2.2.2.2.2.trans (h'.2.2.1.xl m) (Nat.le_refl _)⟩
theorem xlOk.xdb {M M1 M2 : fmM} {tx : tX} {n q1 m k a : Nat} {cs : tC} (h : xlOk M M1 tx n q1 m cs) (h' : xdBad M1 M2 k a) : xlBad M M2 k a := ⟨h'.1, h'.2.1, h'.2.2.1, h'.2.2.2.2, h.2.2.2.2.2.tr0 (h'.2.2.2.1.xl m)⟩
theorem xlOk.bad {M M1 M2 : fmM} {tx : tX} {n q1 m k a : Nat} {cs : tC} (h : xlOk M M1 tx n q1 m cs) (h' : xlBad M1 M2 k a) : xlBad M M2 k a := ⟨h'.1, h'.2.1, h'.2.2.1, h'.2.2.2.1, h.2.2.2.2.2.tr0 h'.2.2.2.2⟩
theorem xlPre.nil {M : fmM} {tx : tX} {n p m : Nat} (h : xlPre M tx n p m) : xlOk M M tx n p m [] := ⟨h.1, h.2.1, h.2.2.1, h.2.2.2.1, fun i c hi => (by cases hi), xlFr.refl m M⟩
theorem xlPre.next {M M1 : fmM} {tx : tX} {n p q m : Nat} {cs : tC} (h : xlPre M tx n p m) (k : xlOk M M1 tx n q m cs) (hq : p + cs.length ≤ q) : xlPre M1 tx n q (m + cs.length) := ⟨k.1, k.2.1, k.2.2.1, k.2.2.2.1, by have := h.2.2.2.2.1; omega, h.2.2.2.2.2⟩
theorem xlPre.xd {M M1 : fmM} {tx : tX} {n p q m : Nat} (h : xlPre M tx n p m) (k : xdOk M M1 tx n q) (hq : p ≤ q) : xlPre M1 tx n q m := by
  have h9 := h.next (h.nil.xd k) (by simpa using hq)
  simpa using h9
theorem xlBad.nz {M M' : fmM} {k a : Nat} (h : xlBad M M' k a) : ¬ M'.1 1 4 = 0 := by
  intro e
  have h1 := h.1
  rw [e] at h1
  have e0 : (0 : Int32).toInt = 0 := by decide
  have := h.2.2.1
  omega
theorem xlBad.go {M M1 M2 : fmM} {k a : Nat} (h : xlBad M M1 k a) (h' : xlFr 0 M1 M2) (e4 : M2.1 1 4 = M1.1 1 4) (e5 : M2.1 1 5 = M1.1 1 5) (hI : scInv Tx invX M2) : xlBad M M2 k a := ⟨by rw [e4]; exact h.1, by rw [e5]; exact h.2.1, h.2.2.1, hI, h.2.2.2.2.tr0 h'⟩
theorem emFr {W : List (Nat × Nat × Nat)} {M M' : fmM} (hW : W = [(23, 4, 1), (25, 0, 150)]) (h : scFr W M M') : xlFr 0 M M' := by
  subst hW
  refine ⟨fun k j a b c => (h k j ?_).1, fun k j a b c => (h k j ?_).2, fun j a b c => (h 1 j rfl).1⟩
  · have e2 : ((25 : Nat) == k) = false := by
      rw [beq_eq_false_iff_ne]
      omega
    by_cases e : k = 23
    · subst e
      have e4 : (Nat.ble 4 j && Nat.blt j (4 + 1)) = false := by
        cases h8 : Nat.ble 4 j with
        | false => rfl
        | true =>
          cases h9 : Nat.blt j (4 + 1) with
          | false => rfl
          | true => exact absurd ⟨rfl, (show j = 4 by have g1 := Nat.le_of_ble_eq_true h8; have g2 : j + 1 ≤ 4 + 1 := Nat.le_of_ble_eq_true h9; omega)⟩ b
      simp only [scIn, List.any_cons, List.any_nil, e2, Bool.false_and, Bool.or_false, Bool.and_assoc, e4, Bool.and_false]
    · have e1 : ((23 : Nat) == k) = false := by
        rw [beq_eq_false_iff_ne]
        omega
      simp [scIn, e1, e2]
  · have e1 : ((23 : Nat) == k) = false := by
      rw [beq_eq_false_iff_ne]
      omega
    have e2 : ((25 : Nat) == k) = false := by
      rw [beq_eq_false_iff_ne]
      omega
    simp [scIn, e1, e2]
def emM (M : fmM) (m : Nat) (x : Int32) : fmM := fmI (fmI M 25 m x) 23 4 (M.1 23 4 + 1)
theorem em_ok {M : fmM} {tx : tX} {n p m : Nat} {x : Int32} {c : Nat × Nat} (h : xS2 M tx n p) (hf : M.1 1 4 = 0) (hI : scInv Tx invX M) (hm : (M.1 23 4).toInt = (m : Int)) (h150 : m < 150) (hx : x.toInt = cdV c) : xlOk M (emM M m x) tx n p m [c] := by
  have e1 : (M.1 23 4 + 1).toInt = ((m + 1 : Nat) : Int) := i32_p1 hm (by omega)
  refine ⟨h.of rfl rfl rfl, hf, ?_, e1, fun i d hi => ?_, fun k j a b c => ?_, fun _ _ _ _ _ => rfl, fun j a b c => ?_⟩
  · refine xInv.put (xInv.put hI (scq_t x)) ⟨?_, ?_⟩
    · show (0 : Int) ≤ _
      omega
    · show _ ≤ (150 : Int)
      omega
  · cases i with
    | succ i => cases hi
    | zero =>
      cases hi
      unfold emM
      rw [fmI_k _ _ (by decide), Nat.add_zero, fmI_s]
      exact hx
  · unfold emM
    rw [fmI_at, if_neg b, fmI_at, if_neg (by omega)]
  · rfl
theorem wl_0 {w : List Int} (h : wdI wsLaw w 0 = none) : ¬ w = lwLeast ∧ ¬ w = lwMost ∧ lwK w = none := by
  simp only [wdI, wsLaw] at h
  repeat' split at h
  all_goals first | (cases h; done) | skip
  rename_i h0 h1 h2 h3 h4 h5 h6
  exact ⟨h5, h6, by unfold lwK; rw [if_neg h0, if_neg h1, if_neg h2, if_neg h3, if_neg h4]⟩
theorem wl_1 {w : List Int} {j : Nat} (h : wdI wsLaw w 0 = some j) (hj : j < 5) : ¬ w = lwLeast ∧ ¬ w = lwMost ∧ lwK w = some j := by
  simp only [wdI, wsLaw] at h
  repeat' split at h
  all_goals first | (injection h with h; subst h; exfalso; omega) | (injection h with h; subst h; rename_i h9; subst h9; exact ⟨by decide, by decide, by decide⟩) | cases h
theorem wl_5 {w : List Int} {j : Nat} (h : wdI wsLaw w 0 = some j) (hj : ¬ j < 5) : (j = 5 ∧ w = lwLeast) ∨ (j = 6 ∧ w = lwMost ∧ ¬ w = lwLeast) := by
  simp only [wdI, wsLaw] at h
  repeat' split at h
  all_goals first | (injection h with h; subst h; exfalso; omega) | (injection h with h; subst h; rename_i h9; exact Or.inl ⟨rfl, h9⟩) | (injection h with h; subst h; rename_i h9; exact Or.inr ⟨rfl, h9, by rw [h9]; decide⟩) | cases h
def spTw (tx : tX) (rc : Nat → tR tC) (q : Nat) : tR tC := spBind (spSign tx 91 q) fun _ q => spBind (rc q) fun cs q => spBind (spSign tx 44 q) fun _ q => spBind (rc q) fun ds q => spBind (spSign tx 93 q) fun _ q => .inr (cs ++ ds, q)
theorem spTw_eq (tx : tX) (rc : Nat → tR tC) (c q : Nat) : spTwo tx rc c q = spBind (spTw tx rc q) fun cs q => .inr (cs ++ [(c, 0)], q) := by
  unfold spTwo spTw spBind
  cases spSign tx 91 q with
  | inl e => rfl
  | inr r =>
    simp only
    cases rc r.2 with
    | inl e => rfl
    | inr r1 =>
      simp only
      cases spSign tx 44 r1.2 with
      | inl e => rfl
      | inr r2 =>
        simp only
        cases rc r2.2 with
        | inl e => rfl
        | inr r3 =>
          simp only
          cases spSign tx 93 r3.2 with
          | inl e => rfl
          | inr r4 => rfl
def xlE (Q : fmR → fmM → Prop) (M : fmM) (tx : tX) (n m : Nat) (r : tR tC) : Prop := (∀ (M' : fmM) (cs : tC) (q : Nat), r = .inr (cs, q) → xlOk M M' tx n q m cs → Q (.inl (some (.int 1))) M') ∧ ∀ (M' : fmM) (k a : Nat), r = .inl (k, a) → xlBad M M' k a → Q (.inl (some (.int 0))) M'
def xlG (tx : tX) (n f md : Nat) : Prop := ∀ (o p m : Nat) (M : fmM) (Q : fmR → fmM → Prop) (op : Int32), xlPre M tx n p m → op.toInt = (o : Int) → o ≤ 6 → ¬ spL tx f md o p = .inl (9, 0) → xlE Q M tx n m (spL tx f md o p) → match md with
  | 0 => pvGood Tx (8 + 4 * (6 - o)) qX1_readSum [.ref 23, .ref 1, .int op] M Q
  | 1 => pvGood Tx (7 + 4 * (6 - o)) qX1_readProduct [.ref 23, .ref 1, .int op] M Q
  | 2 => pvGood Tx (6 + 4 * (6 - o)) qX1_readUnit [.ref 23, .ref 1, .int op] M Q
  | 3 => ∀ (i : Nat) (ii : Int32) (v5 : Option Value), ii.toInt = (i : Int) → i ≤ p → pvEv Tx (8 + 4 * (6 - o)) qX1_readSum 10 [some (.ref 23), some (.ref 1), some (.int op), some (.int 1), some (.int ii), v5] [] M Q
  | _ => ∀ (i : Nat) (ii : Int32) (v5 : Option Value), ii.toInt = (i : Int) → i ≤ p → pvEv Tx (7 + 4 * (6 - o)) qX1_readProduct 10 [some (.ref 23), some (.ref 1), some (.int op), some (.int 1), some (.int ii), v5] [] M Q
theorem place1 {M : fmM} {tx : tX} {n a : Nat} (hS : xS2 M tx n a) (hf : M.1 1 4 = 0) (hI : scInv Tx invX M) (ha : ¬ tx a = -1) : xdOk M (fmI M 1 3 (M.1 1 3 + 1)) tx n (a + 1) := by
  have hlt : a < n := by
    have := hS.2.2.1
    by_cases e : a = n
    · exact absurd (hS.2.2.2.1.2.1 a (by omega)) ha
    · omega
  exact xdOk.at hS hf hI (i32_p1 hS.2.1 (by have := hS.2.2.2.1.1; omega)) hlt
theorem s_emit {M : fmM} {Q : fmR → fmM → Prop} {x1 : Int32} (bx1 : (-2147483648) ≤ x1.toInt ∧ x1.toInt ≤ 2147483647) (hI : scInv Tx invX M) (q0 : ∀ M' : fmM, scInv Tx invX M' → scFr [(23, 4, 1), (25, 0, 150)] M M' → Q (.inl none) M') : pvGood Tx 0 qX1_emit [.ref 23, .int x1] M Q := (hh_X1_emit_0 M [x1.toInt] [.ref 23, .int x1] (scEk.c1 bx1 scEk.n0) ⟨⟨23, by simp, rfl⟩, ⟨x1, rfl, scEv.at rfl⟩, trivial⟩ (fun f hf => by cases hf) hI).imp (fun r M' h => by
  obtain ⟨⟨o, ho, hr, hf9, hm⟩, h1, h2⟩ := h
  rcases List.mem_cons.mp ho with rfl | ho
  · have hr : r = .inl none := hr; subst hr; exact q0 M' h1 h2
  · cases ho)
set_option maxRecDepth 20000 in
theorem c_emit {M : fmM} {Q : fmR → fmM → Prop} {x : Int32} {m : Nat} (hm : (M.1 23 4).toInt = (m : Int)) (h150 : m < 150) (hq : Q (.inl none) (emM M m x)) : pvGood Tx 0 qX1_emit [.ref 23, .int x] M Q := by
  refine pvGood_of (Nat.le_of_ble_eq_true rfl) ?_
  show pvEv Tx 0 qX1_emit 0 [some (.ref 23), some (.int x)] [] M Q
  refine pv_aloadn (pc := 0) (n := 0) 0 rfl rfl (fm_dec dtX1_emit 0 rfl) ?_
  refine pv_getI (k := 23) (j := 4) (ci := 1) (pc := 1) pfl_X1_28 (by decide) rfl (by decide) (fm_dec dtX1_emit 1 rfl) ?_
  refine pv_sipush (pc := 4) (v := 150) (by decide) (fm_dec dtX1_emit 2 rfl) ?_
  refine pv_icmp_ge (pc := 7) 30 (by decide) (fm_dec dtX1_emit 3 rfl) (fun hc7 => by exfalso; rw [sc_le] at hc7; have h9 : (150 : Int32).toInt = 150 := (by decide); omega) (fun _ => ?_)
  refine pv_aloadn (pc := 10) (n := 0) 0 rfl rfl (fm_dec dtX1_emit 4 rfl) ?_
  refine pv_getR (k := 23) (j := 1) (ci := 1) (pc := 11) 25 rfl (by decide) pfl_X1_15 (by decide) rfl (by decide) (fm_dec dtX1_emit 5 rfl) ?_
  refine pv_aloadn (pc := 14) (n := 0) 0 rfl rfl (fm_dec dtX1_emit 6 rfl) ?_
  refine pv_getI (k := 23) (j := 4) (ci := 1) (pc := 15) pfl_X1_28 (by decide) rfl (by decide) (fm_dec dtX1_emit 7 rfl) ?_
  refine pv_iloadn (pc := 18) (n := 1) 1 rfl rfl (fm_dec dtX1_emit 8 rfl) ?_
  refine pv_iast (k := 25) (n := 150) (pc := 19) (by decide) rfl rfl (ix_in hm h150) (fm_dec dtX1_emit 9 rfl) ?_
  rw [i32_cl hm]
  refine pv_aloadn (pc := 20) (n := 0) 0 rfl rfl (fm_dec dtX1_emit 10 rfl) ?_
  refine pv_dup (pc := 21) rfl (fm_dec dtX1_emit 11 rfl) ?_
  refine pv_getI (k := 23) (j := 4) (ci := 1) (pc := 22) pfl_X1_28 (by decide) rfl (by decide) (fm_dec dtX1_emit 12 rfl) ?_
  refine pv_iconst (pc := 25) (v := 1) (by decide) (fm_dec dtX1_emit 13 rfl) ?_
  refine pv_iadd (pc := 26) (fm_dec dtX1_emit 14 rfl) ?_
  refine pv_putI (k := 23) (j := 4) (ci := 1) (pc := 27) pfl_X1_28 (by decide) rfl (by decide) (fm_dec dtX1_emit 15 rfl) ?_
  exact pv_return (pc := 30) rfl (fm_dec dtX1_emit 16 rfl) hq
set_option maxRecDepth 20000 in
theorem xo_readSum {Q : fmR → fmM → Prop} {M : fmM} {o : Nat} {op ii : Int32} {v5 : Option Value} (hq : Q (.inl (some (.int 0))) M) : pvEv Tx (8 + 4 * (6 - o)) qX1_readSum 10 [some (.ref 23), some (.ref 1), some (.int op), some (.int 0), some (.int ii), v5] [] M Q := by
  refine pv_iload (pc := 10) (i := 4) rfl (fm_dec dtX1_readSum 7 rfl) ?_
  refine pv_sipush (pc := 12) (v := 150) (by decide) (fm_dec dtX1_readSum 8 rfl) ?_
  refine pv_icmp_ge (pc := 15) 85 (by decide) (fm_dec dtX1_readSum 9 rfl) (fun hc15 => ?_) (fun hc15 => ?_)
  · refine pv_iloadn (pc := 85) (n := 3) 3 rfl rfl (fm_dec dtX1_readSum 44 rfl) ?_
    exact pv_zreturn (pc := 86) rfl (by first | exact Or.inr rfl | exact Or.inl rfl) (fm_dec dtX1_readSum 45 rfl) hq
  · refine pv_iloadn (pc := 18) (n := 3) 3 rfl rfl (fm_dec dtX1_readSum 10 rfl) ?_
    refine pv_if_eq (pc := 19) 85 (by decide) (fm_dec dtX1_readSum 11 rfl) (fun _ => ?_) (fun hc19 => by exfalso; revert hc19; decide)
    refine pv_iloadn (pc := 85) (n := 3) 3 rfl rfl (fm_dec dtX1_readSum 44 rfl) ?_
    exact pv_zreturn (pc := 86) rfl (by first | exact Or.inr rfl | exact Or.inl rfl) (fm_dec dtX1_readSum 45 rfl) hq
set_option maxRecDepth 20000 in
theorem xl_readSum0 {tx : tX} {n f : Nat} (h1 : xlG tx n f 1) (h3 : xlG tx n f 3) : xlG tx n (f + 1) 0 := by
  intro o p m M Q op hP ho ho6 hne hE
  refine pvGood_of (Nat.le_of_ble_eq_true rfl) ?_
  show pvEv Tx (8 + 4 * (6 - o)) qX1_readSum 0 [some (.ref 23), some (.ref 1), some (.int op), none, none, none] [] M Q
  refine pv_aloadn (pc := 0) (n := 0) 0 rfl rfl (fm_dec dtX1_readSum 0 rfl) ?_
  refine pv_aloadn (pc := 1) (n := 1) 1 rfl rfl (fm_dec dtX1_readSum 1 rfl) ?_
  refine pv_iloadn (pc := 2) (n := 2) 2 rfl rfl (fm_dec dtX1_readSum 2 rfl) ?_
  refine pv_invV2 (k := 23) (d' := (7 + 4 * (6 - o))) (pc := 3) pcv_X1_54 (by decide) rfl (Nat.le_of_ble_eq_true rfl) (by omega) (fm_dec dtX1_readSum 3 rfl) ?_
  refine h1 o p m M _ op hP ho ho6 (spBind_ne hne) ⟨fun M1 cs1 q1 e1 k1 => ?_, fun M1 kb ab eb hB => ?_⟩  
  · refine pv_then1 ?_
    refine pv_istoren (pc := 6) (n := 3) 3 rfl (by decide) rfl (fm_dec dtX1_readSum 4 rfl) ?_
    dsimp only [List.set_cons_zero, List.set_cons_succ]
    refine pv_iconst (pc := 7) (v := 0) (by decide) (fm_dec dtX1_readSum 5 rfl) ?_
    refine pv_istore (pc := 8) (i := 4) (by decide) rfl (fm_dec dtX1_readSum 6 rfl) ?_
    dsimp only [List.set_cons_zero, List.set_cons_succ]
    have l1 := spL_len hP.1.2.2.2.1 _ _ _ _ _ _ hP.1.2.2.1 e1
    exact h3 o q1 (m + cs1.length) M1 Q op (hP.next k1 l1.1) ho ho6 (spBind_ne (spBind_ne2 hne e1)) ⟨fun M2 ds q2 e2 k2 => hE.1 M2 _ q2 (spApp_ok e1 e2) (k1.trans k2), fun M2 k a e2 k2 => hE.2 M2 k a (spApp_b2 e1 e2) (k1.bad k2)⟩ 0 0 none (by decide) (Nat.zero_le _)
  · refine pv_then1 ?_
    refine pv_istoren (pc := 6) (n := 3) 3 rfl (by decide) rfl (fm_dec dtX1_readSum 4 rfl) ?_
    dsimp only [List.set_cons_zero, List.set_cons_succ]
    refine pv_iconst (pc := 7) (v := 0) (by decide) (fm_dec dtX1_readSum 5 rfl) ?_
    refine pv_istore (pc := 8) (i := 4) (by decide) rfl (fm_dec dtX1_readSum 6 rfl) ?_
    dsimp only [List.set_cons_zero, List.set_cons_succ]
    exact xo_readSum (hE.2 M1 kb ab (spApp_b1 eb) hB)
set_option maxRecDepth 20000 in
theorem xl_readSum3 {tx : tX} {n f : Nat} (h1 : xlG tx n f 1) (h3 : xlG tx n f 3) : xlG tx n (f + 1) 3 := by
  intro o p m M Q op hP ho ho6 hne hE i ii v5 hi hip
  show pvEv Tx (8 + 4 * (6 - o)) qX1_readSum 10 [some (.ref 23), some (.ref 1), some (.int op), some (.int 1), some (.int ii), v5] [] M Q
  refine pv_iload (pc := 10) (i := 4) rfl (fm_dec dtX1_readSum 7 rfl) ?_
  refine pv_sipush (pc := 12) (v := 150) (by decide) (fm_dec dtX1_readSum 8 rfl) ?_
  refine pv_icmp_ge (pc := 15) 85 (by decide) (fm_dec dtX1_readSum 9 rfl) (fun hc15 => ?_) (fun hc15 => ?_)
  · refine pv_iloadn (pc := 85) (n := 3) 3 rfl rfl (fm_dec dtX1_readSum 44 rfl) ?_
    exact pv_zreturn (pc := 86) rfl (by first | exact Or.inr rfl | exact Or.inl rfl) (fm_dec dtX1_readSum 45 rfl) (by have hp9 : p = n := (by rw [sc_le] at hc15; have h9 : (150 : Int32).toInt = 150 := (by decide); have := hP.1.2.2.1; have := hP.2.2.2.2.2; omega); have hm1 : tx p = -1 := hP.1.2.2.2.1.2.1 p (by omega); have hs9 : sk tx p = p := (by unfold sk; rw [sp_f (by rw [hm1]; exact tB_1)]); exact hE.1 M [] p ((if_neg (by rw [hs9, hm1]; decide)).trans ((if_neg (by rw [hs9, hm1]; decide)).trans (by rw [hs9]))) hP.nil)
  · refine pv_iloadn (pc := 18) (n := 3) 3 rfl rfl (fm_dec dtX1_readSum 10 rfl) ?_
    refine pv_if_eq (pc := 19) 85 (by decide) (fm_dec dtX1_readSum 11 rfl) (fun hc19 => by exfalso; revert hc19; decide) (fun _ => ?_)
    refine pv_aloadn (pc := 22) (n := 1) 1 rfl rfl (fm_dec dtX1_readSum 12 rfl) ?_
    refine pv_invV0 (k := 1) (d' := 0) (pc := 23) pcv_X1_35 (by decide) rfl (Nat.le_of_ble_eq_true rfl) (by omega) (fm_dec dtX1_readSum 13 rfl) ?_
    refine x_peek hP.1 hP.2.1 hP.2.2.1 (fun M23 v23 hv23 k23 => ?_)
    refine pv_then1 ?_
    refine pv_istore (pc := 26) (i := 5) (by decide) rfl (fm_dec dtX1_readSum 14 rfl) ?_
    dsimp only [List.set_cons_zero, List.set_cons_succ]
    refine pv_iload (pc := 28) (i := 5) rfl (fm_dec dtX1_readSum 15 rfl) ?_
    refine pv_bipush (pc := 30) (v := 43) (by decide) (fm_dec dtX1_readSum 16 rfl) ?_
    refine pv_icmp_eq (pc := 32) 44 (by decide) (fm_dec dtX1_readSum 17 rfl) (fun hc32 => ?_) (fun hc32 => ?_)
    · have t43 : tx (sk tx p) = 43 := (by rw [← hv23, hc32]; decide)
      have k44 := place1 k23.1 k23.2.1 k23.2.2.2 (by rw [t43]; decide)
      have hsk : p ≤ sk tx p := sp_ge p
      have hP57 := (hP.xd k23 hsk).xd k44 (Nat.le_succ _)
      have ne57 : ¬ spOp 2 (spL tx f 1 o (sk tx p + 1)) (fun q => spL tx f 3 o q) = .inl (9, 0) := fun h9 => hne ((if_pos t43).trans h9)
      refine pv_aloadn (pc := 44) (n := 1) 1 rfl rfl (fm_dec dtX1_readSum 23 rfl) ?_
      refine pv_dup (pc := 45) rfl (fm_dec dtX1_readSum 24 rfl) ?_
      refine pv_getI (k := 1) (j := 3) (ci := 7) (pc := 46) pfl_X1_41 (by decide) rfl (by decide) (fm_dec dtX1_readSum 25 rfl) ?_
      refine pv_iconst (pc := 49) (v := 1) (by decide) (fm_dec dtX1_readSum 26 rfl) ?_
      refine pv_iadd (pc := 50) (fm_dec dtX1_readSum 27 rfl) ?_
      refine pv_putI (k := 1) (j := 3) (ci := 7) (pc := 51) pfl_X1_41 (by decide) rfl (by decide) (fm_dec dtX1_readSum 28 rfl) ?_
      refine pv_aloadn (pc := 54) (n := 0) 0 rfl rfl (fm_dec dtX1_readSum 29 rfl) ?_
      refine pv_aloadn (pc := 55) (n := 1) 1 rfl rfl (fm_dec dtX1_readSum 30 rfl) ?_
      refine pv_iloadn (pc := 56) (n := 2) 2 rfl rfl (fm_dec dtX1_readSum 31 rfl) ?_
      refine pv_invV2 (k := 23) (d' := (7 + 4 * (6 - o))) (pc := 57) pcv_X1_54 (by decide) rfl (Nat.le_of_ble_eq_true rfl) (by omega) (fm_dec dtX1_readSum 32 rfl) ?_
      refine h1 o (sk tx p + 1) m _ _ op hP57 ho ho6 (spBind_ne ne57) ⟨fun M57 c57 q57 e57 k57 => ?_, fun M57 kb ab eb hB => ?_⟩  
      · refine pv_then1 ?_
        have l57 := spL_len hP.1.2.2.2.1 _ _ _ _ _ _ hP57.1.2.2.1 e57
        have hP61 := hP57.next k57 l57.1
        have m57 : m + c57.length < 150 := (by have := l57.2.1; have := hP.2.2.2.2.2; have := hP.2.2.2.2.1; have := l57.1; omega)
        have k76 := em_ok (x := (-8)) (c := (2, 0)) k57.1 k57.2.1 k57.2.2.1 hP61.2.2.2.1 m57 (by decide)
        refine pv_istoren (pc := 60) (n := 3) 3 rfl (by decide) rfl (fm_dec dtX1_readSum 33 rfl) ?_
        dsimp only [List.set_cons_zero, List.set_cons_succ]
        refine pv_aloadn (pc := 61) (n := 0) 0 rfl rfl (fm_dec dtX1_readSum 34 rfl) ?_
        refine pv_iload (pc := 62) (i := 5) rfl (fm_dec dtX1_readSum 35 rfl) ?_
        refine pv_bipush (pc := 64) (v := 43) (by decide) (fm_dec dtX1_readSum 36 rfl) ?_
        refine pv_icmp_ne (pc := 66) 74 (by decide) (fm_dec dtX1_readSum 37 rfl) (fun hc66 => by exfalso; exact hc66 hc32) (fun _ => ?_)
        refine pv_bipush (pc := 69) (v := (-8)) (by decide) (fm_dec dtX1_readSum 38 rfl) ?_
        refine pv_goto (pc := 71) 76 (by decide) (fm_dec dtX1_readSum 39 rfl) ?_
        refine pv_invV1 (k := 23) (d' := 0) (pc := 76) pcv_X1_57 (by decide) rfl (Nat.le_of_ble_eq_true rfl) (by omega) (fm_dec dtX1_readSum 41 rfl) ?_
        refine c_emit hP61.2.2.2.1 m57 ?_ 
        refine pv_then0 ?_
        refine pv_iincc (pc := 79) 4 1 (by decide) rfl (by decide) rfl (fm_dec dtX1_readSum 42 rfl) ?_
        dsimp only [List.set_cons_zero, List.set_cons_succ]
        refine pv_goto (pc := 82) 10 (by decide) (fm_dec dtX1_readSum 43 rfl) ?_
        have hP9 : xlPre (emM M57 (m + c57.length) (-8)) tx n q57 (m + (c57.length + 1)) := ⟨k76.1, k76.2.1, k76.2.2.1, (by have h9 := k76.2.2.2.1; simpa [Nat.add_assoc] using h9), (by have := hP.2.2.2.2.1; have := l57.1; omega), hP.2.2.2.2.2⟩
        have kA : xlOk M M57 tx n q57 m c57 := (by have h9 := ((hP.nil.xd k23).xd k44).trans (by simpa using k57); simpa using h9)
        have kB : xlOk M (emM M57 (m + c57.length) (-8)) tx n q57 m (c57 ++ [(2, 0)]) := kA.trans k76
        have ne9 := spBind_ne (spBind_ne2 ne57 e57)
        exact h3 o q57 (m + (c57.length + 1)) _ Q op hP9 ho ho6 ne9 ⟨fun M2 ds q2 e2 k2 => hE.1 M2 _ q2 ((if_pos t43).trans (spOp_ok e57 e2)) (by have h9 := kB.trans (ds := ds) (by simpa [Nat.add_assoc] using k2); simpa using h9), fun M2 k a e2 k2 => hE.2 M2 k a ((if_pos t43).trans (spOp_b2 e57 e2)) (kB.bad k2)⟩ (i + 1) _ _ (i32_p1 hi (by have h150 := hP9.2.2.2.2.2; omega)) (by have := l57.1; omega)
      · refine pv_then1 ?_
        refine pv_istoren (pc := 60) (n := 3) 3 rfl (by decide) rfl (fm_dec dtX1_readSum 33 rfl) ?_
        dsimp only [List.set_cons_zero, List.set_cons_succ]
        refine pv_aloadn (pc := 61) (n := 0) 0 rfl rfl (fm_dec dtX1_readSum 34 rfl) ?_
        refine pv_iload (pc := 62) (i := 5) rfl (fm_dec dtX1_readSum 35 rfl) ?_
        refine pv_bipush (pc := 64) (v := 43) (by decide) (fm_dec dtX1_readSum 36 rfl) ?_
        refine pv_icmp_ne (pc := 66) 74 (by decide) (fm_dec dtX1_readSum 37 rfl) (fun hc66 => by exfalso; exact hc66 hc32) (fun _ => ?_)
        refine pv_bipush (pc := 69) (v := (-8)) (by decide) (fm_dec dtX1_readSum 38 rfl) ?_
        refine pv_goto (pc := 71) 76 (by decide) (fm_dec dtX1_readSum 39 rfl) ?_
        refine pv_invV1 (k := 23) (d' := 0) (pc := 76) pcv_X1_57 (by decide) rfl (Nat.le_of_ble_eq_true rfl) (by omega) (fm_dec dtX1_readSum 41 rfl) ?_
        refine s_emit (scq_t _) hB.2.2.2.1 (fun M76 hI76 f76 => ?_)
        refine pv_then0 ?_
        refine pv_iincc (pc := 79) 4 1 (by decide) rfl (by decide) rfl (fm_dec dtX1_readSum 42 rfl) ?_
        dsimp only [List.set_cons_zero, List.set_cons_succ]
        refine pv_goto (pc := 82) 10 (by decide) (fm_dec dtX1_readSum 43 rfl) ?_
        exact xo_readSum (hE.2 _ kb ab ((if_pos t43).trans (spOp_b1 eb)) (((hP.nil.xd k23).xd k44).bad (hB.go (emFr rfl f76) (f76 1 4 rfl).1 (f76 1 5 rfl).1 hI76)))
    · refine pv_iload (pc := 35) (i := 5) rfl (fm_dec dtX1_readSum 18 rfl) ?_
      refine pv_bipush (pc := 37) (v := 45) (by decide) (fm_dec dtX1_readSum 19 rfl) ?_
      refine pv_icmp_eq (pc := 39) 44 (by decide) (fm_dec dtX1_readSum 20 rfl) (fun hc39 => ?_) (fun hc39 => ?_)
      · have t43n : ¬ tx (sk tx p) = 43 := (fun h9 => hc32 (i32_ext (hv23.trans (h9.trans (by decide)))))
        have t45 : tx (sk tx p) = 45 := (by rw [← hv23, hc39]; decide)
        have k44 := place1 k23.1 k23.2.1 k23.2.2.2 (by rw [t45]; decide)
        have hsk : p ≤ sk tx p := sp_ge p
        have hP57 := (hP.xd k23 hsk).xd k44 (Nat.le_succ _)
        have ne57 : ¬ spOp 3 (spL tx f 1 o (sk tx p + 1)) (fun q => spL tx f 3 o q) = .inl (9, 0) := fun h9 => hne (((if_neg t43n).trans (if_pos t45)).trans h9)
        refine pv_aloadn (pc := 44) (n := 1) 1 rfl rfl (fm_dec dtX1_readSum 23 rfl) ?_
        refine pv_dup (pc := 45) rfl (fm_dec dtX1_readSum 24 rfl) ?_
        refine pv_getI (k := 1) (j := 3) (ci := 7) (pc := 46) pfl_X1_41 (by decide) rfl (by decide) (fm_dec dtX1_readSum 25 rfl) ?_
        refine pv_iconst (pc := 49) (v := 1) (by decide) (fm_dec dtX1_readSum 26 rfl) ?_
        refine pv_iadd (pc := 50) (fm_dec dtX1_readSum 27 rfl) ?_
        refine pv_putI (k := 1) (j := 3) (ci := 7) (pc := 51) pfl_X1_41 (by decide) rfl (by decide) (fm_dec dtX1_readSum 28 rfl) ?_
        refine pv_aloadn (pc := 54) (n := 0) 0 rfl rfl (fm_dec dtX1_readSum 29 rfl) ?_
        refine pv_aloadn (pc := 55) (n := 1) 1 rfl rfl (fm_dec dtX1_readSum 30 rfl) ?_
        refine pv_iloadn (pc := 56) (n := 2) 2 rfl rfl (fm_dec dtX1_readSum 31 rfl) ?_
        refine pv_invV2 (k := 23) (d' := (7 + 4 * (6 - o))) (pc := 57) pcv_X1_54 (by decide) rfl (Nat.le_of_ble_eq_true rfl) (by omega) (fm_dec dtX1_readSum 32 rfl) ?_
        refine h1 o (sk tx p + 1) m _ _ op hP57 ho ho6 (spBind_ne ne57) ⟨fun M57 c57 q57 e57 k57 => ?_, fun M57 kb ab eb hB => ?_⟩  
        · refine pv_then1 ?_
          have l57 := spL_len hP.1.2.2.2.1 _ _ _ _ _ _ hP57.1.2.2.1 e57
          have hP61 := hP57.next k57 l57.1
          have m57 : m + c57.length < 150 := (by have := l57.2.1; have := hP.2.2.2.2.2; have := hP.2.2.2.2.1; have := l57.1; omega)
          have k76 := em_ok (x := (-9)) (c := (3, 0)) k57.1 k57.2.1 k57.2.2.1 hP61.2.2.2.1 m57 (by decide)
          refine pv_istoren (pc := 60) (n := 3) 3 rfl (by decide) rfl (fm_dec dtX1_readSum 33 rfl) ?_
          dsimp only [List.set_cons_zero, List.set_cons_succ]
          refine pv_aloadn (pc := 61) (n := 0) 0 rfl rfl (fm_dec dtX1_readSum 34 rfl) ?_
          refine pv_iload (pc := 62) (i := 5) rfl (fm_dec dtX1_readSum 35 rfl) ?_
          refine pv_bipush (pc := 64) (v := 43) (by decide) (fm_dec dtX1_readSum 36 rfl) ?_
          refine pv_icmp_ne (pc := 66) 74 (by decide) (fm_dec dtX1_readSum 37 rfl) (fun _ => ?_) (fun hc66 => by exfalso; exact hc32 hc66)
          refine pv_bipush (pc := 74) (v := (-9)) (by decide) (fm_dec dtX1_readSum 40 rfl) ?_
          refine pv_invV1 (k := 23) (d' := 0) (pc := 76) pcv_X1_57 (by decide) rfl (Nat.le_of_ble_eq_true rfl) (by omega) (fm_dec dtX1_readSum 41 rfl) ?_
          refine c_emit hP61.2.2.2.1 m57 ?_ 
          refine pv_then0 ?_
          refine pv_iincc (pc := 79) 4 1 (by decide) rfl (by decide) rfl (fm_dec dtX1_readSum 42 rfl) ?_
          dsimp only [List.set_cons_zero, List.set_cons_succ]
          refine pv_goto (pc := 82) 10 (by decide) (fm_dec dtX1_readSum 43 rfl) ?_
          have hP9 : xlPre (emM M57 (m + c57.length) (-9)) tx n q57 (m + (c57.length + 1)) := ⟨k76.1, k76.2.1, k76.2.2.1, (by have h9 := k76.2.2.2.1; simpa [Nat.add_assoc] using h9), (by have := hP.2.2.2.2.1; have := l57.1; omega), hP.2.2.2.2.2⟩
          have kA : xlOk M M57 tx n q57 m c57 := (by have h9 := ((hP.nil.xd k23).xd k44).trans (by simpa using k57); simpa using h9)
          have kB : xlOk M (emM M57 (m + c57.length) (-9)) tx n q57 m (c57 ++ [(3, 0)]) := kA.trans k76
          have ne9 := spBind_ne (spBind_ne2 ne57 e57)
          exact h3 o q57 (m + (c57.length + 1)) _ Q op hP9 ho ho6 ne9 ⟨fun M2 ds q2 e2 k2 => hE.1 M2 _ q2 (((if_neg t43n).trans (if_pos t45)).trans (spOp_ok e57 e2)) (by have h9 := kB.trans (ds := ds) (by simpa [Nat.add_assoc] using k2); simpa using h9), fun M2 k a e2 k2 => hE.2 M2 k a (((if_neg t43n).trans (if_pos t45)).trans (spOp_b2 e57 e2)) (kB.bad k2)⟩ (i + 1) _ _ (i32_p1 hi (by have h150 := hP9.2.2.2.2.2; omega)) (by have := l57.1; omega)
        · refine pv_then1 ?_
          refine pv_istoren (pc := 60) (n := 3) 3 rfl (by decide) rfl (fm_dec dtX1_readSum 33 rfl) ?_
          dsimp only [List.set_cons_zero, List.set_cons_succ]
          refine pv_aloadn (pc := 61) (n := 0) 0 rfl rfl (fm_dec dtX1_readSum 34 rfl) ?_
          refine pv_iload (pc := 62) (i := 5) rfl (fm_dec dtX1_readSum 35 rfl) ?_
          refine pv_bipush (pc := 64) (v := 43) (by decide) (fm_dec dtX1_readSum 36 rfl) ?_
          refine pv_icmp_ne (pc := 66) 74 (by decide) (fm_dec dtX1_readSum 37 rfl) (fun _ => ?_) (fun hc66 => by exfalso; exact hc32 hc66)
          refine pv_bipush (pc := 74) (v := (-9)) (by decide) (fm_dec dtX1_readSum 40 rfl) ?_
          refine pv_invV1 (k := 23) (d' := 0) (pc := 76) pcv_X1_57 (by decide) rfl (Nat.le_of_ble_eq_true rfl) (by omega) (fm_dec dtX1_readSum 41 rfl) ?_
          refine s_emit (scq_t _) hB.2.2.2.1 (fun M76 hI76 f76 => ?_)
          refine pv_then0 ?_
          refine pv_iincc (pc := 79) 4 1 (by decide) rfl (by decide) rfl (fm_dec dtX1_readSum 42 rfl) ?_
          dsimp only [List.set_cons_zero, List.set_cons_succ]
          refine pv_goto (pc := 82) 10 (by decide) (fm_dec dtX1_readSum 43 rfl) ?_
          exact xo_readSum (hE.2 _ kb ab (((if_neg t43n).trans (if_pos t45)).trans (spOp_b1 eb)) (((hP.nil.xd k23).xd k44).bad (hB.go (emFr rfl f76) (f76 1 4 rfl).1 (f76 1 5 rfl).1 hI76)))
      · refine pv_iconst (pc := 42) (v := 1) (by decide) (fm_dec dtX1_readSum 21 rfl) ?_
        exact pv_zreturn (pc := 43) rfl (by first | exact Or.inr rfl | exact Or.inl rfl) (fm_dec dtX1_readSum 22 rfl) (hE.1 M23 [] (sk tx p) ((if_neg (fun h9 => hc32 (i32_ext (hv23.trans (h9.trans (by decide)))))).trans (if_neg (fun h9 => hc39 (i32_ext (hv23.trans (h9.trans (by decide))))))) (hP.nil.xd k23))
set_option maxRecDepth 20000 in
theorem xo_readProduct {Q : fmR → fmM → Prop} {M : fmM} {o : Nat} {op ii : Int32} {v5 : Option Value} (hq : Q (.inl (some (.int 0))) M) : pvEv Tx (7 + 4 * (6 - o)) qX1_readProduct 10 [some (.ref 23), some (.ref 1), some (.int op), some (.int 0), some (.int ii), v5] [] M Q := by
  refine pv_iload (pc := 10) (i := 4) rfl (fm_dec dtX1_readProduct 7 rfl) ?_
  refine pv_sipush (pc := 12) (v := 150) (by decide) (fm_dec dtX1_readProduct 8 rfl) ?_
  refine pv_icmp_ge (pc := 15) 85 (by decide) (fm_dec dtX1_readProduct 9 rfl) (fun hc15 => ?_) (fun hc15 => ?_)
  · refine pv_iloadn (pc := 85) (n := 3) 3 rfl rfl (fm_dec dtX1_readProduct 44 rfl) ?_
    exact pv_zreturn (pc := 86) rfl (by first | exact Or.inr rfl | exact Or.inl rfl) (fm_dec dtX1_readProduct 45 rfl) hq
  · refine pv_iloadn (pc := 18) (n := 3) 3 rfl rfl (fm_dec dtX1_readProduct 10 rfl) ?_
    refine pv_if_eq (pc := 19) 85 (by decide) (fm_dec dtX1_readProduct 11 rfl) (fun _ => ?_) (fun hc19 => by exfalso; revert hc19; decide)
    refine pv_iloadn (pc := 85) (n := 3) 3 rfl rfl (fm_dec dtX1_readProduct 44 rfl) ?_
    exact pv_zreturn (pc := 86) rfl (by first | exact Or.inr rfl | exact Or.inl rfl) (fm_dec dtX1_readProduct 45 rfl) hq
set_option maxRecDepth 20000 in
theorem xl_readProduct0 {tx : tX} {n f : Nat} (h1 : xlG tx n f 2) (h3 : xlG tx n f 4) : xlG tx n (f + 1) 1 := by
  intro o p m M Q op hP ho ho6 hne hE
  refine pvGood_of (Nat.le_of_ble_eq_true rfl) ?_
  show pvEv Tx (7 + 4 * (6 - o)) qX1_readProduct 0 [some (.ref 23), some (.ref 1), some (.int op), none, none, none] [] M Q
  refine pv_aloadn (pc := 0) (n := 0) 0 rfl rfl (fm_dec dtX1_readProduct 0 rfl) ?_
  refine pv_aloadn (pc := 1) (n := 1) 1 rfl rfl (fm_dec dtX1_readProduct 1 rfl) ?_
  refine pv_iloadn (pc := 2) (n := 2) 2 rfl rfl (fm_dec dtX1_readProduct 2 rfl) ?_
  refine pv_invV2 (k := 23) (d' := (6 + 4 * (6 - o))) (pc := 3) pcv_X1_61 (by decide) rfl (Nat.le_of_ble_eq_true rfl) (by omega) (fm_dec dtX1_readProduct 3 rfl) ?_
  refine h1 o p m M _ op hP ho ho6 (spBind_ne hne) ⟨fun M1 cs1 q1 e1 k1 => ?_, fun M1 kb ab eb hB => ?_⟩  
  · refine pv_then1 ?_
    refine pv_istoren (pc := 6) (n := 3) 3 rfl (by decide) rfl (fm_dec dtX1_readProduct 4 rfl) ?_
    dsimp only [List.set_cons_zero, List.set_cons_succ]
    refine pv_iconst (pc := 7) (v := 0) (by decide) (fm_dec dtX1_readProduct 5 rfl) ?_
    refine pv_istore (pc := 8) (i := 4) (by decide) rfl (fm_dec dtX1_readProduct 6 rfl) ?_
    dsimp only [List.set_cons_zero, List.set_cons_succ]
    have l1 := spL_len hP.1.2.2.2.1 _ _ _ _ _ _ hP.1.2.2.1 e1
    exact h3 o q1 (m + cs1.length) M1 Q op (hP.next k1 l1.1) ho ho6 (spBind_ne (spBind_ne2 hne e1)) ⟨fun M2 ds q2 e2 k2 => hE.1 M2 _ q2 (spApp_ok e1 e2) (k1.trans k2), fun M2 k a e2 k2 => hE.2 M2 k a (spApp_b2 e1 e2) (k1.bad k2)⟩ 0 0 none (by decide) (Nat.zero_le _)
  · refine pv_then1 ?_
    refine pv_istoren (pc := 6) (n := 3) 3 rfl (by decide) rfl (fm_dec dtX1_readProduct 4 rfl) ?_
    dsimp only [List.set_cons_zero, List.set_cons_succ]
    refine pv_iconst (pc := 7) (v := 0) (by decide) (fm_dec dtX1_readProduct 5 rfl) ?_
    refine pv_istore (pc := 8) (i := 4) (by decide) rfl (fm_dec dtX1_readProduct 6 rfl) ?_
    dsimp only [List.set_cons_zero, List.set_cons_succ]
    exact xo_readProduct (hE.2 M1 kb ab (spApp_b1 eb) hB)
set_option maxRecDepth 20000 in
theorem xl_readProduct3 {tx : tX} {n f : Nat} (h1 : xlG tx n f 2) (h3 : xlG tx n f 4) : xlG tx n (f + 1) 4 := by
  intro o p m M Q op hP ho ho6 hne hE i ii v5 hi hip
  show pvEv Tx (7 + 4 * (6 - o)) qX1_readProduct 10 [some (.ref 23), some (.ref 1), some (.int op), some (.int 1), some (.int ii), v5] [] M Q
  refine pv_iload (pc := 10) (i := 4) rfl (fm_dec dtX1_readProduct 7 rfl) ?_
  refine pv_sipush (pc := 12) (v := 150) (by decide) (fm_dec dtX1_readProduct 8 rfl) ?_
  refine pv_icmp_ge (pc := 15) 85 (by decide) (fm_dec dtX1_readProduct 9 rfl) (fun hc15 => ?_) (fun hc15 => ?_)
  · refine pv_iloadn (pc := 85) (n := 3) 3 rfl rfl (fm_dec dtX1_readProduct 44 rfl) ?_
    exact pv_zreturn (pc := 86) rfl (by first | exact Or.inr rfl | exact Or.inl rfl) (fm_dec dtX1_readProduct 45 rfl) (by have hp9 : p = n := (by rw [sc_le] at hc15; have h9 : (150 : Int32).toInt = 150 := (by decide); have := hP.1.2.2.1; have := hP.2.2.2.2.2; omega); have hm1 : tx p = -1 := hP.1.2.2.2.1.2.1 p (by omega); have hs9 : sk tx p = p := (by unfold sk; rw [sp_f (by rw [hm1]; exact tB_1)]); exact hE.1 M [] p ((if_neg (by rw [hs9, hm1]; decide)).trans ((if_neg (by rw [hs9, hm1]; decide)).trans (by rw [hs9]))) hP.nil)
  · refine pv_iloadn (pc := 18) (n := 3) 3 rfl rfl (fm_dec dtX1_readProduct 10 rfl) ?_
    refine pv_if_eq (pc := 19) 85 (by decide) (fm_dec dtX1_readProduct 11 rfl) (fun hc19 => by exfalso; revert hc19; decide) (fun _ => ?_)
    refine pv_aloadn (pc := 22) (n := 1) 1 rfl rfl (fm_dec dtX1_readProduct 12 rfl) ?_
    refine pv_invV0 (k := 1) (d' := 0) (pc := 23) pcv_X1_35 (by decide) rfl (Nat.le_of_ble_eq_true rfl) (by omega) (fm_dec dtX1_readProduct 13 rfl) ?_
    refine x_peek hP.1 hP.2.1 hP.2.2.1 (fun M23 v23 hv23 k23 => ?_)
    refine pv_then1 ?_
    refine pv_istore (pc := 26) (i := 5) (by decide) rfl (fm_dec dtX1_readProduct 14 rfl) ?_
    dsimp only [List.set_cons_zero, List.set_cons_succ]
    refine pv_iload (pc := 28) (i := 5) rfl (fm_dec dtX1_readProduct 15 rfl) ?_
    refine pv_bipush (pc := 30) (v := 42) (by decide) (fm_dec dtX1_readProduct 16 rfl) ?_
    refine pv_icmp_eq (pc := 32) 44 (by decide) (fm_dec dtX1_readProduct 17 rfl) (fun hc32 => ?_) (fun hc32 => ?_)
    · have t43 : tx (sk tx p) = 42 := (by rw [← hv23, hc32]; decide)
      have k44 := place1 k23.1 k23.2.1 k23.2.2.2 (by rw [t43]; decide)
      have hsk : p ≤ sk tx p := sp_ge p
      have hP57 := (hP.xd k23 hsk).xd k44 (Nat.le_succ _)
      have ne57 : ¬ spOp 4 (spL tx f 2 o (sk tx p + 1)) (fun q => spL tx f 4 o q) = .inl (9, 0) := fun h9 => hne ((if_pos t43).trans h9)
      refine pv_aloadn (pc := 44) (n := 1) 1 rfl rfl (fm_dec dtX1_readProduct 23 rfl) ?_
      refine pv_dup (pc := 45) rfl (fm_dec dtX1_readProduct 24 rfl) ?_
      refine pv_getI (k := 1) (j := 3) (ci := 7) (pc := 46) pfl_X1_41 (by decide) rfl (by decide) (fm_dec dtX1_readProduct 25 rfl) ?_
      refine pv_iconst (pc := 49) (v := 1) (by decide) (fm_dec dtX1_readProduct 26 rfl) ?_
      refine pv_iadd (pc := 50) (fm_dec dtX1_readProduct 27 rfl) ?_
      refine pv_putI (k := 1) (j := 3) (ci := 7) (pc := 51) pfl_X1_41 (by decide) rfl (by decide) (fm_dec dtX1_readProduct 28 rfl) ?_
      refine pv_aloadn (pc := 54) (n := 0) 0 rfl rfl (fm_dec dtX1_readProduct 29 rfl) ?_
      refine pv_aloadn (pc := 55) (n := 1) 1 rfl rfl (fm_dec dtX1_readProduct 30 rfl) ?_
      refine pv_iloadn (pc := 56) (n := 2) 2 rfl rfl (fm_dec dtX1_readProduct 31 rfl) ?_
      refine pv_invV2 (k := 23) (d' := (6 + 4 * (6 - o))) (pc := 57) pcv_X1_61 (by decide) rfl (Nat.le_of_ble_eq_true rfl) (by omega) (fm_dec dtX1_readProduct 32 rfl) ?_
      refine h1 o (sk tx p + 1) m _ _ op hP57 ho ho6 (spBind_ne ne57) ⟨fun M57 c57 q57 e57 k57 => ?_, fun M57 kb ab eb hB => ?_⟩  
      · refine pv_then1 ?_
        have l57 := spL_len hP.1.2.2.2.1 _ _ _ _ _ _ hP57.1.2.2.1 e57
        have hP61 := hP57.next k57 l57.1
        have m57 : m + c57.length < 150 := (by have := l57.2.1; have := hP.2.2.2.2.2; have := hP.2.2.2.2.1; have := l57.1; omega)
        have k76 := em_ok (x := (-10)) (c := (4, 0)) k57.1 k57.2.1 k57.2.2.1 hP61.2.2.2.1 m57 (by decide)
        refine pv_istoren (pc := 60) (n := 3) 3 rfl (by decide) rfl (fm_dec dtX1_readProduct 33 rfl) ?_
        dsimp only [List.set_cons_zero, List.set_cons_succ]
        refine pv_aloadn (pc := 61) (n := 0) 0 rfl rfl (fm_dec dtX1_readProduct 34 rfl) ?_
        refine pv_iload (pc := 62) (i := 5) rfl (fm_dec dtX1_readProduct 35 rfl) ?_
        refine pv_bipush (pc := 64) (v := 42) (by decide) (fm_dec dtX1_readProduct 36 rfl) ?_
        refine pv_icmp_ne (pc := 66) 74 (by decide) (fm_dec dtX1_readProduct 37 rfl) (fun hc66 => by exfalso; exact hc66 hc32) (fun _ => ?_)
        refine pv_bipush (pc := 69) (v := (-10)) (by decide) (fm_dec dtX1_readProduct 38 rfl) ?_
        refine pv_goto (pc := 71) 76 (by decide) (fm_dec dtX1_readProduct 39 rfl) ?_
        refine pv_invV1 (k := 23) (d' := 0) (pc := 76) pcv_X1_57 (by decide) rfl (Nat.le_of_ble_eq_true rfl) (by omega) (fm_dec dtX1_readProduct 41 rfl) ?_
        refine c_emit hP61.2.2.2.1 m57 ?_ 
        refine pv_then0 ?_
        refine pv_iincc (pc := 79) 4 1 (by decide) rfl (by decide) rfl (fm_dec dtX1_readProduct 42 rfl) ?_
        dsimp only [List.set_cons_zero, List.set_cons_succ]
        refine pv_goto (pc := 82) 10 (by decide) (fm_dec dtX1_readProduct 43 rfl) ?_
        have hP9 : xlPre (emM M57 (m + c57.length) (-10)) tx n q57 (m + (c57.length + 1)) := ⟨k76.1, k76.2.1, k76.2.2.1, (by have h9 := k76.2.2.2.1; simpa [Nat.add_assoc] using h9), (by have := hP.2.2.2.2.1; have := l57.1; omega), hP.2.2.2.2.2⟩
        have kA : xlOk M M57 tx n q57 m c57 := (by have h9 := ((hP.nil.xd k23).xd k44).trans (by simpa using k57); simpa using h9)
        have kB : xlOk M (emM M57 (m + c57.length) (-10)) tx n q57 m (c57 ++ [(4, 0)]) := kA.trans k76
        have ne9 := spBind_ne (spBind_ne2 ne57 e57)
        exact h3 o q57 (m + (c57.length + 1)) _ Q op hP9 ho ho6 ne9 ⟨fun M2 ds q2 e2 k2 => hE.1 M2 _ q2 ((if_pos t43).trans (spOp_ok e57 e2)) (by have h9 := kB.trans (ds := ds) (by simpa [Nat.add_assoc] using k2); simpa using h9), fun M2 k a e2 k2 => hE.2 M2 k a ((if_pos t43).trans (spOp_b2 e57 e2)) (kB.bad k2)⟩ (i + 1) _ _ (i32_p1 hi (by have h150 := hP9.2.2.2.2.2; omega)) (by have := l57.1; omega)
      · refine pv_then1 ?_
        refine pv_istoren (pc := 60) (n := 3) 3 rfl (by decide) rfl (fm_dec dtX1_readProduct 33 rfl) ?_
        dsimp only [List.set_cons_zero, List.set_cons_succ]
        refine pv_aloadn (pc := 61) (n := 0) 0 rfl rfl (fm_dec dtX1_readProduct 34 rfl) ?_
        refine pv_iload (pc := 62) (i := 5) rfl (fm_dec dtX1_readProduct 35 rfl) ?_
        refine pv_bipush (pc := 64) (v := 42) (by decide) (fm_dec dtX1_readProduct 36 rfl) ?_
        refine pv_icmp_ne (pc := 66) 74 (by decide) (fm_dec dtX1_readProduct 37 rfl) (fun hc66 => by exfalso; exact hc66 hc32) (fun _ => ?_)
        refine pv_bipush (pc := 69) (v := (-10)) (by decide) (fm_dec dtX1_readProduct 38 rfl) ?_
        refine pv_goto (pc := 71) 76 (by decide) (fm_dec dtX1_readProduct 39 rfl) ?_
        refine pv_invV1 (k := 23) (d' := 0) (pc := 76) pcv_X1_57 (by decide) rfl (Nat.le_of_ble_eq_true rfl) (by omega) (fm_dec dtX1_readProduct 41 rfl) ?_
        refine s_emit (scq_t _) hB.2.2.2.1 (fun M76 hI76 f76 => ?_)
        refine pv_then0 ?_
        refine pv_iincc (pc := 79) 4 1 (by decide) rfl (by decide) rfl (fm_dec dtX1_readProduct 42 rfl) ?_
        dsimp only [List.set_cons_zero, List.set_cons_succ]
        refine pv_goto (pc := 82) 10 (by decide) (fm_dec dtX1_readProduct 43 rfl) ?_
        exact xo_readProduct (hE.2 _ kb ab ((if_pos t43).trans (spOp_b1 eb)) (((hP.nil.xd k23).xd k44).bad (hB.go (emFr rfl f76) (f76 1 4 rfl).1 (f76 1 5 rfl).1 hI76)))
    · refine pv_iload (pc := 35) (i := 5) rfl (fm_dec dtX1_readProduct 18 rfl) ?_
      refine pv_bipush (pc := 37) (v := 47) (by decide) (fm_dec dtX1_readProduct 19 rfl) ?_
      refine pv_icmp_eq (pc := 39) 44 (by decide) (fm_dec dtX1_readProduct 20 rfl) (fun hc39 => ?_) (fun hc39 => ?_)
      · have t43n : ¬ tx (sk tx p) = 42 := (fun h9 => hc32 (i32_ext (hv23.trans (h9.trans (by decide)))))
        have t45 : tx (sk tx p) = 47 := (by rw [← hv23, hc39]; decide)
        have k44 := place1 k23.1 k23.2.1 k23.2.2.2 (by rw [t45]; decide)
        have hsk : p ≤ sk tx p := sp_ge p
        have hP57 := (hP.xd k23 hsk).xd k44 (Nat.le_succ _)
        have ne57 : ¬ spOp 5 (spL tx f 2 o (sk tx p + 1)) (fun q => spL tx f 4 o q) = .inl (9, 0) := fun h9 => hne (((if_neg t43n).trans (if_pos t45)).trans h9)
        refine pv_aloadn (pc := 44) (n := 1) 1 rfl rfl (fm_dec dtX1_readProduct 23 rfl) ?_
        refine pv_dup (pc := 45) rfl (fm_dec dtX1_readProduct 24 rfl) ?_
        refine pv_getI (k := 1) (j := 3) (ci := 7) (pc := 46) pfl_X1_41 (by decide) rfl (by decide) (fm_dec dtX1_readProduct 25 rfl) ?_
        refine pv_iconst (pc := 49) (v := 1) (by decide) (fm_dec dtX1_readProduct 26 rfl) ?_
        refine pv_iadd (pc := 50) (fm_dec dtX1_readProduct 27 rfl) ?_
        refine pv_putI (k := 1) (j := 3) (ci := 7) (pc := 51) pfl_X1_41 (by decide) rfl (by decide) (fm_dec dtX1_readProduct 28 rfl) ?_
        refine pv_aloadn (pc := 54) (n := 0) 0 rfl rfl (fm_dec dtX1_readProduct 29 rfl) ?_
        refine pv_aloadn (pc := 55) (n := 1) 1 rfl rfl (fm_dec dtX1_readProduct 30 rfl) ?_
        refine pv_iloadn (pc := 56) (n := 2) 2 rfl rfl (fm_dec dtX1_readProduct 31 rfl) ?_
        refine pv_invV2 (k := 23) (d' := (6 + 4 * (6 - o))) (pc := 57) pcv_X1_61 (by decide) rfl (Nat.le_of_ble_eq_true rfl) (by omega) (fm_dec dtX1_readProduct 32 rfl) ?_
        refine h1 o (sk tx p + 1) m _ _ op hP57 ho ho6 (spBind_ne ne57) ⟨fun M57 c57 q57 e57 k57 => ?_, fun M57 kb ab eb hB => ?_⟩  
        · refine pv_then1 ?_
          have l57 := spL_len hP.1.2.2.2.1 _ _ _ _ _ _ hP57.1.2.2.1 e57
          have hP61 := hP57.next k57 l57.1
          have m57 : m + c57.length < 150 := (by have := l57.2.1; have := hP.2.2.2.2.2; have := hP.2.2.2.2.1; have := l57.1; omega)
          have k76 := em_ok (x := (-11)) (c := (5, 0)) k57.1 k57.2.1 k57.2.2.1 hP61.2.2.2.1 m57 (by decide)
          refine pv_istoren (pc := 60) (n := 3) 3 rfl (by decide) rfl (fm_dec dtX1_readProduct 33 rfl) ?_
          dsimp only [List.set_cons_zero, List.set_cons_succ]
          refine pv_aloadn (pc := 61) (n := 0) 0 rfl rfl (fm_dec dtX1_readProduct 34 rfl) ?_
          refine pv_iload (pc := 62) (i := 5) rfl (fm_dec dtX1_readProduct 35 rfl) ?_
          refine pv_bipush (pc := 64) (v := 42) (by decide) (fm_dec dtX1_readProduct 36 rfl) ?_
          refine pv_icmp_ne (pc := 66) 74 (by decide) (fm_dec dtX1_readProduct 37 rfl) (fun _ => ?_) (fun hc66 => by exfalso; exact hc32 hc66)
          refine pv_bipush (pc := 74) (v := (-11)) (by decide) (fm_dec dtX1_readProduct 40 rfl) ?_
          refine pv_invV1 (k := 23) (d' := 0) (pc := 76) pcv_X1_57 (by decide) rfl (Nat.le_of_ble_eq_true rfl) (by omega) (fm_dec dtX1_readProduct 41 rfl) ?_
          refine c_emit hP61.2.2.2.1 m57 ?_ 
          refine pv_then0 ?_
          refine pv_iincc (pc := 79) 4 1 (by decide) rfl (by decide) rfl (fm_dec dtX1_readProduct 42 rfl) ?_
          dsimp only [List.set_cons_zero, List.set_cons_succ]
          refine pv_goto (pc := 82) 10 (by decide) (fm_dec dtX1_readProduct 43 rfl) ?_
          have hP9 : xlPre (emM M57 (m + c57.length) (-11)) tx n q57 (m + (c57.length + 1)) := ⟨k76.1, k76.2.1, k76.2.2.1, (by have h9 := k76.2.2.2.1; simpa [Nat.add_assoc] using h9), (by have := hP.2.2.2.2.1; have := l57.1; omega), hP.2.2.2.2.2⟩
          have kA : xlOk M M57 tx n q57 m c57 := (by have h9 := ((hP.nil.xd k23).xd k44).trans (by simpa using k57); simpa using h9)
          have kB : xlOk M (emM M57 (m + c57.length) (-11)) tx n q57 m (c57 ++ [(5, 0)]) := kA.trans k76
          have ne9 := spBind_ne (spBind_ne2 ne57 e57)
          exact h3 o q57 (m + (c57.length + 1)) _ Q op hP9 ho ho6 ne9 ⟨fun M2 ds q2 e2 k2 => hE.1 M2 _ q2 (((if_neg t43n).trans (if_pos t45)).trans (spOp_ok e57 e2)) (by have h9 := kB.trans (ds := ds) (by simpa [Nat.add_assoc] using k2); simpa using h9), fun M2 k a e2 k2 => hE.2 M2 k a (((if_neg t43n).trans (if_pos t45)).trans (spOp_b2 e57 e2)) (kB.bad k2)⟩ (i + 1) _ _ (i32_p1 hi (by have h150 := hP9.2.2.2.2.2; omega)) (by have := l57.1; omega)
        · refine pv_then1 ?_
          refine pv_istoren (pc := 60) (n := 3) 3 rfl (by decide) rfl (fm_dec dtX1_readProduct 33 rfl) ?_
          dsimp only [List.set_cons_zero, List.set_cons_succ]
          refine pv_aloadn (pc := 61) (n := 0) 0 rfl rfl (fm_dec dtX1_readProduct 34 rfl) ?_
          refine pv_iload (pc := 62) (i := 5) rfl (fm_dec dtX1_readProduct 35 rfl) ?_
          refine pv_bipush (pc := 64) (v := 42) (by decide) (fm_dec dtX1_readProduct 36 rfl) ?_
          refine pv_icmp_ne (pc := 66) 74 (by decide) (fm_dec dtX1_readProduct 37 rfl) (fun _ => ?_) (fun hc66 => by exfalso; exact hc32 hc66)
          refine pv_bipush (pc := 74) (v := (-11)) (by decide) (fm_dec dtX1_readProduct 40 rfl) ?_
          refine pv_invV1 (k := 23) (d' := 0) (pc := 76) pcv_X1_57 (by decide) rfl (Nat.le_of_ble_eq_true rfl) (by omega) (fm_dec dtX1_readProduct 41 rfl) ?_
          refine s_emit (scq_t _) hB.2.2.2.1 (fun M76 hI76 f76 => ?_)
          refine pv_then0 ?_
          refine pv_iincc (pc := 79) 4 1 (by decide) rfl (by decide) rfl (fm_dec dtX1_readProduct 42 rfl) ?_
          dsimp only [List.set_cons_zero, List.set_cons_succ]
          refine pv_goto (pc := 82) 10 (by decide) (fm_dec dtX1_readProduct 43 rfl) ?_
          exact xo_readProduct (hE.2 _ kb ab (((if_neg t43n).trans (if_pos t45)).trans (spOp_b1 eb)) (((hP.nil.xd k23).xd k44).bad (hB.go (emFr rfl f76) (f76 1 4 rfl).1 (f76 1 5 rfl).1 hI76)))
      · refine pv_iconst (pc := 42) (v := 1) (by decide) (fm_dec dtX1_readProduct 21 rfl) ?_
        exact pv_zreturn (pc := 43) rfl (by first | exact Or.inr rfl | exact Or.inl rfl) (fm_dec dtX1_readProduct 22 rfl) (hE.1 M23 [] (sk tx p) ((if_neg (fun h9 => hc32 (i32_ext (hv23.trans (h9.trans (by decide)))))).trans (if_neg (fun h9 => hc39 (i32_ext (hv23.trans (h9.trans (by decide))))))) (hP.nil.xd k23))
set_option maxRecDepth 20000 in
theorem xl_two {tx : tX} {n f o p m : Nat} {M : fmM} {Q : fmR → fmM → Prop} {op : Int32} (h0 : xlG tx n f 0) (hP : xlPre M tx n p m) (ho : op.toInt = (o : Int)) (ho6 : o ≤ 6) (hne : ¬ spTw tx (fun q => spL tx f 0 o q) p = .inl (9, 0)) (hE : xlE Q M tx n m (spTw tx (fun q => spL tx f 0 o q) p)) : pvGood Tx (9 + 4 * (6 - o)) qX1_readTwo [.ref 23, .ref 1, .int op] M Q := by
  refine pvGood_of (Nat.le_of_ble_eq_true rfl) ?_
  show pvEv Tx (9 + 4 * (6 - o)) qX1_readTwo 0 [some (.ref 23), some (.ref 1), some (.int op)] [] M Q
  refine pv_aloadn (pc := 0) (n := 1) 1 rfl rfl (fm_dec dtX1_readTwo 0 rfl) ?_
  refine pv_bipush (pc := 1) (v := 91) (by decide) (fm_dec dtX1_readTwo 1 rfl) ?_
  refine pv_invV1 (k := 1) (d' := 1) (pc := 3) pcv_X1_64 (by decide) rfl (Nat.le_of_ble_eq_true rfl) (by omega) (fm_dec dtX1_readTwo 2 rfl) ?_
  refine x_signC 91 (by decide) (by decide) hP.1 hP.2.1 hP.2.2.1 (fun M3 q3 e3 k3 => ?_) (fun Mb kb ab eb hB => ?_)  
  · refine pv_then1 ?_
    refine pv_if_eq (pc := 6) 49 (by decide) (fm_dec dtX1_readTwo 3 rfl) (fun hc6 => by exfalso; revert hc6; decide) (fun _ => ?_)
    have s3 := spSign_ok hP.1.2.2.2.1 hP.1.2.2.1 (by decide) e3
    have hP3 := hP.xd k3 (by omega)
    refine pv_aloadn (pc := 9) (n := 0) 0 rfl rfl (fm_dec dtX1_readTwo 4 rfl) ?_
    refine pv_aloadn (pc := 10) (n := 1) 1 rfl rfl (fm_dec dtX1_readTwo 5 rfl) ?_
    refine pv_iloadn (pc := 11) (n := 2) 2 rfl rfl (fm_dec dtX1_readTwo 6 rfl) ?_
    refine pv_invV2 (k := 23) (d' := (8 + 4 * (6 - o))) (pc := 12) pcv_X1_31 (by decide) rfl (Nat.le_of_ble_eq_true rfl) (by omega) (fm_dec dtX1_readTwo 7 rfl) ?_
    refine h0 o q3 m M3 _ op hP3 ho ho6 (fun h9 => hne (by unfold spTw spBind; rw [e3]; simp only; rw [h9])) ⟨fun M12 c12 q12 e12 k12 => ?_, fun Mb kb ab eb hB => ?_⟩  
    · refine pv_then1 ?_
      refine pv_if_eq (pc := 15) 49 (by decide) (fm_dec dtX1_readTwo 8 rfl) (fun hc15 => by exfalso; revert hc15; decide) (fun _ => ?_)
      have l12 := spL_len hP.1.2.2.2.1 _ _ _ _ _ _ hP3.1.2.2.1 e12
      have hP12 := hP3.next k12 l12.1
      have kA : xlOk M M12 tx n q12 m c12 := (by have h9 := (hP.nil.xd k3).trans (by simpa using k12); simpa using h9)
      refine pv_aloadn (pc := 18) (n := 1) 1 rfl rfl (fm_dec dtX1_readTwo 9 rfl) ?_
      refine pv_bipush (pc := 19) (v := 44) (by decide) (fm_dec dtX1_readTwo 10 rfl) ?_
      refine pv_invV1 (k := 1) (d' := 1) (pc := 21) pcv_X1_64 (by decide) rfl (Nat.le_of_ble_eq_true rfl) (by omega) (fm_dec dtX1_readTwo 11 rfl) ?_
      refine x_signC 44 (by decide) (by decide) hP12.1 hP12.2.1 hP12.2.2.1 (fun M21 q21 e21 k21 => ?_) (fun Mb kb ab eb hB => ?_)  
      · refine pv_then1 ?_
        refine pv_if_eq (pc := 24) 49 (by decide) (fm_dec dtX1_readTwo 12 rfl) (fun hc24 => by exfalso; revert hc24; decide) (fun _ => ?_)
        have s21 := spSign_ok hP.1.2.2.2.1 hP12.1.2.2.1 (by decide) e21
        have hP21 := hP12.xd k21 (by omega)
        refine pv_aloadn (pc := 27) (n := 0) 0 rfl rfl (fm_dec dtX1_readTwo 13 rfl) ?_
        refine pv_aloadn (pc := 28) (n := 1) 1 rfl rfl (fm_dec dtX1_readTwo 14 rfl) ?_
        refine pv_iloadn (pc := 29) (n := 2) 2 rfl rfl (fm_dec dtX1_readTwo 15 rfl) ?_
        refine pv_invV2 (k := 23) (d' := (8 + 4 * (6 - o))) (pc := 30) pcv_X1_31 (by decide) rfl (Nat.le_of_ble_eq_true rfl) (by omega) (fm_dec dtX1_readTwo 16 rfl) ?_
        refine h0 o q21 (m + c12.length) M21 _ op hP21 ho ho6 (fun h9 => hne (by unfold spTw spBind; rw [e3]; simp only; rw [e12]; simp only; rw [e21]; simp only; rw [h9])) ⟨fun M30 c30 q30 e30 k30 => ?_, fun Mb kb ab eb hB => ?_⟩  
        · refine pv_then1 ?_
          refine pv_if_eq (pc := 33) 49 (by decide) (fm_dec dtX1_readTwo 17 rfl) (fun hc33 => by exfalso; revert hc33; decide) (fun _ => ?_)
          have l30 := spL_len hP.1.2.2.2.1 _ _ _ _ _ _ hP21.1.2.2.1 e30
          have hP30 := hP21.next k30 l30.1
          have kB : xlOk M M30 tx n q30 m (c12 ++ c30) := (kA.xd k21).trans k30
          refine pv_aloadn (pc := 36) (n := 1) 1 rfl rfl (fm_dec dtX1_readTwo 18 rfl) ?_
          refine pv_bipush (pc := 37) (v := 93) (by decide) (fm_dec dtX1_readTwo 19 rfl) ?_
          refine pv_invV1 (k := 1) (d' := 1) (pc := 39) pcv_X1_64 (by decide) rfl (Nat.le_of_ble_eq_true rfl) (by omega) (fm_dec dtX1_readTwo 20 rfl) ?_
          refine x_signC 93 (by decide) (by decide) hP30.1 hP30.2.1 hP30.2.2.1 (fun M39 q39 e39 k39 => ?_) (fun Mb kb ab eb hB => ?_)  
          · refine pv_then1 ?_
            refine pv_if_eq (pc := 42) 49 (by decide) (fm_dec dtX1_readTwo 21 rfl) (fun hc42 => by exfalso; revert hc42; decide) (fun _ => ?_)
            refine pv_iconst (pc := 45) (v := 1) (by decide) (fm_dec dtX1_readTwo 22 rfl) ?_
            refine pv_goto (pc := 46) 50 (by decide) (fm_dec dtX1_readTwo 23 rfl) ?_
            exact pv_zreturn (pc := 50) rfl (by first | exact Or.inr rfl | exact Or.inl rfl) (fm_dec dtX1_readTwo 25 rfl) (hE.1 M39 (c12 ++ c30) q39 (by unfold spTw spBind; rw [e3]; simp only; rw [e12]; simp only; rw [e21]; simp only; rw [e30]; simp only; rw [e39]) (kB.xd k39))
          · refine pv_then1 ?_
            refine pv_if_eq (pc := 42) 49 (by decide) (fm_dec dtX1_readTwo 21 rfl) (fun _ => ?_) (fun hc42 => by exfalso; revert hc42; decide)
            refine pv_iconst (pc := 49) (v := 0) (by decide) (fm_dec dtX1_readTwo 24 rfl) ?_
            exact pv_zreturn (pc := 50) rfl (by first | exact Or.inr rfl | exact Or.inl rfl) (fm_dec dtX1_readTwo 25 rfl) (hE.2 Mb kb ab (by unfold spTw spBind; rw [e3]; simp only; rw [e12]; simp only; rw [e21]; simp only; rw [e30]; simp only; rw [eb]) (kB.xdb hB))
        · refine pv_then1 ?_
          refine pv_if_eq (pc := 33) 49 (by decide) (fm_dec dtX1_readTwo 17 rfl) (fun _ => ?_) (fun hc33 => by exfalso; revert hc33; decide)
          refine pv_iconst (pc := 49) (v := 0) (by decide) (fm_dec dtX1_readTwo 24 rfl) ?_
          exact pv_zreturn (pc := 50) rfl (by first | exact Or.inr rfl | exact Or.inl rfl) (fm_dec dtX1_readTwo 25 rfl) (hE.2 Mb kb ab (by unfold spTw spBind; rw [e3]; simp only; rw [e12]; simp only; rw [e21]; simp only; rw [eb]) ((kA.xd k21).bad hB))
      · refine pv_then1 ?_
        refine pv_if_eq (pc := 24) 49 (by decide) (fm_dec dtX1_readTwo 12 rfl) (fun _ => ?_) (fun hc24 => by exfalso; revert hc24; decide)
        refine pv_iconst (pc := 49) (v := 0) (by decide) (fm_dec dtX1_readTwo 24 rfl) ?_
        exact pv_zreturn (pc := 50) rfl (by first | exact Or.inr rfl | exact Or.inl rfl) (fm_dec dtX1_readTwo 25 rfl) (hE.2 Mb kb ab (by unfold spTw spBind; rw [e3]; simp only; rw [e12]; simp only; rw [eb]) (kA.xdb hB))
    · refine pv_then1 ?_
      refine pv_if_eq (pc := 15) 49 (by decide) (fm_dec dtX1_readTwo 8 rfl) (fun _ => ?_) (fun hc15 => by exfalso; revert hc15; decide)
      refine pv_iconst (pc := 49) (v := 0) (by decide) (fm_dec dtX1_readTwo 24 rfl) ?_
      exact pv_zreturn (pc := 50) rfl (by first | exact Or.inr rfl | exact Or.inl rfl) (fm_dec dtX1_readTwo 25 rfl) (hE.2 Mb kb ab (by unfold spTw spBind; rw [e3]; simp only; rw [eb]) ((hP.nil.xd k3).bad hB))
  · refine pv_then1 ?_
    refine pv_if_eq (pc := 6) 49 (by decide) (fm_dec dtX1_readTwo 3 rfl) (fun _ => ?_) (fun hc6 => by exfalso; revert hc6; decide)
    refine pv_iconst (pc := 49) (v := 0) (by decide) (fm_dec dtX1_readTwo 24 rfl) ?_
    exact pv_zreturn (pc := 50) rfl (by first | exact Or.inr rfl | exact Or.inl rfl) (fm_dec dtX1_readTwo 25 rfl) (hE.2 Mb kb ab (by unfold spTw spBind; rw [eb]) (hP.nil.xdb hB))
theorem un_w {tx : tX} {a : Nat} (h : tW (tx a) = false) : ¬ wd tx a = lwLeast ∧ ¬ wd tx a = lwMost ∧ lwK (wd tx a) = none := by
  rw [wd_f h]
  exact ⟨by decide, by decide, by decide⟩
theorem un_p {tx : tX} {rc : Nat → tR tC} {o a : Nat} (h : tx a = 40) : spOne tx rc o a = if o = 6 then .inl (3, a) else spPar tx rc (a + 1) := by
  have h9 := un_w (tx := tx) (a := a) (by rw [h]; decide)
  unfold spOne
  rw [if_neg h9.1, if_neg h9.2.1, if_pos h]
theorem un_n {tx : tX} {rc : Nat → tR tC} {o a : Nat} (h1 : ¬ wd tx a = lwLeast) (h2 : ¬ wd tx a = lwMost) (h3 : lwK (wd tx a) = none) (h : ¬ tx a = 40) : spOne tx rc o a = spBind (spNum tx 0 999 a) fun v q => .inr ([(0, v)], q) := by
  unfold spOne
  rw [if_neg h1, if_neg h2, if_neg h, h3]
theorem un_k {tx : tX} {rc : Nat → tR tC} {o a k : Nat} (h1 : ¬ wd tx a = lwLeast) (h2 : ¬ wd tx a = lwMost) (h3 : lwK (wd tx a) = some k) (h : ¬ tx a = 40) : spOne tx rc o a = .inr ([(1, k)], sp tW tx a) := by
  unfold spOne
  rw [if_neg h1, if_neg h2, if_neg h, h3]
theorem un_5 {tx : tX} {rc : Nat → tR tC} {o a j : Nat} (h : (j = 5 ∧ wd tx a = lwLeast) ∨ (j = 6 ∧ wd tx a = lwMost ∧ ¬ wd tx a = lwLeast)) : spOne tx rc o a = if o = 6 then .inl (3, a) else spTwo tx rc (j + 1) (sp tW tx a) := by
  unfold spOne
  rcases h with ⟨rfl, h1⟩ | ⟨rfl, h1, h2⟩
  · rw [if_pos h1]
  · rw [if_neg h2, if_pos h1]
theorem sub_m1 {w : Int32} {j : Nat} (hw : w.toInt = (j : Int)) (hj : j < 10) : (-1 - w).toInt = -1 - (j : Int) := by
  have e : (-1 : Int32).toInt = -1 := by decide
  rw [sc_sub (by omega) (by omega), e, hw]
theorem wl_len {w : List Int} {j : Nat} (h : wdI wsLaw w 0 = some j) : 0 < w.length := by
  cases w with
  | nil => exact absurd ((show wdI wsLaw [] 0 = none by decide).symm.trans h) (by intro h9; cases h9)
  | cons c w => exact Nat.succ_pos _
theorem spTw_len {tx : tX} {n f o p q : Nat} {cs : tC} (ht : tOk tx n) (hp : p ≤ n) (h : spTw tx (fun q => spL tx f 0 o q) p = .inr (cs, q)) : p + cs.length < q ∧ q ≤ n := by
  obtain ⟨u1, q1, e1, h⟩ := spBind_ok h
  obtain ⟨c1, q2, e2, h⟩ := spBind_ok h
  obtain ⟨u3, q3, e3, h⟩ := spBind_ok h
  obtain ⟨c2, q4, e4, h⟩ := spBind_ok h
  obtain ⟨u5, q5, e5, h⟩ := spBind_ok h
  cases h
  have a1 := spSign_ok ht hp (by decide) e1
  have a2 := spL_len ht _ _ _ _ _ _ a1.2 e2
  have a3 := spSign_ok ht a2.2.1 (by decide) e3
  have a4 := spL_len ht _ _ _ _ _ _ a3.2 e4
  have a5 := spSign_ok ht a4.2.1 (by decide) e5
  rw [List.length_append]
  omega
set_option maxRecDepth 20000 in
theorem xl_unit {tx : tX} {n f : Nat} (h0 : xlG tx n f 0) : xlG tx n (f + 1) 2 := by
  intro o p m M Q op hP ho ho6 hne hE
  refine pvGood_of (Nat.le_of_ble_eq_true rfl) ?_
  show pvEv Tx (6 + 4 * (6 - o)) qX1_readUnit 0 [some (.ref 23), some (.ref 1), some (.int op), none, none, none] [] M Q
  refine pv_aloadn (pc := 0) (n := 1) 1 rfl rfl (fm_dec dtX1_readUnit 0 rfl) ?_
  refine pv_invV0 (k := 1) (d' := 0) (pc := 1) pcv_X1_35 (by decide) rfl (Nat.le_of_ble_eq_true rfl) (by omega) (fm_dec dtX1_readUnit 1 rfl) ?_
  refine x_peek hP.1 hP.2.1 hP.2.2.1 (fun M1 v1 hv1 k1 => ?_)
  refine pv_then1 ?_
  refine pv_istoren (pc := 4) (n := 3) 3 rfl (by decide) rfl (fm_dec dtX1_readUnit 2 rfl) ?_
  dsimp only [List.set_cons_zero, List.set_cons_succ]
  have e0 : spL tx (f + 1) 2 o p = spOne tx (fun q => spL tx f 0 (o + 1) q) o (sk tx p) := rfl
  have hsk : p ≤ sk tx p := sp_ge p
  have hss := sk_sk hP.1.2.2.2.1 hP.1.2.2.1
  have hn150 := hP.2.2.2.2.2
  have hmp := hP.2.2.2.2.1
  have hP1 := hP.xd k1 hsk
  refine pv_aloadn (pc := 5) (n := 1) 1 rfl rfl (fm_dec dtX1_readUnit 3 rfl) ?_
  refine pv_getI (k := 1) (j := 3) (ci := 7) (pc := 6) pfl_X1_41 (by decide) rfl (by decide) (fm_dec dtX1_readUnit 4 rfl) ?_
  refine pv_istore (pc := 9) (i := 4) (by decide) rfl (fm_dec dtX1_readUnit 5 rfl) ?_
  dsimp only [List.set_cons_zero, List.set_cons_succ]
  refine pv_iloadn (pc := 11) (n := 3) 3 rfl rfl (fm_dec dtX1_readUnit 6 rfl) ?_
  refine pv_bipush (pc := 12) (v := 40) (by decide) (fm_dec dtX1_readUnit 7 rfl) ?_
  refine pv_icmp_ne (pc := 14) 67 (by decide) (fm_dec dtX1_readUnit 8 rfl) (fun hc14 => ?_) (fun hc14 => ?_)
  · have t40 : ¬ tx (sk tx p) = 40 := (fun h9 => hc14 (i32_ext (hv1.trans (h9.trans (by decide)))))
    refine pv_iloadn (pc := 67) (n := 3) 3 rfl rfl (fm_dec dtX1_readUnit 38 rfl) ?_
    refine pv_bipush (pc := 68) (v := 48) (by decide) (fm_dec dtX1_readUnit 39 rfl) ?_
    refine pv_icmp_lt (pc := 70) 104 (by decide) (fm_dec dtX1_readUnit 40 rfl) (fun hc70 => ?_) (fun hc70 => ?_)
    · have tDn : tD (tx (sk tx p)) = false := (by rw [← hv1]; exact tD_f (Or.inl hc70))
      refine pv_aloadn (pc := 104) (n := 1) 1 rfl rfl (fm_dec dtX1_readUnit 57 rfl) ?_
      refine pv_ldcT (i := 3) (pc := 105) pkn_X1_76 ptx_X1_76 (fm_dec dtX1_readUnit 58 rfl) ?_
      refine pv_invV1 (k := 1) (d' := 5) (pc := 107) pcv_X1_78 (by decide) rfl (Nat.le_of_ble_eq_true rfl) (by omega) (fm_dec dtX1_readUnit 59 rfl) ?_
      refine x_word (i5 := 3) (ws := wsLaw) (by decide) chs_3 wsLaw_ok (by decide) k1.1 k1.2.1 k1.2.2.2 (fun M107 j w107 e107 hw107 k107 => ?_) (fun e107 Mb hB => ?_)  
      · refine pv_then1 ?_
        refine pv_istore (pc := 110) (i := 5) (by decide) rfl (fm_dec dtX1_readUnit 60 rfl) ?_
        dsimp only [List.set_cons_zero, List.set_cons_succ]
        rw [hss] at e107 k107
        have hj9 := wdI_lt wsLaw 0 j e107
        have hj7 : j < 7 := hj9.2
        have ew : ¬ w107 = -1 := (fun h9 => by have h8 := congrArg Int32.toInt h9; have h7 : (-1 : Int32).toInt = -1 := (by decide); omega)
        have hw2 := sp_ge (P := tW) (tx := tx) (sk tx p)
        have hwn := sp_le (p := sk tx p) tW_1 hP.1.2.2.2.1 k1.1.2.2.1
        have hwg : sk tx p < sp tW tx (sk tx p) := (by have h9 : 0 < (wd tx (sk tx p)).length := wl_len e107; rw [wd_len] at h9; omega)
        have kA := (hP.nil.xd k1).xd k107
        have hP107 : xlPre M107 tx n (sp tW tx (sk tx p)) m := hP1.xd k107 hw2
        refine pv_iload (pc := 112) (i := 5) rfl (fm_dec dtX1_readUnit 61 rfl) ?_
        refine pv_iconst (pc := 114) (v := (-1)) (by decide) (fm_dec dtX1_readUnit 62 rfl) ?_
        refine pv_icmp_ne (pc := 115) 120 (by decide) (fm_dec dtX1_readUnit 63 rfl) (fun _ => ?_) (fun hc115 => by exfalso; exact ew hc115)
        refine pv_iload (pc := 120) (i := 5) rfl (fm_dec dtX1_readUnit 66 rfl) ?_
        refine pv_iconst (pc := 122) (v := 5) (by decide) (fm_dec dtX1_readUnit 67 rfl) ?_
        refine pv_icmp_lt (pc := 123) 153 (by decide) (fm_dec dtX1_readUnit 68 rfl) (fun hc123 => ?_) (fun hc123 => ?_)
        · have h5 : j < 5 := (by rw [sc_lt] at hc123; have h9 : (5 : Int32).toInt = 5 := (by decide); omega)
          have u5 := wl_1 e107 h5
          have eU := un_k (rc := fun q => spL tx f 0 (o + 1) q) (o := o) u5.1 u5.2.1 u5.2.2 t40
          have hm158 : (M107.1 23 4).toInt = (m : Int) := hP107.2.2.2.1
          have m158 : m < 150 := (by omega)
          have k158 := em_ok (x := -1 - w107) (c := (1, j)) k107.1 k107.2.1 k107.2.2.2 hm158 m158 (by rw [sub_m1 hw107 (by omega)]; rfl)
          refine pv_aloadn (pc := 153) (n := 0) 0 rfl rfl (fm_dec dtX1_readUnit 86 rfl) ?_
          refine pv_iconst (pc := 154) (v := (-1)) (by decide) (fm_dec dtX1_readUnit 87 rfl) ?_
          refine pv_iload (pc := 155) (i := 5) rfl (fm_dec dtX1_readUnit 88 rfl) ?_
          refine pv_isub (pc := 157) (fm_dec dtX1_readUnit 89 rfl) ?_
          refine pv_invV1 (k := 23) (d' := 0) (pc := 158) pcv_X1_57 (by decide) rfl (Nat.le_of_ble_eq_true rfl) (by omega) (fm_dec dtX1_readUnit 90 rfl) ?_
          refine c_emit hm158 m158 ?_ 
          refine pv_then0 ?_
          refine pv_iconst (pc := 161) (v := 1) (by decide) (fm_dec dtX1_readUnit 91 rfl) ?_
          exact pv_zreturn (pc := 162) rfl (by first | exact Or.inr rfl | exact Or.inl rfl) (fm_dec dtX1_readUnit 92 rfl) (hE.1 _ [(1, j)] (sp tW tx (sk tx p)) (e0.trans eU) (by have h9 := kA.trans (by simpa using k158); simpa using h9))
        · have h5 : ¬ j < 5 := (by rw [sc_lt] at hc123; have h9 : (5 : Int32).toInt = 5 := (by decide); omega)
          have e5 := wl_5 e107 h5
          have eU := un_5 (rc := fun q => spL tx f 0 (o + 1) q) (o := o) e5
          refine pv_iloadn (pc := 126) (n := 2) 2 rfl rfl (fm_dec dtX1_readUnit 69 rfl) ?_
          refine pv_bipush (pc := 127) (v := 6) (by decide) (fm_dec dtX1_readUnit 70 rfl) ?_
          refine pv_icmp_lt (pc := 129) 140 (by decide) (fm_dec dtX1_readUnit 71 rfl) (fun hc129 => ?_) (fun hc129 => ?_)
          · have o6 : o < 6 := (by have h9 : (6 : Int32).toInt = 6 := (by decide); rw [sc_lt] at hc129; omega)
            rw [if_neg (show ¬ o = 6 by omega), spTw_eq] at eU
            have ne145 : ¬ spTw tx (fun q => spL tx f 0 (o + 1) q) (sp tW tx (sk tx p)) = .inl (9, 0) := spBind_ne (fun h9 => hne (e0.trans (eU.trans h9)))
            refine pv_aloadn (pc := 140) (n := 0) 0 rfl rfl (fm_dec dtX1_readUnit 77 rfl) ?_
            refine pv_aloadn (pc := 141) (n := 1) 1 rfl rfl (fm_dec dtX1_readUnit 78 rfl) ?_
            refine pv_iloadn (pc := 142) (n := 2) 2 rfl rfl (fm_dec dtX1_readUnit 79 rfl) ?_
            refine pv_iconst (pc := 143) (v := 1) (by decide) (fm_dec dtX1_readUnit 80 rfl) ?_
            refine pv_iadd (pc := 144) (fm_dec dtX1_readUnit 81 rfl) ?_
            refine pv_invV2 (k := 23) (d' := (9 + 4 * (6 - (o + 1)))) (pc := 145) pcv_X1_82 (by decide) rfl (Nat.le_of_ble_eq_true rfl) (by omega) (fm_dec dtX1_readUnit 82 rfl) ?_
            refine xl_two h0 hP107 (i32_p1 ho (by omega)) (by omega) ne145 ⟨fun M145 c145 q145 e145 k145 => ?_, fun Mb kb ab eb hB => ?_⟩  
            · refine pv_then1 ?_
              refine pv_if_ne (pc := 148) 153 (by decide) (fm_dec dtX1_readUnit 83 rfl) (fun _ => ?_) (fun hc148 => by exfalso; revert hc148; decide)
              have l145 : sp tW tx (sk tx p) + c145.length < q145 ∧ q145 ≤ n := spTw_len hP.1.2.2.2.1 hwn e145
              have hm158 : (M145.1 23 4).toInt = ((m + c145.length : Nat) : Int) := k145.2.2.2.1
              have m158 : m + c145.length < 150 := (by omega)
              have k158 := em_ok (x := -1 - w107) (c := (j + 1, 0)) k145.1 k145.2.1 k145.2.2.1 hm158 m158 (by rw [sub_m1 hw107 (by omega)]; rcases e5 with ⟨rfl, _⟩ | ⟨rfl, _⟩ <;> decide)
              refine pv_aloadn (pc := 153) (n := 0) 0 rfl rfl (fm_dec dtX1_readUnit 86 rfl) ?_
              refine pv_iconst (pc := 154) (v := (-1)) (by decide) (fm_dec dtX1_readUnit 87 rfl) ?_
              refine pv_iload (pc := 155) (i := 5) rfl (fm_dec dtX1_readUnit 88 rfl) ?_
              refine pv_isub (pc := 157) (fm_dec dtX1_readUnit 89 rfl) ?_
              refine pv_invV1 (k := 23) (d' := 0) (pc := 158) pcv_X1_57 (by decide) rfl (Nat.le_of_ble_eq_true rfl) (by omega) (fm_dec dtX1_readUnit 90 rfl) ?_
              refine c_emit hm158 m158 ?_ 
              refine pv_then0 ?_
              refine pv_iconst (pc := 161) (v := 1) (by decide) (fm_dec dtX1_readUnit 91 rfl) ?_
              exact pv_zreturn (pc := 162) rfl (by first | exact Or.inr rfl | exact Or.inl rfl) (fm_dec dtX1_readUnit 92 rfl) (hE.1 _ (c145 ++ [(j + 1, 0)]) q145 (e0.trans (eU.trans (by rw [e145]; rfl))) ((by have h9 := kA.trans (by simpa using k145); simpa using h9 : xlOk M M145 tx n q145 m c145).trans k158))
            · refine pv_then1 ?_
              refine pv_if_ne (pc := 148) 153 (by decide) (fm_dec dtX1_readUnit 83 rfl) (fun hc148 => by exfalso; revert hc148; decide) (fun _ => ?_)
              refine pv_iconst (pc := 151) (v := 0) (by decide) (fm_dec dtX1_readUnit 84 rfl) ?_
              exact pv_zreturn (pc := 152) rfl (by first | exact Or.inr rfl | exact Or.inl rfl) (fm_dec dtX1_readUnit 85 rfl) (hE.2 Mb kb ab (e0.trans (eU.trans (by rw [eb]; rfl))) (kA.bad hB))
          · refine pv_aloadn (pc := 132) (n := 1) 1 rfl rfl (fm_dec dtX1_readUnit 72 rfl) ?_
            refine pv_iconst (pc := 133) (v := 3) (by decide) (fm_dec dtX1_readUnit 73 rfl) ?_
            refine pv_iload (pc := 134) (i := 4) rfl (fm_dec dtX1_readUnit 74 rfl) ?_
            refine pv_invV2 (k := 1) (d' := 0) (pc := 136) pcv_X1_44 (by decide) rfl (Nat.le_of_ble_eq_true rfl) (by omega) (fm_dec dtX1_readUnit 75 rfl) ?_
            refine c_xfail0 k107.2.1 ?_ 
            refine pv_then1 ?_
            exact pv_zreturn (pc := 139) rfl (by first | exact Or.inr rfl | exact Or.inl rfl) (fm_dec dtX1_readUnit 76 rfl) (hE.2 _ 3 (sk tx p) (e0.trans (eU.trans (if_pos (show o = 6 by have h9 : (6 : Int32).toInt = 6 := (by decide); rw [sc_lt] at hc129; omega)))) (kA.xdb ⟨(show (3 : Int32).toInt = ((3 : Nat) : Int) by decide), k1.1.2.1, by decide, ((xdFr.refl _).set (Or.inr (Or.inl rfl))).set (Or.inr (Or.inr rfl)), xI_45 k107.2.2.2 (show (3 : Int32).toInt = ((3 : Nat) : Int) by decide) (by decide) k1.1.2.1 k1.1.2.2.1 k1.1.2.2.2.1.1⟩))
      · refine pv_then1 ?_
        refine pv_istore (pc := 110) (i := 5) (by decide) rfl (fm_dec dtX1_readUnit 60 rfl) ?_
        dsimp only [List.set_cons_zero, List.set_cons_succ]
        refine pv_iload (pc := 112) (i := 5) rfl (fm_dec dtX1_readUnit 61 rfl) ?_
        refine pv_iconst (pc := 114) (v := (-1)) (by decide) (fm_dec dtX1_readUnit 62 rfl) ?_
        refine pv_icmp_ne (pc := 115) 120 (by decide) (fm_dec dtX1_readUnit 63 rfl) (fun hc115 => by exfalso; revert hc115; decide) (fun _ => ?_)
        refine pv_iconst (pc := 118) (v := 0) (by decide) (fm_dec dtX1_readUnit 64 rfl) ?_
        exact pv_zreturn (pc := 119) rfl (by first | exact Or.inr rfl | exact Or.inl rfl) (fm_dec dtX1_readUnit 65 rfl) (hE.2 Mb 1 (sk tx p) (e0.trans ((un_n (wl_0 (hss ▸ e107)).1 (wl_0 (hss ▸ e107)).2.1 (wl_0 (hss ▸ e107)).2.2 t40).trans (by unfold spBind spNum; rw [hss, if_neg (by simpa using tDn)]))) ((hP.nil.xd k1).xdb (by rw [hss] at hB; exact hB)))
    · refine pv_iloadn (pc := 73) (n := 3) 3 rfl rfl (fm_dec dtX1_readUnit 41 rfl) ?_
      refine pv_bipush (pc := 74) (v := 57) (by decide) (fm_dec dtX1_readUnit 42 rfl) ?_
      refine pv_icmp_gt (pc := 76) 104 (by decide) (fm_dec dtX1_readUnit 43 rfl) (fun hc76 => ?_) (fun hc76 => ?_)
      · have tDn : tD (tx (sk tx p)) = false := (by rw [← hv1]; exact tD_f (Or.inr hc76))
        refine pv_aloadn (pc := 104) (n := 1) 1 rfl rfl (fm_dec dtX1_readUnit 57 rfl) ?_
        refine pv_ldcT (i := 3) (pc := 105) pkn_X1_76 ptx_X1_76 (fm_dec dtX1_readUnit 58 rfl) ?_
        refine pv_invV1 (k := 1) (d' := 5) (pc := 107) pcv_X1_78 (by decide) rfl (Nat.le_of_ble_eq_true rfl) (by omega) (fm_dec dtX1_readUnit 59 rfl) ?_
        refine x_word (i5 := 3) (ws := wsLaw) (by decide) chs_3 wsLaw_ok (by decide) k1.1 k1.2.1 k1.2.2.2 (fun M107 j w107 e107 hw107 k107 => ?_) (fun e107 Mb hB => ?_)  
        · refine pv_then1 ?_
          refine pv_istore (pc := 110) (i := 5) (by decide) rfl (fm_dec dtX1_readUnit 60 rfl) ?_
          dsimp only [List.set_cons_zero, List.set_cons_succ]
          rw [hss] at e107 k107
          have hj9 := wdI_lt wsLaw 0 j e107
          have hj7 : j < 7 := hj9.2
          have ew : ¬ w107 = -1 := (fun h9 => by have h8 := congrArg Int32.toInt h9; have h7 : (-1 : Int32).toInt = -1 := (by decide); omega)
          have hw2 := sp_ge (P := tW) (tx := tx) (sk tx p)
          have hwn := sp_le (p := sk tx p) tW_1 hP.1.2.2.2.1 k1.1.2.2.1
          have hwg : sk tx p < sp tW tx (sk tx p) := (by have h9 : 0 < (wd tx (sk tx p)).length := wl_len e107; rw [wd_len] at h9; omega)
          have kA := (hP.nil.xd k1).xd k107
          have hP107 : xlPre M107 tx n (sp tW tx (sk tx p)) m := hP1.xd k107 hw2
          refine pv_iload (pc := 112) (i := 5) rfl (fm_dec dtX1_readUnit 61 rfl) ?_
          refine pv_iconst (pc := 114) (v := (-1)) (by decide) (fm_dec dtX1_readUnit 62 rfl) ?_
          refine pv_icmp_ne (pc := 115) 120 (by decide) (fm_dec dtX1_readUnit 63 rfl) (fun _ => ?_) (fun hc115 => by exfalso; exact ew hc115)
          refine pv_iload (pc := 120) (i := 5) rfl (fm_dec dtX1_readUnit 66 rfl) ?_
          refine pv_iconst (pc := 122) (v := 5) (by decide) (fm_dec dtX1_readUnit 67 rfl) ?_
          refine pv_icmp_lt (pc := 123) 153 (by decide) (fm_dec dtX1_readUnit 68 rfl) (fun hc123 => ?_) (fun hc123 => ?_)
          · have h5 : j < 5 := (by rw [sc_lt] at hc123; have h9 : (5 : Int32).toInt = 5 := (by decide); omega)
            have u5 := wl_1 e107 h5
            have eU := un_k (rc := fun q => spL tx f 0 (o + 1) q) (o := o) u5.1 u5.2.1 u5.2.2 t40
            have hm158 : (M107.1 23 4).toInt = (m : Int) := hP107.2.2.2.1
            have m158 : m < 150 := (by omega)
            have k158 := em_ok (x := -1 - w107) (c := (1, j)) k107.1 k107.2.1 k107.2.2.2 hm158 m158 (by rw [sub_m1 hw107 (by omega)]; rfl)
            refine pv_aloadn (pc := 153) (n := 0) 0 rfl rfl (fm_dec dtX1_readUnit 86 rfl) ?_
            refine pv_iconst (pc := 154) (v := (-1)) (by decide) (fm_dec dtX1_readUnit 87 rfl) ?_
            refine pv_iload (pc := 155) (i := 5) rfl (fm_dec dtX1_readUnit 88 rfl) ?_
            refine pv_isub (pc := 157) (fm_dec dtX1_readUnit 89 rfl) ?_
            refine pv_invV1 (k := 23) (d' := 0) (pc := 158) pcv_X1_57 (by decide) rfl (Nat.le_of_ble_eq_true rfl) (by omega) (fm_dec dtX1_readUnit 90 rfl) ?_
            refine c_emit hm158 m158 ?_ 
            refine pv_then0 ?_
            refine pv_iconst (pc := 161) (v := 1) (by decide) (fm_dec dtX1_readUnit 91 rfl) ?_
            exact pv_zreturn (pc := 162) rfl (by first | exact Or.inr rfl | exact Or.inl rfl) (fm_dec dtX1_readUnit 92 rfl) (hE.1 _ [(1, j)] (sp tW tx (sk tx p)) (e0.trans eU) (by have h9 := kA.trans (by simpa using k158); simpa using h9))
          · have h5 : ¬ j < 5 := (by rw [sc_lt] at hc123; have h9 : (5 : Int32).toInt = 5 := (by decide); omega)
            have e5 := wl_5 e107 h5
            have eU := un_5 (rc := fun q => spL tx f 0 (o + 1) q) (o := o) e5
            refine pv_iloadn (pc := 126) (n := 2) 2 rfl rfl (fm_dec dtX1_readUnit 69 rfl) ?_
            refine pv_bipush (pc := 127) (v := 6) (by decide) (fm_dec dtX1_readUnit 70 rfl) ?_
            refine pv_icmp_lt (pc := 129) 140 (by decide) (fm_dec dtX1_readUnit 71 rfl) (fun hc129 => ?_) (fun hc129 => ?_)
            · have o6 : o < 6 := (by have h9 : (6 : Int32).toInt = 6 := (by decide); rw [sc_lt] at hc129; omega)
              rw [if_neg (show ¬ o = 6 by omega), spTw_eq] at eU
              have ne145 : ¬ spTw tx (fun q => spL tx f 0 (o + 1) q) (sp tW tx (sk tx p)) = .inl (9, 0) := spBind_ne (fun h9 => hne (e0.trans (eU.trans h9)))
              refine pv_aloadn (pc := 140) (n := 0) 0 rfl rfl (fm_dec dtX1_readUnit 77 rfl) ?_
              refine pv_aloadn (pc := 141) (n := 1) 1 rfl rfl (fm_dec dtX1_readUnit 78 rfl) ?_
              refine pv_iloadn (pc := 142) (n := 2) 2 rfl rfl (fm_dec dtX1_readUnit 79 rfl) ?_
              refine pv_iconst (pc := 143) (v := 1) (by decide) (fm_dec dtX1_readUnit 80 rfl) ?_
              refine pv_iadd (pc := 144) (fm_dec dtX1_readUnit 81 rfl) ?_
              refine pv_invV2 (k := 23) (d' := (9 + 4 * (6 - (o + 1)))) (pc := 145) pcv_X1_82 (by decide) rfl (Nat.le_of_ble_eq_true rfl) (by omega) (fm_dec dtX1_readUnit 82 rfl) ?_
              refine xl_two h0 hP107 (i32_p1 ho (by omega)) (by omega) ne145 ⟨fun M145 c145 q145 e145 k145 => ?_, fun Mb kb ab eb hB => ?_⟩  
              · refine pv_then1 ?_
                refine pv_if_ne (pc := 148) 153 (by decide) (fm_dec dtX1_readUnit 83 rfl) (fun _ => ?_) (fun hc148 => by exfalso; revert hc148; decide)
                have l145 : sp tW tx (sk tx p) + c145.length < q145 ∧ q145 ≤ n := spTw_len hP.1.2.2.2.1 hwn e145
                have hm158 : (M145.1 23 4).toInt = ((m + c145.length : Nat) : Int) := k145.2.2.2.1
                have m158 : m + c145.length < 150 := (by omega)
                have k158 := em_ok (x := -1 - w107) (c := (j + 1, 0)) k145.1 k145.2.1 k145.2.2.1 hm158 m158 (by rw [sub_m1 hw107 (by omega)]; rcases e5 with ⟨rfl, _⟩ | ⟨rfl, _⟩ <;> decide)
                refine pv_aloadn (pc := 153) (n := 0) 0 rfl rfl (fm_dec dtX1_readUnit 86 rfl) ?_
                refine pv_iconst (pc := 154) (v := (-1)) (by decide) (fm_dec dtX1_readUnit 87 rfl) ?_
                refine pv_iload (pc := 155) (i := 5) rfl (fm_dec dtX1_readUnit 88 rfl) ?_
                refine pv_isub (pc := 157) (fm_dec dtX1_readUnit 89 rfl) ?_
                refine pv_invV1 (k := 23) (d' := 0) (pc := 158) pcv_X1_57 (by decide) rfl (Nat.le_of_ble_eq_true rfl) (by omega) (fm_dec dtX1_readUnit 90 rfl) ?_
                refine c_emit hm158 m158 ?_ 
                refine pv_then0 ?_
                refine pv_iconst (pc := 161) (v := 1) (by decide) (fm_dec dtX1_readUnit 91 rfl) ?_
                exact pv_zreturn (pc := 162) rfl (by first | exact Or.inr rfl | exact Or.inl rfl) (fm_dec dtX1_readUnit 92 rfl) (hE.1 _ (c145 ++ [(j + 1, 0)]) q145 (e0.trans (eU.trans (by rw [e145]; rfl))) ((by have h9 := kA.trans (by simpa using k145); simpa using h9 : xlOk M M145 tx n q145 m c145).trans k158))
              · refine pv_then1 ?_
                refine pv_if_ne (pc := 148) 153 (by decide) (fm_dec dtX1_readUnit 83 rfl) (fun hc148 => by exfalso; revert hc148; decide) (fun _ => ?_)
                refine pv_iconst (pc := 151) (v := 0) (by decide) (fm_dec dtX1_readUnit 84 rfl) ?_
                exact pv_zreturn (pc := 152) rfl (by first | exact Or.inr rfl | exact Or.inl rfl) (fm_dec dtX1_readUnit 85 rfl) (hE.2 Mb kb ab (e0.trans (eU.trans (by rw [eb]; rfl))) (kA.bad hB))
            · refine pv_aloadn (pc := 132) (n := 1) 1 rfl rfl (fm_dec dtX1_readUnit 72 rfl) ?_
              refine pv_iconst (pc := 133) (v := 3) (by decide) (fm_dec dtX1_readUnit 73 rfl) ?_
              refine pv_iload (pc := 134) (i := 4) rfl (fm_dec dtX1_readUnit 74 rfl) ?_
              refine pv_invV2 (k := 1) (d' := 0) (pc := 136) pcv_X1_44 (by decide) rfl (Nat.le_of_ble_eq_true rfl) (by omega) (fm_dec dtX1_readUnit 75 rfl) ?_
              refine c_xfail0 k107.2.1 ?_ 
              refine pv_then1 ?_
              exact pv_zreturn (pc := 139) rfl (by first | exact Or.inr rfl | exact Or.inl rfl) (fm_dec dtX1_readUnit 76 rfl) (hE.2 _ 3 (sk tx p) (e0.trans (eU.trans (if_pos (show o = 6 by have h9 : (6 : Int32).toInt = 6 := (by decide); rw [sc_lt] at hc129; omega)))) (kA.xdb ⟨(show (3 : Int32).toInt = ((3 : Nat) : Int) by decide), k1.1.2.1, by decide, ((xdFr.refl _).set (Or.inr (Or.inl rfl))).set (Or.inr (Or.inr rfl)), xI_45 k107.2.2.2 (show (3 : Int32).toInt = ((3 : Nat) : Int) by decide) (by decide) k1.1.2.1 k1.1.2.2.1 k1.1.2.2.2.1.1⟩))
        · refine pv_then1 ?_
          refine pv_istore (pc := 110) (i := 5) (by decide) rfl (fm_dec dtX1_readUnit 60 rfl) ?_
          dsimp only [List.set_cons_zero, List.set_cons_succ]
          refine pv_iload (pc := 112) (i := 5) rfl (fm_dec dtX1_readUnit 61 rfl) ?_
          refine pv_iconst (pc := 114) (v := (-1)) (by decide) (fm_dec dtX1_readUnit 62 rfl) ?_
          refine pv_icmp_ne (pc := 115) 120 (by decide) (fm_dec dtX1_readUnit 63 rfl) (fun hc115 => by exfalso; revert hc115; decide) (fun _ => ?_)
          refine pv_iconst (pc := 118) (v := 0) (by decide) (fm_dec dtX1_readUnit 64 rfl) ?_
          exact pv_zreturn (pc := 119) rfl (by first | exact Or.inr rfl | exact Or.inl rfl) (fm_dec dtX1_readUnit 65 rfl) (hE.2 Mb 1 (sk tx p) (e0.trans ((un_n (wl_0 (hss ▸ e107)).1 (wl_0 (hss ▸ e107)).2.1 (wl_0 (hss ▸ e107)).2.2 t40).trans (by unfold spBind spNum; rw [hss, if_neg (by simpa using tDn)]))) ((hP.nil.xd k1).xdb (by rw [hss] at hB; exact hB)))
      · have tD9 : 48 ≤ tx (sk tx p) ∧ tx (sk tx p) ≤ 57 := (by rw [sc_lt] at hc70 hc76; have a1 : (48 : Int32).toInt = 48 := (by decide); have a2 : (57 : Int32).toInt = 57 := (by decide); omega)
        have hW9 : tW (tx (sk tx p)) = false := (by unfold tW; rw [decide_eq_false (show ¬ 97 ≤ tx (sk tx p) by omega)]; rfl)
        have uw := un_w hW9
        have eU := un_n (rc := fun q => spL tx f 0 (o + 1) q) (o := o) uw.1 uw.2.1 uw.2.2 t40
        refine pv_aloadn (pc := 79) (n := 0) 0 rfl rfl (fm_dec dtX1_readUnit 44 rfl) ?_
        refine pv_aloadn (pc := 80) (n := 1) 1 rfl rfl (fm_dec dtX1_readUnit 45 rfl) ?_
        refine pv_iconst (pc := 81) (v := 0) (by decide) (fm_dec dtX1_readUnit 46 rfl) ?_
        refine pv_sipush (pc := 82) (v := 999) (by decide) (fm_dec dtX1_readUnit 47 rfl) ?_
        refine pv_invV2 (k := 1) (d' := 2) (pc := 85) pcv_X1_68 (by decide) rfl (Nat.le_of_ble_eq_true rfl) (by omega) (fm_dec dtX1_readUnit 48 rfl) ?_
        refine x_numC 0 999 (by decide) (by decide) (by decide) k1.1 k1.2.1 k1.2.2.2 (fun M85 v85 q85 w85 e85 hw85 k85 => ?_) (fun Mb kb ab eb hB => ?_)  
        · refine pv_then1 ?_
          have n85 := spNum_ok hP.1.2.2.2.1 k1.1.2.2.1 e85
          have kA := hP.nil.xd k1 |>.xd k85
          have hm88 : (M85.1 23 4).toInt = (m : Int) := (by simpa using kA.2.2.2.1)
          have m88 : m < 150 := (by omega)
          have k88 := em_ok (x := w85) (c := (0, v85)) k85.1 k85.2.1 k85.2.2.2 hm88 m88 hw85
          refine pv_invV1 (k := 23) (d' := 0) (pc := 88) pcv_X1_57 (by decide) rfl (Nat.le_of_ble_eq_true rfl) (by omega) (fm_dec dtX1_readUnit 49 rfl) ?_
          refine c_emit hm88 m88 ?_ 
          refine pv_then0 ?_
          refine pv_aloadn (pc := 91) (n := 1) 1 rfl rfl (fm_dec dtX1_readUnit 50 rfl) ?_
          refine pv_invV0 (k := 1) (d' := 0) (pc := 92) pcv_X1_72 (by decide) rfl (Nat.le_of_ble_eq_true rfl) (by omega) (fm_dec dtX1_readUnit 51 rfl) ?_
          refine c_xfailed (fun _ => ?_) (fun h9 => absurd k88.2.1 h9) 
          refine pv_then1 ?_
          refine pv_if_ne (pc := 95) 102 (by decide) (fm_dec dtX1_readUnit 52 rfl) (fun hc95 => by exfalso; revert hc95; decide) (fun _ => ?_)
          refine pv_iconst (pc := 98) (v := 1) (by decide) (fm_dec dtX1_readUnit 53 rfl) ?_
          refine pv_goto (pc := 99) 103 (by decide) (fm_dec dtX1_readUnit 54 rfl) ?_
          exact pv_zreturn (pc := 103) rfl (by first | exact Or.inr rfl | exact Or.inl rfl) (fm_dec dtX1_readUnit 56 rfl) (hE.1 _ [(0, v85)] q85 (e0.trans (eU.trans (by have e9 : spNum tx 0 999 (sk tx p) = .inr (v85, q85) := e85; unfold spBind; rw [e9]))) (by have h9 := kA.trans (by simpa using k88); simpa using h9))
        · refine pv_then1 ?_
          refine pv_invV1 (k := 23) (d' := 0) (pc := 88) pcv_X1_57 (by decide) rfl (Nat.le_of_ble_eq_true rfl) (by omega) (fm_dec dtX1_readUnit 49 rfl) ?_
          refine s_emit (scq_t _) hB.2.2.2.2 (fun M76 hI76 f76 => ?_)
          refine pv_then0 ?_
          have hBb : xlBad M M76 kb ab := ((hP.nil.xd k1).xdb hB).go (emFr rfl f76) (f76 1 4 rfl).1 (f76 1 5 rfl).1 hI76
          refine pv_aloadn (pc := 91) (n := 1) 1 rfl rfl (fm_dec dtX1_readUnit 50 rfl) ?_
          refine pv_invV0 (k := 1) (d' := 0) (pc := 92) pcv_X1_72 (by decide) rfl (Nat.le_of_ble_eq_true rfl) (by omega) (fm_dec dtX1_readUnit 51 rfl) ?_
          refine c_xfailed (fun h9 => absurd h9 (hBb.nz)) (fun _ => ?_) 
          refine pv_then1 ?_
          refine pv_if_ne (pc := 95) 102 (by decide) (fm_dec dtX1_readUnit 52 rfl) (fun _ => ?_) (fun hc95 => by exfalso; revert hc95; decide)
          refine pv_iconst (pc := 102) (v := 0) (by decide) (fm_dec dtX1_readUnit 55 rfl) ?_
          exact pv_zreturn (pc := 103) rfl (by first | exact Or.inr rfl | exact Or.inl rfl) (fm_dec dtX1_readUnit 56 rfl) (hE.2 M76 kb ab (e0.trans (eU.trans (by unfold spBind; rw [show spNum tx 0 999 (sk tx p) = _ from eb]))) hBb)
  · have t40 : tx (sk tx p) = 40 := (by rw [← hv1, hc14]; decide)
    have eU := un_p (rc := fun q => spL tx f 0 (o + 1) q) (o := o) t40
    refine pv_iloadn (pc := 17) (n := 2) 2 rfl rfl (fm_dec dtX1_readUnit 9 rfl) ?_
    refine pv_bipush (pc := 18) (v := 6) (by decide) (fm_dec dtX1_readUnit 10 rfl) ?_
    refine pv_icmp_lt (pc := 20) 31 (by decide) (fm_dec dtX1_readUnit 11 rfl) (fun hc20 => ?_) (fun hc20 => ?_)
    · have o6 : o < 6 := (by have h9 : (6 : Int32).toInt = 6 := (by decide); rw [sc_lt] at hc20; omega)
      have k31 := place1 k1.1 k1.2.1 k1.2.2.2 (by rw [t40]; decide)
      have hP46 := hP1.xd k31 (Nat.le_succ _)
      rw [if_neg (show ¬ o = 6 by omega)] at eU
      have ne46 : ¬ spPar tx (fun q => spL tx f 0 (o + 1) q) (sk tx p + 1) = .inl (9, 0) := fun h9 => hne (e0.trans (eU.trans h9))
      refine pv_aloadn (pc := 31) (n := 1) 1 rfl rfl (fm_dec dtX1_readUnit 17 rfl) ?_
      refine pv_dup (pc := 32) rfl (fm_dec dtX1_readUnit 18 rfl) ?_
      refine pv_getI (k := 1) (j := 3) (ci := 7) (pc := 33) pfl_X1_41 (by decide) rfl (by decide) (fm_dec dtX1_readUnit 19 rfl) ?_
      refine pv_iconst (pc := 36) (v := 1) (by decide) (fm_dec dtX1_readUnit 20 rfl) ?_
      refine pv_iadd (pc := 37) (fm_dec dtX1_readUnit 21 rfl) ?_
      refine pv_putI (k := 1) (j := 3) (ci := 7) (pc := 38) pfl_X1_41 (by decide) rfl (by decide) (fm_dec dtX1_readUnit 22 rfl) ?_
      refine pv_aloadn (pc := 41) (n := 0) 0 rfl rfl (fm_dec dtX1_readUnit 23 rfl) ?_
      refine pv_aloadn (pc := 42) (n := 1) 1 rfl rfl (fm_dec dtX1_readUnit 24 rfl) ?_
      refine pv_iloadn (pc := 43) (n := 2) 2 rfl rfl (fm_dec dtX1_readUnit 25 rfl) ?_
      refine pv_iconst (pc := 44) (v := 1) (by decide) (fm_dec dtX1_readUnit 26 rfl) ?_
      refine pv_iadd (pc := 45) (fm_dec dtX1_readUnit 27 rfl) ?_
      refine pv_invV2 (k := 23) (d' := (8 + 4 * (6 - (o + 1)))) (pc := 46) pcv_X1_31 (by decide) rfl (Nat.le_of_ble_eq_true rfl) (by omega) (fm_dec dtX1_readUnit 28 rfl) ?_
      refine h0 (o + 1) (sk tx p + 1) m _ _ (op + 1) hP46 (i32_p1 ho (by omega)) (by omega) (spBind_ne ne46) ⟨fun M46 c46 q46 e46 k46 => ?_, fun Mb kb ab eb hB => ?_⟩  
      · refine pv_then1 ?_
        refine pv_if_eq (pc := 49) 65 (by decide) (fm_dec dtX1_readUnit 29 rfl) (fun hc49 => by exfalso; revert hc49; decide) (fun _ => ?_)
        refine pv_aloadn (pc := 52) (n := 1) 1 rfl rfl (fm_dec dtX1_readUnit 30 rfl) ?_
        refine pv_bipush (pc := 53) (v := 41) (by decide) (fm_dec dtX1_readUnit 31 rfl) ?_
        refine pv_invV1 (k := 1) (d' := 1) (pc := 55) pcv_X1_64 (by decide) rfl (Nat.le_of_ble_eq_true rfl) (by omega) (fm_dec dtX1_readUnit 32 rfl) ?_
        refine x_signC 41 (by decide) (by decide) k46.1 k46.2.1 k46.2.2.1 (fun M55 q55 e55 k55 => ?_) (fun Mb kb ab eb hB => ?_)  
        · refine pv_then1 ?_
          refine pv_if_eq (pc := 58) 65 (by decide) (fm_dec dtX1_readUnit 33 rfl) (fun hc58 => by exfalso; revert hc58; decide) (fun _ => ?_)
          refine pv_iconst (pc := 61) (v := 1) (by decide) (fm_dec dtX1_readUnit 34 rfl) ?_
          refine pv_goto (pc := 62) 66 (by decide) (fm_dec dtX1_readUnit 35 rfl) ?_
          exact pv_zreturn (pc := 66) rfl (by first | exact Or.inr rfl | exact Or.inl rfl) (fm_dec dtX1_readUnit 37 rfl) (hE.1 M55 c46 q55 (e0.trans (eU.trans (by unfold spPar spBind; dsimp only; rw [e46]; simp only; rw [e55]))) (by have h9 := (((hP.nil.xd k1).xd k31).trans (by simpa using k46)).xd k55; simpa using h9))
        · refine pv_then1 ?_
          refine pv_if_eq (pc := 58) 65 (by decide) (fm_dec dtX1_readUnit 33 rfl) (fun _ => ?_) (fun hc58 => by exfalso; revert hc58; decide)
          refine pv_iconst (pc := 65) (v := 0) (by decide) (fm_dec dtX1_readUnit 36 rfl) ?_
          exact pv_zreturn (pc := 66) rfl (by first | exact Or.inr rfl | exact Or.inl rfl) (fm_dec dtX1_readUnit 37 rfl) (hE.2 Mb kb ab (e0.trans (eU.trans (by unfold spPar spBind; dsimp only; rw [e46]; simp only; rw [eb]))) (by have h9 := (((hP.nil.xd k1).xd k31).trans (by simpa using k46)).xdb hB; exact h9))
      · refine pv_then1 ?_
        refine pv_if_eq (pc := 49) 65 (by decide) (fm_dec dtX1_readUnit 29 rfl) (fun _ => ?_) (fun hc49 => by exfalso; revert hc49; decide)
        refine pv_iconst (pc := 65) (v := 0) (by decide) (fm_dec dtX1_readUnit 36 rfl) ?_
        exact pv_zreturn (pc := 66) rfl (by first | exact Or.inr rfl | exact Or.inl rfl) (fm_dec dtX1_readUnit 37 rfl) (hE.2 Mb kb ab (e0.trans (eU.trans (by unfold spPar spBind; dsimp only; rw [eb]))) (((hP.nil.xd k1).xd k31).bad hB))
    · refine pv_aloadn (pc := 23) (n := 1) 1 rfl rfl (fm_dec dtX1_readUnit 12 rfl) ?_
      refine pv_iconst (pc := 24) (v := 3) (by decide) (fm_dec dtX1_readUnit 13 rfl) ?_
      refine pv_iload (pc := 25) (i := 4) rfl (fm_dec dtX1_readUnit 14 rfl) ?_
      refine pv_invV2 (k := 1) (d' := 0) (pc := 27) pcv_X1_44 (by decide) rfl (Nat.le_of_ble_eq_true rfl) (by omega) (fm_dec dtX1_readUnit 15 rfl) ?_
      refine c_xfail0 k1.2.1 ?_ 
      refine pv_then1 ?_
      exact pv_zreturn (pc := 30) rfl (by first | exact Or.inr rfl | exact Or.inl rfl) (fm_dec dtX1_readUnit 16 rfl) (hE.2 _ 3 (sk tx p) (e0.trans (eU.trans (if_pos (show o = 6 by have h9 : (6 : Int32).toInt = 6 := (by decide); rw [sc_lt] at hc20; omega)))) ((hP.nil.xd k1).xdb ⟨(show (3 : Int32).toInt = ((3 : Nat) : Int) by decide), (k1.1.2.1), by decide, ((xdFr.refl _).set (Or.inr (Or.inl rfl))).set (Or.inr (Or.inr rfl)), xI_45 k1.2.2.2 (show (3 : Int32).toInt = ((3 : Nat) : Int) by decide) (by decide) k1.1.2.1 k1.1.2.2.1 k1.1.2.2.2.1.1⟩))
theorem xl_all {tx : tX} {n : Nat} : ∀ f, xlG tx n f 0 ∧ xlG tx n f 1 ∧ xlG tx n f 2 ∧ xlG tx n f 3 ∧ xlG tx n f 4 := by
  intro f
  induction f with
  | zero => exact ⟨fun o p m M Q op hP ho ho6 hne => absurd rfl hne, fun o p m M Q op hP ho ho6 hne => absurd rfl hne, fun o p m M Q op hP ho ho6 hne => absurd rfl hne, fun o p m M Q op hP ho ho6 hne => absurd rfl hne, fun o p m M Q op hP ho ho6 hne => absurd rfl hne⟩
  | succ f ih => exact ⟨xl_readSum0 ih.2.1 ih.2.2.2.1, xl_readProduct0 ih.2.2.1 ih.2.2.2.2, xl_unit ih.1, xl_readSum3 ih.2.1 ih.2.2.2.1, xl_readProduct3 ih.2.2.1 ih.2.2.2.2⟩
