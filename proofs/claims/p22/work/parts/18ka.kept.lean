-- WHAT STAYS
def kpIn (P : List (Nat × Nat) × List (Nat × Nat)) (k j : Nat) : Bool := P.1.any (fun p => Nat.ble p.1 k && Nat.ble k p.2) || P.2.any (fun p => Nat.beq p.1 k && Nat.beq p.2 j)
def kpOk (P : List (Nat × Nat) × List (Nat × Nat)) (W : List (Nat × Nat × Nat)) : Bool := P.1.all (fun p => W.all (fun w => Nat.blt w.1 p.1 || Nat.blt p.2 w.1)) && P.2.all (fun p => W.all (fun w => Nat.blt w.1 p.1 || Nat.blt p.1 w.1 || Nat.ble (w.2.1 + w.2.2) p.2 || Nat.blt p.2 w.2.1))
/-- the places of P are as they were -/
def kpt (P : List (Nat × Nat) × List (Nat × Nat)) (M M' : fmM) : Prop := ∀ k j, kpIn P k j = true → M'.1 k j = M.1 k j
theorem kpt.refl {P : List (Nat × Nat) × List (Nat × Nat)} (M : fmM) : kpt P M M := fun _ _ _ => rfl
theorem kpt.trans {P : List (Nat × Nat) × List (Nat × Nat)} {M M1 M2 : fmM} (h : kpt P M M1) (h' : kpt P M1 M2) : kpt P M M2 := fun k j hk => (h' k j hk).trans (h k j hk)
theorem kp_of {P : List (Nat × Nat) × List (Nat × Nat)} {W : List (Nat × Nat × Nat)} {M M' : fmM} (h : scFr W M M') (hd : kpOk P W = true) : kpt P M M' := fun k j hk => by
  refine (h k j ?_).1
  cases e : scIn W k j with
  | false => rfl
  | true =>
    exfalso
    obtain ⟨w, hw, h2⟩ := List.any_eq_true.mp e
    simp only [Bool.and_eq_true, Nat.ble_eq, beq_iff_eq, Nat.blt_eq] at h2
    unfold kpOk at hd
    rw [Bool.and_eq_true] at hd
    unfold kpIn at hk
    rw [Bool.or_eq_true] at hk
    rcases hk with hk | hk
    · obtain ⟨p, hp, h1⟩ := List.any_eq_true.mp hk
      have h3 := List.all_eq_true.mp (List.all_eq_true.mp hd.1 p hp) w hw
      simp only [Bool.and_eq_true, Nat.ble_eq] at h1
      simp only [Bool.or_eq_true, Nat.blt_eq] at h3
      omega
    · obtain ⟨p, hp, h1⟩ := List.any_eq_true.mp hk
      have h3 := List.all_eq_true.mp (List.all_eq_true.mp hd.2 p hp) w hw
      simp only [Bool.and_eq_true, Nat.beq_eq] at h1
      simp only [Bool.or_eq_true, Nat.ble_eq, Nat.blt_eq] at h3
      omega
theorem kpt.sub {P P' : List (Nat × Nat) × List (Nat × Nat)} {M M' : fmM} (h : kpt P M M') (h1 : ∀ q ∈ P'.1, q ∈ P.1) (h2 : ∀ q ∈ P'.2, q ∈ P.2) : kpt P' M M' := fun k j hk => by
  refine h k j ?_
  unfold kpIn at hk ⊢
  rw [Bool.or_eq_true] at hk ⊢
  rcases hk with hk | hk
  · obtain ⟨p, hp, g⟩ := List.any_eq_true.mp hk
    exact Or.inl (List.any_eq_true.mpr ⟨p, h1 p hp, g⟩)
  · obtain ⟨p, hp, g⟩ := List.any_eq_true.mp hk
    exact Or.inr (List.any_eq_true.mpr ⟨p, h2 p hp, g⟩)
abbrev PXk : List (Nat × Nat) × List (Nat × Nat) := ([(3, 12), (23, 25), (27, 27)], [(0, 13)])
abbrev PMk : List (Nat × Nat) × List (Nat × Nat) := ([(4, 4), (35, 42), (67, 90), (91, 250), (411, 416)], [(0, 17), (0, 31), (0, 34)])
theorem kpx_k {k j : Nat} (h : kpIn PXk k j = true) : (k = 0 ∧ j = 13) ∨ (3 ≤ k ∧ k ≤ 27 ∧ (k ≤ 12 ∨ 23 ≤ k)) := by
  simp only [kpIn, List.any_cons, List.any_nil, Bool.or_eq_true, Bool.and_eq_true, Nat.ble_eq, Nat.beq_eq, Bool.false_eq_true, or_false] at h
  omega
theorem kpm_k {k j : Nat} (h : kpIn PMk k j = true) : (k = 0 ∧ (j = 17 ∨ j = 31 ∨ j = 34)) ∨ (k = 4 ∨ (35 ≤ k ∧ k < 43) ∨ (67 ≤ k ∧ k < 91) ∨ (91 ≤ k ∧ k < 251) ∨ (411 ≤ k ∧ k < 417)) := by
  simp only [kpIn, List.any_cons, List.any_nil, Bool.or_eq_true, Bool.and_eq_true, Nat.ble_eq, Nat.beq_eq, Bool.false_eq_true, or_false] at h
  omega
theorem kp_op {M : fmM} {n : Int32} : kpt PXk M (opM M n) := fun k j hk => by
  have h9 := kpx_k hk
  unfold opM
  rw [fmI_k _ _ (by omega), fmI_k _ _ (by omega), fmI_k _ _ (by omega), fmI_k _ _ (by omega), fmI_k _ _ (by omega)]
theorem kp_xI {M M1 : fmM} {a b : Nat} {x : Int32} (h : kpt PXk M M1) (hn : (a = 0 ∧ b ≠ 13) ∨ a = 1 ∨ a = 2) : kpt PXk M (fmI M1 a b x) := fun k j hk => by
  have h9 := kpx_k hk
  rw [fmI_at, if_neg (by omega)]
  exact h k j hk
theorem kp_mI {M M1 : fmM} {a b : Nat} {x : Int32} (h : kpt PMk M M1) (hn : (a = 0 ∧ b ≠ 17 ∧ b ≠ 31 ∧ b ≠ 34) ∨ a = 1 ∨ a = 2 ∨ a = 3) : kpt PMk M (fmI M1 a b x) := fun k j hk => by
  have h9 := kpm_k hk
  rw [fmI_at, if_neg (by omega)]
  exact h k j hk
theorem kp_rf {M : fmM} {w : Int32} {r : Nat} : kpt PMk M (rfM M w r) := kp_mI (kp_mI (kp_mI (kpt.refl M) (by decide)) (by decide)) (by omega)
theorem kp_st {M M1 : fmM} {tx : tX} {n : Nat} (h : stOk (fmI M 0 0 0) M1 tx n) : kpt PMk M M1 := fun k j hk => by
  have h9 := kpm_k hk
  by_cases e : k = 0
  · subst e
    exact st_j h (by omega)
  · exact st_k h e
theorem kp_sr {b : Nat} {M M' : fmM} (h : srFr b M M') : kpt PMk M M' := fun k j hk => by
  have h9 := kpm_k hk
  by_cases e : k = 0
  · subst e
    exact h.2.1 j (by omega) (by omega) (by omega) (by omega) (by omega)
  · exact h.1 k j e (by omega)
theorem kp_law {M M' : fmM} (h : lawFr M M') : kpt ([(4, 4), (35, 42), (67, 90), (411, 416)], [(0, 31), (0, 34)]) M M' := fun k j hk => by
  simp only [kpIn, List.any_cons, List.any_nil, Bool.or_eq_true, Bool.and_eq_true, Nat.ble_eq, Nat.beq_eq, Bool.false_eq_true, or_false] at hk
  by_cases e : k = 0
  · subst e
    exact h.2.1 j (by omega) (by omega) (by omega)
  · exact h.1 k j e (by omega)
theorem kp_pg {M M' : fmM} (h : pgFr M M') : kpt ([(4, 4), (35, 42), (67, 90), (91, 250)], [(0, 17), (0, 34)]) M M' := fun k j hk => by
  simp only [kpIn, List.any_cons, List.any_nil, Bool.or_eq_true, Bool.and_eq_true, Nat.ble_eq, Nat.beq_eq, Bool.false_eq_true, or_false] at hk
  by_cases e : k = 0
  · subst e
    exact h.2.1 j (by omega) (by omega) (by omega) (by omega) (by omega)
  · exact h.1 k j e (by omega)
/-- how a text's call ends, on each side -/
def ouO {α : Type} (P : Prop) (nn : Int32) (S : Nat → (Nat × Nat) ⊕ α) (new : α → Prop) (kept : Prop) : Prop := (¬ P ∧ kept) ∨ (P ∧ ∃ (n : Nat) (x : α), nn.toInt = (n : Int) ∧ S n = .inr x ∧ new x) ∨ (P ∧ ∃ (n k a : Nat), nn.toInt = (n : Int) ∧ S n = .inl (k, a) ∧ kept)
theorem ouO_glue {α : Type} {P : Prop} {nn : Int32} {S : Nat → (Nat × Nat) ⊕ α} {n1 n2 : α → Prop} {k1 k2 R : Prop} (h : ouO P nn S n1 k1) (h2 : ouO P nn S n2 k2) (hk : k1 → k2 → R) (hn : ∀ x, n1 x → n2 x → R) : R := by
  rcases h with ⟨p, k⟩ | ⟨p, n, D, e, s, w⟩ | ⟨p, n, k, a, e, s, w⟩ <;> rcases h2 with ⟨p2, k2⟩ | ⟨p2, n2, D2, e2, s2, w2⟩ | ⟨p2, n2, k2, a2, e2, s2, w2⟩
  · exact hk k k2
  · exact absurd p2 p
  · exact absurd p2 p
  · exact absurd p p2
  · have en : n2 = n := by omega
    subst en
    rw [s] at s2
    cases s2
    exact hn _ w w2
  · have en : n2 = n := by omega
    subst en
    rw [s] at s2
    cases s2
  · exact absurd p p2
  · have en : n2 = n := by omega
    subst en
    rw [s] at s2
    cases s2
  · exact hk w w2
def bI (t : Bool) : Int32 := if t then 1 else 0
theorem bI_0 {t : Bool} : bI t = 0 ↔ t = false := by cases t <;> decide
theorem bI_e {t u : Bool} : bI t = bI u ↔ t = u := by cases t <;> cases u <;> decide
theorem kp_cl {M M' : fmM} (h : clFr M M') : kpt PMk M M' := fun k j hk => by
  have h9 := kpm_k hk
  by_cases e : k = 0
  · subst e
    exact h.2.1 j (by omega) (by omega) (by omega) (by omega)
  · exact h.1 k j e (by omega) (by omega) (by omega)
