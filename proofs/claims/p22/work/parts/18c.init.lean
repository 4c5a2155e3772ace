theorem m00_0 (k j : Nat) : (m00.1 k j) = 0 := rfl
theorem invX_0 : ∀ k, k < 190 → ∀ e ∈ invX k, e.1 ≤ 0 ∧ 0 ≤ e.2 := by decide +kernel
theorem scAt_in {l : List scI} {P : scI → Prop} (j : Nat) (h : ∀ e ∈ l, P e) (ht : P scTop) : P (scAt l j) := by
  have g : P (l.getD j scTop) := by
    rw [List.getD_eq_getElem?_getD]
    cases hj : l[j]? with
    | none => exact ht
    | some e => exact h e (List.mem_of_getElem? hj)
  match l, h, g with
  | [], h, g => exact g
  | [e], h, g => exact h e List.mem_cons_self
  | e :: e' :: l, h, g => exact g
theorem invX_big (k : Nat) (h : 190 ≤ k) : invX k = [scTop] := by
  unfold invX
  rw [if_neg (by omega), if_neg (by omega)]
theorem invX_z (k j : Nat) : (scAt (invX k) j).1 ≤ 0 ∧ 0 ≤ (scAt (invX k) j).2 := by
  refine scAt_in j (P := fun e => e.1 ≤ 0 ∧ 0 ≤ e.2) (fun e he => ?_) (by decide)
  by_cases h : k < 190
  · exact invX_0 k h e he
  · rw [invX_big k (by omega)] at he
    have e9 : e = scTop := by simpa using he
    rw [e9]
    decide
theorem inv_m00 : scInv Tx invX m00 := ⟨fun k j hj => by rw [m00_0, show (0 : Int32).toInt = 0 by decide]; exact invX_z k j, fun hm => absurd hm (by decide)⟩
theorem inv_mX : scInv Tx invX mX := by
  unfold mX
  exact xInv.put (xInv.put (xInv.put (xInv.put (xInv.put (xInv.put (xInv.put (xInv.put (xInv.put (xInv.put (xInv.put (xInv.put (xInv.put inv_m00 (by decide)) (by decide)) (by decide)) (by decide)) (by decide)) (by decide)) (by decide)) (by decide)) (by decide)) (by decide)) (by decide)) (by decide)) (by decide)
theorem inv_x0 {M : fmM} (h : xInit M) : scInv Tx invX M := by
  obtain ⟨h0, h1, h2, h3, h4, h5, h6⟩ := h
  refine ⟨fun k j hj => ?_, fun hm => absurd hm (by decide)⟩
  by_cases e : k = 47
  · subst e
    have hj : j < 7 := hj
    rcases (show j = 0 ∨ j = 1 ∨ j = 2 ∨ j = 3 ∨ j = 4 ∨ j = 5 ∨ j = 6 by omega) with rfl | rfl | rfl | rfl | rfl | rfl | rfl
    · exact scq_t _
    · exact scq_t _
    · rw [h2]; decide
    · exact scq_t _
    · exact scq_t _
    · exact scq_t _
    · exact scq_t _
  · by_cases e2 : k = 48
    · subst e2
      exact scq_t _
    · rw [h0 k e e2]
      exact inv_mX.1 k j hj
theorem invM_0 : ∀ k, k < 522 → k ≠ 4 → ∀ e ∈ invM k, e.1 ≤ 0 ∧ 0 ≤ e.2 := by decide +kernel
theorem invM_z (k j : Nat) (h4 : k ≠ 4) (h9 : k ≠ 999) : (scAt (invM k) j).1 ≤ 0 ∧ 0 ≤ (scAt (invM k) j).2 := by
  refine scAt_in j (P := fun e => e.1 ≤ 0 ∧ 0 ≤ e.2) (fun e he => ?_) (by decide)
  by_cases h : k < 522
  · exact invM_0 k h h4 e he
  · have e1 : invM k = [scTop] := by
      unfold invM
      rw [if_neg h9]
      repeat rw [if_neg (by omega)]
    rw [e1] at he
    have e9 : e = scTop := by simpa using he
    rw [e9]
    decide
def m9 (M : fmM) : fmM := fmA M 999 (fun _ => 1)
theorem m9_k {M : fmM} {k : Nat} (h : k ≠ 999) : (m9 M).1 k = M.1 k := by simp [m9, fmA, h]
theorem fmL_9 {G : fmG} {M : fmM} : fmL Tm G (m9 M) = fmL Tm G M := by
  unfold fmL
  refine List.map_congr_left (fun k hk => ?_)
  have h : k < 522 := List.mem_range.mp hk
  rw [show fmEnt Tm G (m9 M) k = fmEnt Tm G M k from fmEnt_A k (by omega)]
theorem tnM_k {k : Nat} (h : k ≠ 3) (j : Nat) : (tnM mM).1 k j = if k = 0 ∧ j = 3 then -1 else 0 := by
  unfold tnM mM
  rw [fmI_k _ _ h, fmI_k _ _ h, fmI_k _ _ h, fmI_k _ _ h, fmI_k _ _ h, fmI_k _ _ h, fmI_at]
  split <;> rfl
theorem z_in {k j : Nat} {x : Int32} (h4 : k ≠ 4) (h9 : k ≠ 999) (h : x = 0) : (scAt (invM k) j).1 ≤ x.toInt ∧ x.toInt ≤ (scAt (invM k) j).2 := by
  rw [h, show (0 : Int32).toInt = 0 by decide]
  exact invM_z k j h4 h9
theorem inv_m0 {M : fmM} (h : mInit M) : scInv Tm invM (m9 M) := by
  obtain ⟨⟨a1, a2, a3, a4, a5⟩, ⟨b1, b2, b3⟩, ⟨c1, c2, c3, c4, c5⟩, d1, d2, d3, d4⟩ := h
  refine ⟨fun k j hj => ?_, fun hm => ⟨⟨[], ?_, by decide, Or.inl rfl, fun i c hi => by cases hi⟩, fun i hi hl => ?_⟩⟩
  · by_cases e9 : k = 999
    · subst e9
      show (1 : Int) ≤ ((1 : Int32)).toInt ∧ ((1 : Int32)).toInt ≤ 1
      decide
    · rw [m9_k e9]
      by_cases e0 : k = 0
      · subst e0
        by_cases e1 : j = 17 ∨ j = 31 ∨ j = 32 ∨ j = 33 ∨ j = 34
        · exact z_in (by decide) (by decide) (by rcases e1 with rfl | rfl | rfl | rfl | rfl <;> assumption)
        · by_cases e3 : j = 3
          · subst e3
            rw [d2 3 (by decide) (by decide) (by decide) (by decide) (by decide), tnM_k (by decide)]
            decide
          · exact z_in (by decide) (by decide) (by rw [d2 j (by omega) (by omega) (by omega) (by omega) (by omega), tnM_k (by decide), if_neg (fun h => e3 h.2)])
      · by_cases e4 : k = 4
        · subst e4
          have hj : j < 6 := hj
          rcases (show j = 0 ∨ j = 1 ∨ j = 2 ∨ j = 3 ∨ j = 4 ∨ j = 5 by omega) with rfl | rfl | rfl | rfl | rfl | rfl
          · rw [a1]; decide
          · rw [a2]; decide
          · rw [a3 2 (by decide) (by decide)]; decide
          · rw [a3 3 (by decide) (by decide)]; decide
          · rw [a3 4 (by decide) (by decide)]; decide
          · rw [a3 5 (by decide) (by decide)]; decide
        · by_cases e7 : k = 7
          · subst e7
            have hj : j < 14 := hj
            by_cases e8 : 1 ≤ j ∧ j < 9
            · obtain ⟨i, rfl⟩ : ∃ i, j = 1 + i := ⟨j - 1, by omega⟩
              rw [inv_7 i (by omega), b1 i (by omega), if_neg (fun h => absurd h.1 (Nat.not_lt_zero _))]
              decide
            · by_cases e9 : j = 9
              · subst e9
                rw [b2]
                decide
              · exact z_in (by decide) (by decide) (b3 j (by omega))
          · by_cases e3 : k = 3
            · subst e3
              rw [inv_top (Or.inl rfl) j]
              exact scq_t _
            · refine z_in e4 e9 ?_
              by_cases e35 : (35 ≤ k ∧ k < 43) ∨ (67 ≤ k ∧ k < 91)
              · rw [d3 k j (show (35 + 0 ≤ k ∧ k < 43) ∨ (67 + 0 ≤ k ∧ k < 91) by omega), tnM_k e3, if_neg (fun h => e0 h.1)]
              · rw [d1 k j e0 e4 e7 (by omega) (by omega), tnM_k e3, if_neg (fun h => e0 h.1)]
  · rw [m9_k (by decide), c1]
    decide
  · rw [m9_k (by decide), a1] at hl
    have hl : (i : Int) < 0 := hl
    omega
