-- THE REFERENCE READS DRAWERS
def dRep (M : fmM) (D : dD) : Prop := (M.1 3 0).toInt = (D.1 : Int) ∧ (M.1 3 1).toInt = (D.2.2.1 : Int) ∧ (∀ k, 2 ≤ k → k ≤ 5 → (M.1 3 k).toInt = D.2.2.2.2 k) ∧ (∀ i, i < D.1 → ∀ j, j < 6 → (M.1 (27 + i) j).toInt = D.2.1 i j) ∧ ∀ i, i < D.2.2.1 → ∀ j, j < 3 → (M.1 (43 + i) j).toInt = D.2.2.2.1 i j
def clFr (M M' : fmM) : Prop := (∀ k j, k ≠ 0 → k ≠ 3 → ¬ (27 ≤ k ∧ k < 35) → ¬ (43 ≤ k ∧ k < 67) → M'.1 k j = M.1 k j) ∧ (∀ j, j ≠ 4 → j ≠ 5 → j ≠ 6 → j ≠ 7 → M'.1 0 j = M.1 0 j) ∧ M'.2 = M.2
def clOk (M M' : fmM) (tx : tX) (n q : Nat) (D : dD) : Prop := rS M' tx n q ∧ M'.1 0 5 = 0 ∧ dRep M' D ∧ M'.1 0 7 = M.1 0 7 + 1 ∧ clFr M M'
def clBad (M M' : fmM) (tx : tX) (n k a : Nat) : Prop := (∃ q, rS M' tx n q) ∧ (M'.1 0 5).toInt = k ∧ (M'.1 0 6).toInt = a ∧ k ≠ 0 ∧ clFr M M'
theorem clFr.refl (M : fmM) : clFr M M := ⟨fun _ _ _ _ _ _ => rfl, fun _ _ _ _ _ => rfl, rfl⟩
theorem clFr.rd {M M1 M2 : fmM} (h : clFr M M1) (h' : rdFr M1 M2) : clFr M M2 := ⟨fun k j a b c d => (h'.1 k j a).trans (h.1 k j a b c d), fun j a b c d => (h'.2.1 j a b c).trans (h.2.1 j a b c d), h'.2.2.trans h.2.2⟩
theorem clFr.trans {M M1 M2 : fmM} (h : clFr M M1) (h' : clFr M1 M2) : clFr M M2 := ⟨fun k j a b c d => (h'.1 k j a b c d).trans (h.1 k j a b c d), fun j a b c d => (h'.2.1 j a b c d).trans (h.2.1 j a b c d), h'.2.2.trans h.2.2⟩
theorem clFr.row {M M1 : fmM} {k j : Nat} {x : Int32} (h : clFr M M1) (hk : k = 3 ∨ (27 ≤ k ∧ k < 35) ∨ (43 ≤ k ∧ k < 67)) : clFr M (fmI M1 k j x) := by
  refine ⟨fun k' j' a b c d => ?_, fun j' a b c d => ?_, h.2.2⟩
  · rw [fmI_k _ _ (by omega)]
    exact h.1 k' j' a b c d
  · rw [fmI_k _ _ (by omega)]
    exact h.2.1 j' a b c d
theorem clFr.c7 {M M1 : fmM} {x : Int32} (h : clFr M M1) : clFr M (fmI M1 0 7 x) := by
  refine ⟨fun k' j' a b c d => ?_, fun j' a b c d => ?_, h.2.2⟩
  · rw [fmI_k _ _ a]
    exact h.1 k' j' a b c d
  · rw [fmI_j _ _ d]
    exact h.2.1 j' a b c d
theorem clBad.row {M M1 : fmM} {tx : tX} {n kf a k j : Nat} {x : Int32} (hk : k = 3 ∨ (27 ≤ k ∧ k < 35) ∨ (43 ≤ k ∧ k < 67)) (h : clBad M M1 tx n kf a) : clBad M (fmI M1 k j x) tx n kf a := by
  obtain ⟨⟨q, h1⟩, h2, h3, h4, h5⟩ := h
  have e : ∀ j', (fmI M1 k j x).1 0 j' = M1.1 0 j' := fun j' => by rw [fmI_k _ _ (by omega)]
  refine ⟨⟨q, h1.of (e 2) (e 4) ?_⟩, by rw [e]; exact h2, by rw [e]; exact h3, h4, h5.row hk⟩
  rw [fmI_k _ _ (by omega)]
theorem clBad.of {M M1 M2 : fmM} {tx : tX} {n k a : Nat} (h : clFr M M1) (hB : rdBad M1 M2 tx n k a) : clBad M M2 tx n k a := ⟨hB.1, hB.2.1, hB.2.2.1, hB.2.2.2.1, h.rd hB.2.2.2.2⟩
theorem clBad.nz {M M' : fmM} {tx : tX} {n k a : Nat} (h : clBad M M' tx n k a) : ¬ M'.1 0 5 = 0 := by
  intro e
  have h1 := h.2.1
  rw [e] at h1
  have e0 : (0 : Int32).toInt = 0 := by decide
  have := h.2.2.2.1
  omega
theorem rS.row {M : fmM} {tx : tX} {n p k j : Nat} {x : Int32} (h : rS M tx n p) (hk : k ≠ 0 ∧ k ≠ 1) : rS (fmI M k j x) tx n p := h.of (by rw [fmI_k _ _ (fun e => hk.1 e.symm)]) (by rw [fmI_k _ _ (fun e => hk.1 e.symm)]) (by rw [fmI_k _ _ (fun e => hk.2 e.symm)])
theorem f0.row {M : fmM} {k j i : Nat} {x v : Int32} (h : M.1 0 i = v) (hk : k ≠ 0) : (fmI M k j x).1 0 i = v := by rw [fmI_k _ _ (fun e => hk e.symm)]; exact h
theorem dRep.rd {M M' : fmM} {D : dD} (h : dRep M D) (hf : rdFr M M') : dRep M' D := by
  obtain ⟨h1, h2, h3, h4, h5⟩ := h
  refine ⟨?_, ?_, fun k a b => ?_, fun i hi j hj => ?_, fun i hi j hj => ?_⟩
  · rw [hf.1 _ _ (by decide)]; exact h1
  · rw [hf.1 _ _ (by decide)]; exact h2
  · rw [hf.1 _ _ (by decide)]; exact h3 k a b
  · rw [hf.1 _ _ (by omega)]; exact h4 i hi j hj
  · rw [hf.1 _ _ (by omega)]; exact h5 i hi j hj
theorem rep_life {M2 Ma Mb Mc Md Me : fmM} {D : dD} {wa wb wc wd : Int32} {a b c d : Nat} (h : dRep M2 D) (hl : D.1 < 8) (f1 : rdFr M2 Ma) (f2 : rdFr (fmI Ma (27 + D.1) 0 wa) Mb) (f3 : rdFr (fmI Mb (27 + D.1) 1 wb) Mc) (f4 : rdFr (fmI Mc (27 + D.1) 2 wc) Md) (f5 : rdFr (fmI (fmI (fmI (fmI Md (27 + D.1) 3 wd) (27 + D.1) 4 (-1)) (27 + D.1) 5 (-1)) 3 0 ((fmI (fmI (fmI Md (27 + D.1) 3 wd) (27 + D.1) 4 (-1)) (27 + D.1) 5 (-1)).1 3 0 + 1)) Me) (ha : wa.toInt = a) (hb : wb.toInt = b) (hc : wc.toInt = c) (hd : wd.toInt = d) : dRep Me (D.1 + 1, dRow D.2.1 D.1 [(a : Int), b, c, d, -1, -1], D.2.2) := by
  obtain ⟨h1, h2, h3, h4, h5⟩ := h
  have g : ∀ k j, k ≠ 0 → k ≠ 27 + D.1 → Md.1 k j = M2.1 k j := fun k j a b => by
    rw [f4.1 k j a, fmI_k _ _ b, f3.1 k j a, fmI_k _ _ b, f2.1 k j a, fmI_k _ _ b, f1.1 k j a]
  have r0 : Md.1 (27 + D.1) 0 = wa := by
    rw [f4.1 _ _ (by omega), fmI_j _ _ (by decide), f3.1 _ _ (by omega), fmI_j _ _ (by decide), f2.1 _ _ (by omega), fmI_s]
  have r1 : Md.1 (27 + D.1) 1 = wb := by
    rw [f4.1 _ _ (by omega), fmI_j _ _ (by decide), f3.1 _ _ (by omega), fmI_s]
  have r2 : Md.1 (27 + D.1) 2 = wc := by
    rw [f4.1 _ _ (by omega), fmI_s]
  have e3 : ∀ j, j ≠ 0 → Me.1 3 j = M2.1 3 j := fun j hj => by
    rw [f5.1 _ _ (by decide), fmI_j _ _ hj, fmI_k _ _ (by omega), fmI_k _ _ (by omega), fmI_k _ _ (by omega), g 3 j (by decide) (by omega)]
  refine ⟨?_, ?_, fun k a b => ?_, fun i hi j hj => ?_, fun i hi j hj => ?_⟩
  · rw [f5.1 _ _ (by decide), fmI_s, fmI_k _ _ (by omega), fmI_k _ _ (by omega), fmI_k _ _ (by omega), g 3 0 (by decide) (by omega)]
    exact i32_p1 h1 (by omega)
  · rw [e3 1 (by decide)]
    exact h2
  · rw [e3 k (by omega)]
    exact h3 k a b
  · rw [f5.1 _ _ (by omega), fmI_k _ _ (by omega)]
    have hi : i < D.1 + 1 := hi
    by_cases e : i = D.1
    · subst e
      show _ = dRow D.2.1 D.1 [(a : Int), b, c, d, -1, -1] D.1 j
      simp only [dRow, if_true]
      rcases (show j = 0 ∨ j = 1 ∨ j = 2 ∨ j = 3 ∨ j = 4 ∨ j = 5 by omega) with rfl | rfl | rfl | rfl | rfl | rfl
      · rw [fmI_j _ _ (by decide), fmI_j _ _ (by decide), fmI_j _ _ (by decide), r0]; exact ha
      · rw [fmI_j _ _ (by decide), fmI_j _ _ (by decide), fmI_j _ _ (by decide), r1]; exact hb
      · rw [fmI_j _ _ (by decide), fmI_j _ _ (by decide), fmI_j _ _ (by decide), r2]; exact hc
      · rw [fmI_j _ _ (by decide), fmI_j _ _ (by decide), fmI_s]; exact hd
      · rw [fmI_j _ _ (by decide), fmI_s]; rfl
      · rw [fmI_s]; rfl
    · show _ = dRow D.2.1 D.1 [(a : Int), b, c, d, -1, -1] i j
      simp only [dRow, e, if_false]
      rw [fmI_k _ _ (by omega), fmI_k _ _ (by omega), fmI_k _ _ (by omega), g _ _ (by omega) (by omega)]
      exact h4 i (by omega) j hj
  · rw [f5.1 _ _ (by omega), fmI_k _ _ (by omega), fmI_k _ _ (by omega), fmI_k _ _ (by omega), fmI_k _ _ (by omega), g _ _ (by omega) (by omega)]
    exact h5 i hi j hj
theorem rep_fact {M2 Ma Mb Mc Me : fmM} {D : dD} {wa wb wc : Int32} {a b c : Nat} (h : dRep M2 D) (hl : D.1 ≤ 8) (hf : D.2.2.1 < 24) (f1 : rdFr M2 Ma) (f2 : rdFr (fmI Ma (43 + D.2.2.1) 0 wa) Mb) (f3 : rdFr (fmI Mb (43 + D.2.2.1) 1 wb) Mc) (f5 : rdFr (fmI (fmI Mc (43 + D.2.2.1) 2 wc) 3 1 ((fmI Mc (43 + D.2.2.1) 2 wc).1 3 1 + 1)) Me) (ha : wa.toInt = a) (hb : wb.toInt = b) (hc : wc.toInt = c) : dRep Me (D.1, D.2.1, D.2.2.1 + 1, dRow D.2.2.2.1 D.2.2.1 [(a : Int), b, c], D.2.2.2.2) := by
  obtain ⟨h1, h2, h3, h4, h5⟩ := h
  have g : ∀ k j, k ≠ 0 → k ≠ 43 + D.2.2.1 → Mc.1 k j = M2.1 k j := fun k j a b => by
    rw [f3.1 k j a, fmI_k _ _ b, f2.1 k j a, fmI_k _ _ b, f1.1 k j a]
  have r0 : Mc.1 (43 + D.2.2.1) 0 = wa := by
    rw [f3.1 _ _ (by omega), fmI_j _ _ (by decide), f2.1 _ _ (by omega), fmI_s]
  have r1 : Mc.1 (43 + D.2.2.1) 1 = wb := by
    rw [f3.1 _ _ (by omega), fmI_s]
  have e3 : ∀ j, j ≠ 1 → Me.1 3 j = M2.1 3 j := fun j hj => by
    rw [f5.1 _ _ (by decide), fmI_j _ _ hj, fmI_k _ _ (by omega), g 3 j (by decide) (by omega)]
  refine ⟨?_, ?_, fun k a b => ?_, fun i hi j hj => ?_, fun i hi j hj => ?_⟩
  · rw [e3 0 (by decide)]
    exact h1
  · rw [f5.1 _ _ (by decide), fmI_s, fmI_k _ _ (by omega), g 3 1 (by decide) (by omega)]
    exact i32_p1 h2 (by omega)
  · rw [e3 k (by omega)]
    exact h3 k a b
  · have hi : i < D.1 := hi
    rw [f5.1 _ _ (by omega), fmI_k _ _ (by omega), fmI_k _ _ (by omega), g _ _ (by omega) (by omega)]
    exact h4 i hi j hj
  · rw [f5.1 _ _ (by omega), fmI_k _ _ (by omega)]
    have hi : i < D.2.2.1 + 1 := hi
    by_cases e : i = D.2.2.1
    · subst e
      show _ = dRow D.2.2.2.1 D.2.2.1 [(a : Int), b, c] D.2.2.1 j
      simp only [dRow, if_true]
      rcases (show j = 0 ∨ j = 1 ∨ j = 2 by omega) with rfl | rfl | rfl
      · rw [fmI_j _ _ (by decide), r0]; exact ha
      · rw [fmI_j _ _ (by decide), r1]; exact hb
      · rw [fmI_s]; exact hc
    · show _ = dRow D.2.2.2.1 D.2.2.1 [(a : Int), b, c] i j
      simp only [dRow, e, if_false]
      rw [fmI_k _ _ (by omega), g _ _ (by omega) (by omega)]
      exact h5 i (by omega) j hj
/-- one number of a life -/
theorem rep_set {M2 Me : fmM} {D : dD} {w : Int32} {i c : Nat} {v : Int} (h : dRep M2 D) (hi : i < D.1) (hl : D.1 ≤ 8) (f5 : rdFr (fmI M2 (27 + i) c w) Me) (hw : w.toInt = v) : dRep Me (D.1, dSet D.2.1 i c v, D.2.2) := by
  obtain ⟨h1, h2, h3, h4, h5⟩ := h
  refine ⟨?_, ?_, fun k a b => ?_, fun i' hi' j hj => ?_, fun i' hi' j hj => ?_⟩
  · rw [f5.1 _ _ (by decide), fmI_k _ _ (by omega)]; exact h1
  · rw [f5.1 _ _ (by decide), fmI_k _ _ (by omega)]; exact h2
  · rw [f5.1 _ _ (by decide), fmI_k _ _ (by omega)]; exact h3 k a b
  · rw [f5.1 _ _ (by omega), fmI_at]
    show _ = dSet D.2.1 i c v i' j
    simp only [dSet]
    have e : (27 + i' = 27 + i ∧ j = c) ↔ (i' = i ∧ j = c) := by omega
    by_cases e2 : i' = i ∧ j = c
    · rw [if_pos (e.mpr e2), if_pos e2]; exact hw
    · rw [if_neg (fun h => e2 (e.mp h)), if_neg e2]; exact h4 i' hi' j hj
  · rw [f5.1 _ _ (by omega), fmI_k _ _ (by omega)]; exact h5 i' hi' j hj
theorem rep_rule {M2 Me : fmM} {D : dD} {w : Int32} {k : Nat} {v : Int} (h : dRep M2 D) (hk : 2 ≤ k ∧ k ≤ 5) (f5 : rdFr (fmI M2 3 k w) Me) (hw : w.toInt = v) : dRep Me (D.1, D.2.1, D.2.2.1, D.2.2.2.1, fun k' => if k' = k then v else D.2.2.2.2 k') := by
  obtain ⟨h1, h2, h3, h4, h5⟩ := h
  refine ⟨?_, ?_, fun k' a b => ?_, fun i' hi' j hj => ?_, fun i' hi' j hj => ?_⟩
  · rw [f5.1 _ _ (by decide), fmI_j _ _ (by omega)]; exact h1
  · rw [f5.1 _ _ (by decide), fmI_j _ _ (by omega)]; exact h2
  · rw [f5.1 _ _ (by decide)]
    show _ = if k' = k then v else D.2.2.2.2 k'
    by_cases e : k' = k
    · subst e
      rw [fmI_s, if_pos rfl]; exact hw
    · rw [fmI_j _ _ e, if_neg e]; exact h3 k' a b
  · rw [f5.1 _ _ (by omega), fmI_k _ _ (by omega)]; exact h4 i' hi' j hj
  · rw [f5.1 _ _ (by omega), fmI_k _ _ (by omega)]; exact h5 i' hi' j hj
