-- DRAWERS AS TEXTS, and the reference's
/-- lives (how many; of each age, odds, worth, hours, piece, by), facts (how many; of each life, kind, week), rules (2 hours, 3 lack, 4 wrong, 5 half) -/
abbrev dD : Type := Nat × (Nat → Nat → Int) × Nat × (Nat → Nat → Int) × (Nat → Int)
def dwK (w : List Int) : Option Nat := if w = [108, 105, 102, 101] then some 0 else if w = [102, 97, 99, 116] then some 1 else if w = [104, 111, 117, 114, 115] then some 2 else if w = [108, 97, 99, 107] then some 3 else if w = [119, 114, 111, 110, 103] then some 4 else if w = [104, 97, 108, 102] then some 5 else if w = [104, 97, 115] then some 6 else if w = [98, 121] then some 7 else none
def dSet (L : Nat → Nat → Int) (i j : Nat) (v : Int) : Nat → Nat → Int := fun i' j' => if i' = i ∧ j' = j then v else L i' j'
def dRow (L : Nat → Nat → Int) (i : Nat) (r : List Int) : Nat → Nat → Int := fun i' j' => if i' = i then r.getD j' 0 else L i' j'
def dLo (k : Nat) : Int := if k = 2 ∨ k = 5 then 1 else 0
def dHi (k : Nat) : Int := if k = 2 then 12 else if k = 5 then 4 else 9
def spLife (tx : tX) (D : dD) (q : Nat) : tR dD := spBind (spNum tx 0 110 q) fun a q => spBind (spNum tx 0 64 q) fun b q => spBind (spNum tx 1 99 q) fun c q => spBind (spNum tx 1 9 q) fun d q => spBind (spSign tx 59 q) fun _ q => .inr ((D.1 + 1, dRow D.2.1 D.1 [a, b, c, d, -1, -1], D.2.2), q)
def spFact (tx : tX) (D : dD) (q : Nat) : tR dD := spBind (spNum tx 0 ((D.1 : Int) - 1) q) fun a q => spBind (spNum tx 0 5 q) fun b q => spBind (spNum tx 1 60 q) fun c q => spBind (spSign tx 59 q) fun _ q => .inr ((D.1, D.2.1, D.2.2.1 + 1, dRow D.2.2.2.1 D.2.2.1 [a, b, c], D.2.2.2.2), q)
def spHas (tx : tX) (D : dD) (q : Nat) : tR dD := spBind (spNum tx 0 ((D.1 : Int) - 1) q) fun a q => spBind (spNum tx 0 40 q) fun b q => spBind (spSign tx 59 q) fun _ q => .inr ((D.1, dSet D.2.1 a 4 b, D.2.2), q)
def spBy (tx : tX) (D : dD) (q : Nat) : tR dD := spBind (spNum tx 0 ((D.1 : Int) - 1) q) fun a q => spBind (spNum tx 0 ((D.1 : Int) - 1) q) fun b q2 => if a = b then .inl (2, sk tx q) else spBind (spSign tx 59 q2) fun _ q => .inr ((D.1, dSet D.2.1 a 5 b, D.2.2), q)
def spRule (tx : tX) (D : dD) (k q : Nat) : tR dD := spBind (spNum tx (dLo k) (dHi k) q) fun v q => spBind (spSign tx 59 q) fun _ q => .inr ((D.1, D.2.1, D.2.2.1, D.2.2.2.1, fun k' => if k' = k then (v : Int) else D.2.2.2.2 k'), q)
def spClause (tx : tX) (c : Nat) (D : dD) (p : Nat) : tR dD := match dwK (wd tx (sk tx p)) with
  | none => .inl (1, sk tx p)
  | some k => if c = 60 ∨ (k = 0 ∧ D.1 = 8) ∨ (k = 1 ∧ D.2.2.1 = 24) then .inl (3, sk tx p) else match k with
    | 0 => spLife tx D (sp tW tx (sk tx p))
    | 1 => spFact tx D (sp tW tx (sk tx p))
    | 6 => spHas tx D (sp tW tx (sk tx p))
    | 7 => spBy tx D (sp tW tx (sk tx p))
    | k => spRule tx D k (sp tW tx (sk tx p))
def dD0 : dD := (0, fun _ _ => 0, 0, fun _ _ => 0, fun k => if k = 2 then 8 else if k = 3 then 5 else if k = 4 then 3 else 2)
def dwL (tx : tX) (n : Nat) : Nat → Nat → dD → Nat → (Nat × Nat) ⊕ dD
  | 0, _, _, _ => .inl (9, 0)
  | f + 1, c, D, p => if n ≤ p then .inr D else match spClause tx c D p with
    | .inl e => .inl e
    | .inr (D', q) => dwL tx n f (c + 1) D' (sk tx q)
def spDrawer (tx : tX) (n : Nat) : (Nat × Nat) ⊕ dD := dwL tx n 700 0 dD0 (sk tx 0)
/-- a drawer that can be -/
def dOk (D : dD) : Prop := D.1 ≤ 8 ∧ D.2.2.1 ≤ 24 ∧ (∀ i, i < D.1 → (0 ≤ D.2.1 i 0 ∧ D.2.1 i 0 ≤ 110) ∧ (0 ≤ D.2.1 i 1 ∧ D.2.1 i 1 ≤ 64) ∧ (1 ≤ D.2.1 i 2 ∧ D.2.1 i 2 ≤ 99) ∧ (1 ≤ D.2.1 i 3 ∧ D.2.1 i 3 ≤ 9) ∧ (-1 ≤ D.2.1 i 4 ∧ D.2.1 i 4 ≤ 40) ∧ (-1 ≤ D.2.1 i 5 ∧ D.2.1 i 5 < D.1 ∧ D.2.1 i 5 ≠ i)) ∧ (∀ i, i < D.2.2.1 → (0 ≤ D.2.2.2.1 i 0 ∧ D.2.2.2.1 i 0 < D.1) ∧ (0 ≤ D.2.2.2.1 i 1 ∧ D.2.2.2.1 i 1 ≤ 5) ∧ (1 ≤ D.2.2.2.1 i 2 ∧ D.2.2.2.1 i 2 ≤ 60)) ∧ (1 ≤ D.2.2.2.2 2 ∧ D.2.2.2.2 2 ≤ 12) ∧ (0 ≤ D.2.2.2.2 3 ∧ D.2.2.2.2 3 ≤ 9) ∧ (0 ≤ D.2.2.2.2 4 ∧ D.2.2.2.2 4 ≤ 9) ∧ (1 ≤ D.2.2.2.2 5 ∧ D.2.2.2.2 5 ≤ 4)
theorem dOk_0 : dOk dD0 := ⟨by decide, by decide, fun i h => (by cases h), fun i h => (by cases h), by decide, by decide, by decide, by decide⟩
/-- a clause read is a drawer that can be, and more is read -/
theorem spClause_ok {tx : tX} {n c p q : Nat} {D D' : dD} (ht : tOk tx n) (hp : p ≤ n) (hD : dOk D) (h : spClause tx c D p = .inr (D', q)) : dOk D' ∧ p < q ∧ q ≤ n := by
  have s1 : p ≤ sk tx p := sp_ge p
  have s2 : sk tx p ≤ n := sp_le tB_1 ht hp
  have w1 := sp_ge (P := tW) (tx := tx) (sk tx p)
  have w2 := sp_le (p := sk tx p) tW_1 ht s2
  obtain ⟨d1, d2, d3, d4, d5, d6, d7, d8⟩ := hD
  unfold spClause at h
  split at h
  · cases h
  · rename_i k hk
    split at h
    · cases h
    · rename_i hfull
      split at h
      · obtain ⟨a, q1, e1, h⟩ := spBind_ok h
        obtain ⟨b, q2, e2, h⟩ := spBind_ok h
        obtain ⟨c', q3, e3, h⟩ := spBind_ok h
        obtain ⟨d, q4, e4, h⟩ := spBind_ok h
        obtain ⟨u, q5, e5, h⟩ := spBind_ok h
        cases h
        have a1 := spNum_ok ht w2 e1
        have a2 := spNum_ok ht a1.2.1 e2
        have a3 := spNum_ok ht a2.2.1 e3
        have a4 := spNum_ok ht a3.2.1 e4
        have a5 := spSign_ok ht a4.2.1 (by omega) e5
        have hl : D.1 < 8 := by omega
        refine ⟨⟨by show D.1 + 1 ≤ 8; omega, d2, fun i hi => ?_, fun i hi => ?_, d5, d6, d7, d8⟩, by omega, a5.2⟩
        · have hi : i < D.1 + 1 := hi
          show (0 ≤ dRow D.2.1 D.1 [(a : Int), b, c', d, -1, -1] i 0 ∧ _) ∧ _
          by_cases e : i = D.1
          · subst e
            simp only [dRow, if_true]
            simp
            omega
          · have := d3 i (by omega)
            simp only [dRow, e, if_false]
            show _ ∧ _ ∧ _ ∧ _ ∧ _ ∧ (_ ∧ _ < ((D.1 + 1 : Nat) : Int) ∧ _)
            omega
        · have := d4 i hi
          have h9 := this.1.2
          refine ⟨⟨this.1.1, ?_⟩, this.2⟩
          show D.2.2.2.1 i 0 < ((D.1 + 1 : Nat) : Int)
          omega
      · obtain ⟨a, q1, e1, h⟩ := spBind_ok h
        obtain ⟨b, q2, e2, h⟩ := spBind_ok h
        obtain ⟨c', q3, e3, h⟩ := spBind_ok h
        obtain ⟨u, q5, e5, h⟩ := spBind_ok h
        cases h
        have a1 := spNum_ok ht w2 e1
        have a2 := spNum_ok ht a1.2.1 e2
        have a3 := spNum_ok ht a2.2.1 e3
        have a5 := spSign_ok ht a3.2.1 (by omega) e5
        have hl : D.2.2.1 < 24 := by omega
        refine ⟨⟨d1, by show D.2.2.1 + 1 ≤ 24; omega, d3, fun i hi => ?_, d5, d6, d7, d8⟩, by omega, a5.2⟩
        have hi : i < D.2.2.1 + 1 := hi
        show (0 ≤ dRow D.2.2.2.1 D.2.2.1 [(a : Int), b, c'] i 0 ∧ _) ∧ _
        by_cases e : i = D.2.2.1
        · subst e
          simp only [dRow, if_true]
          simp
          omega
        · have := d4 i (by omega)
          simp only [dRow, e, if_false]
          exact this
      · obtain ⟨a, q1, e1, h⟩ := spBind_ok h
        obtain ⟨b, q2, e2, h⟩ := spBind_ok h
        obtain ⟨u, q5, e5, h⟩ := spBind_ok h
        cases h
        have a1 := spNum_ok ht w2 e1
        have a2 := spNum_ok ht a1.2.1 e2
        have a5 := spSign_ok ht a2.2.1 (by omega) e5
        refine ⟨⟨d1, d2, fun i hi => ?_, d4, d5, d6, d7, d8⟩, by omega, a5.2⟩
        have := d3 i hi
        simp only [dSet]
        refine ⟨by simpa using this.1, by simpa using this.2.1, by simpa using this.2.2.1, by simpa using this.2.2.2.1, ?_, by simpa using this.2.2.2.2.2⟩
        split
        · omega
        · exact this.2.2.2.2.1
      · obtain ⟨a, q1, e1, h⟩ := spBind_ok h
        obtain ⟨b, q2, e2, h⟩ := spBind_ok h
        split at h
        · cases h
        · rename_i hab
          obtain ⟨u, q5, e5, h⟩ := spBind_ok h
          cases h
          have a1 := spNum_ok ht w2 e1
          have a2 := spNum_ok ht a1.2.1 e2
          have a5 := spSign_ok ht a2.2.1 (by omega) e5
          refine ⟨⟨d1, d2, fun i hi => ?_, d4, d5, d6, d7, d8⟩, by omega, a5.2⟩
          have := d3 i hi
          simp only [dSet]
          refine ⟨by simpa using this.1, by simpa using this.2.1, by simpa using this.2.2.1, by simpa using this.2.2.2.1, by simpa using this.2.2.2.2.1, ?_⟩
          split
          · rename_i e
            have := e.1
            omega
          · exact this.2.2.2.2.2
      · rename_i k2 h0 h1 h6 h7
        obtain ⟨v, q1, e1, h⟩ := spBind_ok h
        obtain ⟨u, q5, e5, h⟩ := spBind_ok h
        cases h
        have a1 := spNum_ok ht w2 e1
        have a5 := spSign_ok ht a1.2.1 (by omega) e5
        have hk5 : k = 2 ∨ k = 3 ∨ k = 4 ∨ k = 5 := by
          have h0' : ¬ k = 0 := h0
          have h1' : ¬ k = 1 := h1
          have h6' : ¬ k = 6 := h6
          have h7' : ¬ k = 7 := h7
          unfold dwK at hk
          repeat' split at hk
          all_goals (first | (injection hk with hk; omega) | cases hk)
        refine ⟨⟨d1, d2, d3, d4, ?_, ?_, ?_, ?_⟩, by omega, a5.2⟩
        all_goals (rcases hk5 with e | e | e | e <;> subst e <;> simp [dLo, dHi] at a1 ⊢ <;> omega)
