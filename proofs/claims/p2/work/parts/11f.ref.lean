-- THE REFERENCE: law, page
/-- the text of the first n bytes that were fed -/
def rT (M : fmM) (n : Nat) : tX := fun i => if i < n then (M.1 1 i).toInt else -1
def rFed (M : fmM) : Prop := ∀ i, i < 600 → 0 ≤ (M.1 1 i).toInt ∧ (M.1 1 i).toInt ≤ 255
theorem rT_ok {M : fmM} {n : Nat} (h : rFed M) (hn : n ≤ 600) : tOk (rT M n) n := by
  refine ⟨hn, fun i hi => ?_, fun i hi => ?_⟩
  · unfold rT
    rw [if_neg (by omega)]
  · unfold rT
    rw [if_pos hi]
    exact h i (by omega)
/-- a reading has begun -/
def stOk (M M' : fmM) (tx : tX) (n : Nat) : Prop := rS M' tx n (sk tx 0) ∧ M'.1 0 5 = 0 ∧ M'.1 0 8 = 0 ∧ M'.1 0 7 = 0 ∧ M'.1 0 1 = 0 ∧ M'.1 0 6 = -1 ∧ (∀ k j, k ≠ 0 → M'.1 k j = M.1 k j) ∧ (∀ j, j ≠ 1 → j ≠ 2 → j ≠ 4 → j ≠ 5 → j ≠ 6 → j ≠ 7 → j ≠ 8 → M'.1 0 j = M.1 0 j) ∧ M'.2 = M.2
def stU (M : fmM) (x : Int32) : fmM := fmI (fmI (fmI (fmI (fmI (fmI (fmI M 0 1 0) 0 2 x) 0 4 0) 0 5 0) 0 6 (-1)) 0 7 0) 0 8 0
theorem stU_S {M : fmM} {x : Int32} {n : Nat} (h : rFed M) (hn : n ≤ 600) (hx : x.toInt = n) : rS (stU M x) (rT M n) n 0 := by
  refine ⟨hx, (show (0 : Int32).toInt = 0 by decide), Nat.zero_le _, rT_ok h hn, fun i hi => ?_⟩
  show (M.1 1 i).toInt = rT M n i
  unfold rT
  rw [if_pos hi]
theorem stU_ok {M : fmM} {x y : Int32} {n : Nat} (h : rFed M) (hn : n ≤ 600) (hx : x.toInt = n) (hy : y.toInt = sk (rT M n) 0) : stOk M (fmI (stU M x) 0 4 y) (rT M n) n := by
  refine ⟨(stU_S h hn hx).bl hy, rfl, rfl, rfl, rfl, rfl, fun k j hk => ?_, fun j a b c d e f g => ?_, rfl⟩
  · unfold stU
    simp only [fmI_at, hk, false_and, if_false]
  · unfold stU
    simp only [fmI_at, a, b, c, d, e, f, g, and_false, if_false]
def spLaw (tx : tX) (n : Nat) : (Nat × Nat) ⊕ tC := match spL tx 700 0 0 (sk tx 0) with
  | .inl e => .inl e
  | .inr (cs, q) => if sk tx q < n then .inl (1, sk tx q) else .inr cs
/-- a refused call -/
def rfM (M : fmM) (w : Int32) (r : Nat) : fmM := fmI (fmI (fmI M 0 0 0) 0 0 w) 2 r (M.1 2 r + 1)
/-- behind a text: what the text says beside -/
def txB (M : fmM) : Prop := M.1 0 0 = 0 ∧ M.1 0 1 = 0
def lawFr (M M' : fmM) : Prop := (∀ k j, k ≠ 0 → ¬ (91 ≤ k ∧ k < 411) → M'.1 k j = M.1 k j) ∧ (∀ j, 9 ≤ j → j ≠ 17 → j ≠ 18 → M'.1 0 j = M.1 0 j) ∧ M'.2 = M.2
def lawOk (M M' : fmM) (cs : tC) : Prop := txB M' ∧ M'.1 0 3 = -1 ∧ (M'.1 0 17).toInt = (cs.length : Int) ∧ cs.length ≤ 150 ∧ lwHas M'.1 91 cs ∧ lawFr M M'
def lawBad (M M' : fmM) (a : Nat) : Prop := txB M' ∧ (M'.1 0 3).toInt = a ∧ a ≤ 600 ∧ M'.1 0 17 = M.1 0 17 ∧ (∀ k j, 91 ≤ k → k < 251 → M'.1 k j = M.1 k j) ∧ lawFr M M'
/-- kinds of faults -/
theorem spL_bad {tx : tX} {n : Nat} (ht : tOk tx n) : ∀ (f md o p k a : Nat), p ≤ n → spL tx f md o p = .inl (k, a) → k ≠ 9 → (1 ≤ k ∧ k ≤ 3) ∧ a ≤ n := by
  intro f
  induction f with
  | zero =>
    intro md o p k a _ h hk
    injection h with h
    injection h with h1 h2
    exact absurd h1.symm hk
  | succ f ih =>
    have hsk : ∀ p, p ≤ n → sk tx p ≤ n := fun p h => sp_le tB_1 ht h
    have bnd : ∀ {α β : Type} {r : tR α} {g : α → Nat → tR β} {k a : Nat}, spBind r g = .inl (k, a) → r = .inl (k, a) ∨ ∃ v q, r = .inr (v, q) ∧ g v q = .inl (k, a) := by
      intro α β r g k a h
      unfold spBind at h
      split at h
      · rename_i e
        cases h
        exact Or.inl rfl
      · exact Or.inr ⟨_, _, rfl, h⟩
    have app : ∀ (m1 m2 o p k a : Nat), p ≤ n → k ≠ 9 → spApp (spL tx f m1 o p) (fun q => spL tx f m2 o q) = .inl (k, a) → (1 ≤ k ∧ k ≤ 3) ∧ a ≤ n := by
      intro m1 m2 o p k a hp hk h
      rcases bnd h with h | ⟨cs, q, e, h⟩
      · exact ih _ _ _ _ _ hp h hk
      · have l := spL_len ht _ _ _ _ _ _ hp e
        rcases bnd h with h | ⟨ds, q2, e2, h⟩
        · exact ih _ _ _ _ _ l.2.1 h hk
        · cases h
    have op : ∀ (c m1 m2 o p k a : Nat), p ≤ n → k ≠ 9 → spOp c (spL tx f m1 o p) (fun q => spL tx f m2 o q) = .inl (k, a) → (1 ≤ k ∧ k ≤ 3) ∧ a ≤ n := by
      intro c m1 m2 o p k a hp hk h
      rcases bnd h with h | ⟨cs, q, e, h⟩
      · exact ih _ _ _ _ _ hp h hk
      · have l := spL_len ht _ _ _ _ _ _ hp e
        rcases bnd h with h | ⟨ds, q2, e2, h⟩
        · exact ih _ _ _ _ _ l.2.1 h hk
        · cases h
    have inn : ∀ (c : Int) (p : Nat), p ≤ n → 0 ≤ c → tx p = c → p + 1 ≤ n := by
      intro c p hp hc e
      by_cases e2 : p < n
      · exact e2
      · rw [ht.2.1 _ (by omega)] at e
        omega
    have lp : ∀ (c1 c2 : Int) (k1 k2 m1 m2 o p k a : Nat), 0 ≤ c1 → 0 ≤ c2 → p ≤ n → k ≠ 9 → spLp tx c1 c2 k1 k2 (sk tx p) (fun q => spL tx f m1 o q) (fun q => spL tx f m2 o q) = .inl (k, a) → (1 ≤ k ∧ k ≤ 3) ∧ a ≤ n := by
      intro c1 c2 k1 k2 m1 m2 o p k a h1 h2 hp hk h
      unfold spLp at h
      split at h
      · rename_i e
        exact op _ _ _ _ _ _ _ (inn c1 _ (hsk p hp) h1 e) hk h
      · split at h
        · rename_i e
          exact op _ _ _ _ _ _ _ (inn c2 _ (hsk p hp) h2 e) hk h
        · cases h
    have three : ∀ {a k b : Nat} {α : Type}, (.inl (3, a) : tR α) = .inl (k, b) → a ≤ n → (1 ≤ k ∧ k ≤ 3) ∧ b ≤ n := by
      intro a k b α h ha
      injection h with h
      injection h with h1 h2
      omega
    have sgn : ∀ {c : Int} {p k a : Nat}, p ≤ n → spSign tx c p = .inl (k, a) → (1 ≤ k ∧ k ≤ 3) ∧ a ≤ n := by
      intro c p k a hp h
      have := spSign_bad ht hp h
      omega
    have one : ∀ (o p k a : Nat), p ≤ n → k ≠ 9 → spOne tx (fun q => spL tx f 0 (o + 1) q) o (sk tx p) = .inl (k, a) → (1 ≤ k ∧ k ≤ 3) ∧ a ≤ n := by
      intro o p k a hp hk h
      have s2 := hsk p hp
      have w2 := sp_le (p := sk tx p) tW_1 ht s2
      have two : ∀ c, spTwo tx (fun q => spL tx f 0 (o + 1) q) c (sp tW tx (sk tx p)) = .inl (k, a) → (1 ≤ k ∧ k ≤ 3) ∧ a ≤ n := by
        intro c h
        rcases bnd h with h | ⟨u1, q1, e1, h⟩
        · exact sgn w2 h
        have a1 := spSign_ok ht w2 (by omega) e1
        rcases bnd h with h | ⟨c2, q2, e2, h⟩
        · exact ih _ _ _ _ _ a1.2 h hk
        have a2 := spL_len ht _ _ _ _ _ _ a1.2 e2
        rcases bnd h with h | ⟨u3, q3, e3, h⟩
        · exact sgn a2.2.1 h
        have a3 := spSign_ok ht a2.2.1 (by omega) e3
        rcases bnd h with h | ⟨c4, q4, e4, h⟩
        · exact ih _ _ _ _ _ a3.2 h hk
        have a4 := spL_len ht _ _ _ _ _ _ a3.2 e4
        rcases bnd h with h | ⟨u5, q5, e5, h⟩
        · exact sgn a4.2.1 h
        cases h
      unfold spOne at h
      split at h
      · split at h
        · exact three h s2
        · exact two 6 h
      · split at h
        · split at h
          · exact three h s2
          · exact two 7 h
        · split at h
          · rename_i e
            split at h
            · exact three h s2
            · have l1 := inn 40 _ s2 (by omega) e
              rcases bnd h with h | ⟨c1, q1, e1, h⟩
              · exact ih _ _ _ _ _ l1 h hk
              have a1 := spL_len ht _ _ _ _ _ _ l1 e1
              rcases bnd h with h | ⟨u5, q5, e5, h⟩
              · exact sgn a1.2.1 h
              cases h
          · split at h
            · cases h
            · rcases bnd h with h | ⟨v1, q1, e1, h⟩
              · have := spNum_bad ht s2 h
                omega
              · cases h
    intro md o p k a hp h hk
    match md with
    | 0 => exact app 1 3 o p k a hp hk h
    | 1 => exact app 2 4 o p k a hp hk h
    | 2 => exact one o p k a hp hk h
    | 3 => exact lp 43 45 2 3 1 3 o p k a (by omega) (by omega) hp hk h
    | md + 4 => exact lp 42 47 4 5 2 4 o p k a (by omega) (by omega) hp hk h
theorem dpR_app : ∀ (cs ds : tC) (d e : Nat), dpR d cs = some e → dpR d (cs ++ ds) = dpR e ds
  | [], ds, d, e, h => by
    cases h
    rfl
  | c :: cs, ds, d, e, h => by
    simp only [dpR, List.cons_append] at h ⊢
    split at h
    · rename_i h1
      rw [if_pos h1]
      split at h
      · cases h
      · rename_i h2
        rw [if_neg h2]
        exact dpR_app cs ds _ _ h
    · rename_i h1
      rw [if_neg h1]
      split at h
      · rename_i h2
        rw [if_pos h2]
        exact dpR_app cs ds _ _ h
      · cases h
/-- what is read is well-formed -/
theorem spL_wf {tx : tX} : ∀ (f md o p q : Nat) (cs : tC), spL tx f md o p = .inr (cs, q) → ∀ d, (md < 3 → dpR d cs = some (d + 1)) ∧ (3 ≤ md → dpR (d + 1) cs = some (d + 1)) := by
  intro f
  induction f with
  | zero => intro md o p q cs h; cases h
  | succ f ih =>
    have app : ∀ (m1 m2 o p q : Nat) (cs : tC), m1 < 3 → 3 ≤ m2 → spApp (spL tx f m1 o p) (fun q => spL tx f m2 o q) = .inr (cs, q) → ∀ d, dpR d cs = some (d + 1) := by
      intro m1 m2 o p q cs h1 h2 h d
      obtain ⟨c1, q1, e1, h⟩ := spBind_ok h
      obtain ⟨c2, q2, e2, h⟩ := spBind_ok h
      cases h
      rw [dpR_app _ _ _ _ ((ih _ _ _ _ _ e1 d).1 h1)]
      exact (ih _ _ _ _ _ e2 d).2 h2
    have op : ∀ (c m1 m2 o p q : Nat) (cs : tC), 2 ≤ c → m1 < 3 → 3 ≤ m2 → spOp c (spL tx f m1 o p) (fun q => spL tx f m2 o q) = .inr (cs, q) → ∀ d, dpR (d + 1) cs = some (d + 1) := by
      intro c m1 m2 o p q cs hc h1 h2 h d
      obtain ⟨c1, q1, e1, h⟩ := spBind_ok h
      obtain ⟨c2, q2, e2, h⟩ := spBind_ok h
      cases h
      rw [dpR_app _ _ _ _ ((ih _ _ _ _ _ e1 (d + 1)).1 h1)]
      simp only [dpR]
      rw [if_neg (by omega), if_pos (by omega)]
      exact (ih _ _ _ _ _ e2 d).2 h2
    have lp : ∀ (c1 c2 : Int) (k1 k2 m1 m2 o a q : Nat) (cs : tC), 2 ≤ k1 → 2 ≤ k2 → m1 < 3 → 3 ≤ m2 → spLp tx c1 c2 k1 k2 a (fun q => spL tx f m1 o q) (fun q => spL tx f m2 o q) = .inr (cs, q) → ∀ d, dpR (d + 1) cs = some (d + 1) := by
      intro c1 c2 k1 k2 m1 m2 o a q cs hk1 hk2 h1 h2 h d
      unfold spLp at h
      split at h
      · exact op _ _ _ _ _ _ _ hk1 h1 h2 h d
      · split at h
        · exact op _ _ _ _ _ _ _ hk2 h1 h2 h d
        · cases h
          rfl
    have one : ∀ (o a q : Nat) (cs : tC), spOne tx (fun q => spL tx f 0 (o + 1) q) o a = .inr (cs, q) → ∀ d, dpR d cs = some (d + 1) := by
      intro o a q cs h d
      have two : ∀ c q0, 2 ≤ c → spTwo tx (fun q => spL tx f 0 (o + 1) q) c q0 = .inr (cs, q) → dpR d cs = some (d + 1) := by
        intro c q0 hc h
        obtain ⟨u1, q1, e1, h⟩ := spBind_ok h
        obtain ⟨c2, q2, e2, h⟩ := spBind_ok h
        obtain ⟨u3, q3, e3, h⟩ := spBind_ok h
        obtain ⟨c4, q4, e4, h⟩ := spBind_ok h
        obtain ⟨u5, q5, e5, h⟩ := spBind_ok h
        cases h
        rw [List.append_assoc, dpR_app _ _ _ _ ((ih _ _ _ _ _ e2 d).1 (by omega)), dpR_app _ _ _ _ ((ih _ _ _ _ _ e4 (d + 1)).1 (by omega))]
        simp only [dpR]
        rw [if_neg (by omega), if_pos (by omega)]
        rfl
      unfold spOne at h
      split at h
      · split at h
        · cases h
        · exact two 6 _ (by omega) h
      · split at h
        · split at h
          · cases h
          · exact two 7 _ (by omega) h
        · split at h
          · split at h
            · cases h
            · obtain ⟨c1, q1, e1, h⟩ := spBind_ok h
              obtain ⟨u2, q2, e2, h⟩ := spBind_ok h
              cases h
              exact (ih _ _ _ _ _ e1 d).1 (by omega)
          · split at h
            · rename_i k hk
              cases h
              have : k ≤ 4 := by
                unfold lwK at hk
                repeat' split at hk
                all_goals (cases hk; try omega)
              simp only [dpR]
              rw [if_pos (by omega), if_neg (by omega)]
            · obtain ⟨v1, q1, e1, h⟩ := spBind_ok h
              cases h
              simp only [dpR]
              rw [if_pos (by omega), if_neg (by omega)]
    intro md o p q cs h d
    match md with
    | 0 => exact ⟨fun _ => app 1 3 o p q cs (by omega) (by omega) h d, fun h => by omega⟩
    | 1 => exact ⟨fun _ => app 2 4 o p q cs (by omega) (by omega) h d, fun h => by omega⟩
    | 2 => exact ⟨fun _ => one o _ q cs h d, fun h => by omega⟩
    | 3 => exact ⟨fun h => by omega, fun _ => lp 43 45 2 3 1 3 o _ q cs (by omega) (by omega) (by omega) (by omega) h d⟩
    | md + 4 => exact ⟨fun h => by omega, fun _ => lp 42 47 4 5 2 4 o _ q cs (by omega) (by omega) (by omega) (by omega) h d⟩
theorem lwFr.row {m : Nat} {M M' : fmM} (h : lwFr m M M') {k j : Nat} (hk : k ≠ 0) (hr : ¬ (251 ≤ k ∧ k < 411)) : M'.1 k j = M.1 k j := h.1 k j hk (by omega)
/-- from the reading of a law to its end -/
theorem law_bad {M M1 M2 M3 : fmM} {tx : tX} {n k a : Nat} (h0 : stOk (fmI M 0 0 0) M1 tx n) (h1 : lwFr 0 (fmI M1 0 18 0) M2) (hS : ∃ q, rS M2 tx n q) (hk : (M2.1 0 5).toInt = k) (ha : (M2.1 0 6).toInt = a) (hk3 : k ≤ 3) (han : a ≤ n) (hn : n ≤ 150) (e3 : M3 = fmI M2 0 3 (M2.1 0 6)) : lawBad M M3 a := by
  obtain ⟨q, hS⟩ := hS
  have s1 := hS.1
  have s2 := hS.2.1
  have s3 := hS.2.2.1
  have fr : ∀ j, j ≠ 4 → j ≠ 5 → j ≠ 6 → j ≠ 8 → j ≠ 18 → M2.1 0 j = M1.1 0 j := fun j a b c d e => by
    rw [h1.2.1 j a b c d e, fmI_j _ _ e]
  have fr0 : ∀ j, j ≠ 1 → j ≠ 2 → j ≠ 4 → j ≠ 5 → j ≠ 6 → j ≠ 7 → j ≠ 8 → M1.1 0 j = (fmI M 0 0 0).1 0 j := h0.2.2.2.2.2.2.2.1
  have frk : ∀ k j, k ≠ 0 → ¬ (251 ≤ k ∧ k < 411) → M2.1 k j = M.1 k j := fun k j hk hr => by
    rw [h1.1 k j hk (by omega), fmI_k _ _ hk, h0.2.2.2.2.2.2.1 k j hk, fmI_k _ _ hk]
  subst e3
  refine ⟨⟨?_, ?_⟩, ?_, by omega, ?_, ?_, ?_, ?_, ?_⟩
  · rw [fmI_j _ _ (by decide), fr 0 (by decide) (by decide) (by decide) (by decide) (by decide), fr0 0 (by decide) (by decide) (by decide) (by decide) (by decide) (by decide) (by decide), fmI_s]
  · rw [fmI_j _ _ (by decide), fr 1 (by decide) (by decide) (by decide) (by decide) (by decide)]
    exact h0.2.2.2.2.1
  · rw [fmI_s]
    exact ha
  · rw [fmI_j _ _ (by decide), fr 17 (by decide) (by decide) (by decide) (by decide) (by decide), fr0 17 (by decide) (by decide) (by decide) (by decide) (by decide) (by decide) (by decide), fmI_j _ _ (by decide)]
  · intro k j h1 h2
    rw [fmI_k _ _ (by omega), frk k j (by omega) (by omega)]
  · intro k j h1 h2
    rw [fmI_k _ _ h1, frk k j h1 (by omega)]
  · intro j h9 h17 h18
    rw [fmI_j _ _ (by omega), fr j (by omega) (by omega) (by omega) (by omega) (by omega), fr0 j (by omega) (by omega) (by omega) (by omega) (by omega) (by omega) (by omega), fmI_j _ _ (by omega)]
  · show M2.2 = M.2
    rw [h1.2.2]
    exact h0.2.2.2.2.2.2.2.2
theorem law_ok {M M1 M2 M4 : fmM} {tx : tX} {n q : Nat} {cs : tC} {x : Int32} (h0 : stOk (fmI M 0 0 0) M1 tx n) (h1 : lwOk (fmI M1 0 18 0) M2 tx n q 0 cs) (hq : q ≤ n) (hx : x.toInt = sk tx q) (hl : cs.length ≤ n) (hn : n ≤ 150) (h4 : lyOk 251 91 2 0 cs.length (fmI (fmI (fmI M2 0 4 x) 0 3 (-1)) 0 17 (M2.1 0 18)) M4) : lawOk M M4 cs := by
  obtain ⟨k1, k2, k3, k4, k5, k6⟩ := h1
  have s1 := k1.1
  have s6 := sp_le tB_1 k1.2.2.2.1 hq
  have fr : ∀ j, j ≠ 4 → j ≠ 5 → j ≠ 6 → j ≠ 8 → j ≠ 18 → M2.1 0 j = M1.1 0 j := fun j a b c d e => by
    rw [k6.2.1 j a b c d e, fmI_j _ _ e]
  have fr0 : ∀ j, j ≠ 1 → j ≠ 2 → j ≠ 4 → j ≠ 5 → j ≠ 6 → j ≠ 7 → j ≠ 8 → M1.1 0 j = (fmI M 0 0 0).1 0 j := h0.2.2.2.2.2.2.2.1
  have frk : ∀ k j, k ≠ 0 → ¬ (251 ≤ k ∧ k < 411) → M2.1 k j = M.1 k j := fun k j hk hr => by
    rw [k6.1 k j hk (by omega), fmI_k _ _ hk, h0.2.2.2.2.2.2.1 k j hk, fmI_k _ _ hk]
  have g0 : ∀ j, M4.1 0 j = (fmI (fmI (fmI M2 0 4 x) 0 3 (-1)) 0 17 (M2.1 0 18)).1 0 j := fun j => h4.2.1 0 j (by omega)
  have ga : ∀ j, j ≠ 17 → j ≠ 3 → j ≠ 4 → M4.1 0 j = M2.1 0 j := fun j a b c => by rw [g0, fmI_j _ _ a, fmI_j _ _ b, fmI_j _ _ c]
  refine ⟨⟨?_, ?_⟩, ?_, ?_, by omega, ?_, ?_, ?_, ?_⟩
  · rw [ga 0 (by decide) (by decide) (by decide), fr 0 (by decide) (by decide) (by decide) (by decide) (by decide), fr0 0 (by decide) (by decide) (by decide) (by decide) (by decide) (by decide) (by decide), fmI_s]
  · rw [ga 1 (by decide) (by decide) (by decide), fr 1 (by decide) (by decide) (by decide) (by decide) (by decide)]
    exact h0.2.2.2.2.1
  · exact g0 3
  · have e : M4.1 0 17 = M2.1 0 18 := g0 17
    rw [e, k4]
    omega
  · intro i c hi
    have hl : i < cs.length := (List.getElem?_eq_some_iff.mp hi).1
    have := k5 i c hi
    rw [h4.1 i 0 (Nat.zero_le _) hl (by omega), h4.1 i 1 (Nat.zero_le _) hl (by omega), fmI_k _ _ (by omega), fmI_k _ _ (by omega), fmI_k _ _ (by omega)]
    rw [show 251 + 0 + i = 251 + i by omega] at this
    exact this
  · intro k j h1 h2
    rw [h4.2.1 k j (by omega), fmI_k _ _ h1, fmI_k _ _ h1, fmI_k _ _ h1, frk k j h1 (by omega)]
  · intro j h9 h17 h18
    rw [ga j h17 (by omega) (by omega), fr j (by omega) (by omega) (by omega) (by omega) (by omega), fr0 j (by omega) (by omega) (by omega) (by omega) (by omega) (by omega) (by omega), fmI_j _ _ (by omega)]
  · rw [h4.2.2]
    show M2.2 = M.2
    rw [k6.2.2]
    exact h0.2.2.2.2.2.2.2.2
