-- THE REFERENCE: law, page
/-- the text of the first n bytes that were fed -/
def rT (M : fmM) (n : Nat) : tX := fun i => if i < n then (M.1 1 i).toInt else -1
def rFed (M : fmM) : Prop := ∀ i, i < 600 → 0 ≤ (M.1 1 i).toInt ∧ (M.1 1 i).toInt ≤ 255
theorem rT_ok {M : fmM} {n : Nat} (h : rFed M) (hn : n ≤ 600) : tOk (rT M n) n := by
  refine ⟨hn, fun i hi => ?_, fun i hi => ?_⟩
  · unfold rT
    rw [if_neg (by omega)]
  · unfold rT
    rw [if_pos hi]
    exact h i (by omega)
/-- a reading has begun -/
def stOk (M M' : fmM) (tx : tX) (n : Nat) : Prop := rS M' tx n (sk tx 0) ∧ M'.1 0 5 = 0 ∧ M'.1 0 8 = 0 ∧ M'.1 0 7 = 0 ∧ M'.1 0 1 = 0 ∧ M'.1 0 6 = -1 ∧ (∀ k j, k ≠ 0 → M'.1 k j = M.1 k j) ∧ (∀ j, j ≠ 1 → j ≠ 2 → j ≠ 4 → j ≠ 5 → j ≠ 6 → j ≠ 7 → j ≠ 8 → M'.1 0 j = M.1 0 j) ∧ M'.2 = M.2
def stU (M : fmM) (x : Int32) : fmM := fmI (fmI (fmI (fmI (fmI (fmI (fmI M 0 1 0) 0 2 x) 0 4 0) 0 5 0) 0 6 (-1)) 0 7 0) 0 8 0
theorem stU_S {M : fmM} {x : Int32} {n : Nat} (h : rFed M) (hn : n ≤ 600) (hx : x.toInt = n) : rS (stU M x) (rT M n) n 0 := by
  refine ⟨hx, (show (0 : Int32).toInt = 0 by decide), Nat.zero_le _, rT_ok h hn, fun i hi => ?_⟩
  show (M.1 1 i).toInt = rT M n i
  unfold rT
  rw [if_pos hi]
theorem stU_ok {M : fmM} {x y : Int32} {n : Nat} (h : rFed M) (hn : n ≤ 600) (hx : x.toInt = n) (hy : y.toInt = sk (rT M n) 0) : stOk M (fmI (stU M x) 0 4 y) (rT M n) n := by
  refine ⟨(stU_S h hn hx).bl hy, rfl, rfl, rfl, rfl, rfl, fun k j hk => ?_, fun j a b c d e f g => ?_, rfl⟩
  · unfold stU
    simp only [fmI_at, hk, false_and, if_false]
  · unfold stU
    simp only [fmI_at, a, b, c, d, e, f, g, and_false, if_false]
def spLaw (tx : tX) (n : Nat) : (Nat × Nat) ⊕ tC := match spL tx 700 0 0 (sk tx 0) with
  | .inl e => .inl e
  | .inr (cs, q) => if sk tx q < n then .inl (1, sk tx q) else .inr cs
/-- a refused call -/
def rfM (M : fmM) (w : Int32) (r : Nat) : fmM := fmI (fmI (fmI M 0 0 0) 0 0 w) 2 r (M.1 2 r + 1)
/-- behind a text: what the text says beside -/
def txB (M : fmM) : Prop := M.1 0 0 = 0 ∧ M.1 0 1 = 0
def lawFr (M M' : fmM) : Prop := (∀ k j, k ≠ 0 → ¬ (91 ≤ k ∧ k < 411) → M'.1 k j = M.1 k j) ∧ (∀ j, 9 ≤ j → j ≠ 17 → j ≠ 18 → M'.1 0 j = M.1 0 j) ∧ M'.2 = M.2
def lawOk (M M' : fmM) (cs : tC) : Prop := txB M' ∧ M'.1 0 3 = -1 ∧ (M'.1 0 17).toInt = (cs.length : Int) ∧ cs.length ≤ 150 ∧ lwHas M'.1 91 cs ∧ lawFr M M'
def lawBad (M M' : fmM) (a : Nat) : Prop := txB M' ∧ (M'.1 0 3).toInt = a ∧ a ≤ 600 ∧ M'.1 0 17 = M.1 0 17 ∧ (∀ k j, 91 ≤ k → k < 251 → M'.1 k j = M.1 k j) ∧ lawFr M M'
/-- kinds of faults -/
theorem spL_bad {tx : tX} {n : Nat} (ht : tOk tx n) : ∀ (f md o p k a : Nat), p ≤ n → spL tx f md o p = .inl (k, a) → (k = 9 ∧ a = 0) ∨ ((1 ≤ k ∧ k ≤ 3) ∧ a ≤ n) := by
  intro f
  induction f with
  | zero =>
    intro md o p k a _ h
    injection h with h
    injection h with h1 h2
    exact Or.inl ⟨h1.symm, h2.symm⟩
  | succ f ih =>
    have hsk : ∀ p, p ≤ n → sk tx p ≤ n := fun p h => sp_le tB_1 ht h
    have bnd : ∀ {α β : Type} {r : tR α} {g : α → Nat → tR β} {k a : Nat}, spBind r g = .inl (k, a) → r = .inl (k, a) ∨ ∃ v q, r = .inr (v, q) ∧ g v q = .inl (k, a) := by
      intro α β r g k a h
      unfold spBind at h
      split at h
      · rename_i e
        cases h
        exact Or.inl rfl
      · exact Or.inr ⟨_, _, rfl, h⟩
    have app : ∀ (m1 m2 o p k a : Nat), p ≤ n → spApp (spL tx f m1 o p) (fun q => spL tx f m2 o q) = .inl (k, a) → (k = 9 ∧ a = 0) ∨ ((1 ≤ k ∧ k ≤ 3) ∧ a ≤ n) := by
      intro m1 m2 o p k a hp h
      rcases bnd h with h | ⟨cs, q, e, h⟩
      · exact ih _ _ _ _ _ hp h
      · have l := spL_len ht _ _ _ _ _ _ hp e
        rcases bnd h with h | ⟨ds, q2, e2, h⟩
        · exact ih _ _ _ _ _ l.2.1 h
        · cases h
    have op : ∀ (c m1 m2 o p k a : Nat), p ≤ n → spOp c (spL tx f m1 o p) (fun q => spL tx f m2 o q) = .inl (k, a) → (k = 9 ∧ a = 0) ∨ ((1 ≤ k ∧ k ≤ 3) ∧ a ≤ n) := by
      intro c m1 m2 o p k a hp h
      rcases bnd h with h | ⟨cs, q, e, h⟩
      · exact ih _ _ _ _ _ hp h
      · have l := spL_len ht _ _ _ _ _ _ hp e
        rcases bnd h with h | ⟨ds, q2, e2, h⟩
        · exact ih _ _ _ _ _ l.2.1 h
        · cases h
    have inn : ∀ (c : Int) (p : Nat), p ≤ n → 0 ≤ c → tx p = c → p + 1 ≤ n := by
      intro c p hp hc e
      by_cases e2 : p < n
      · exact e2
      · rw [ht.2.1 _ (by omega)] at e
        omega
    have lp : ∀ (c1 c2 : Int) (k1 k2 m1 m2 o p k a : Nat), 0 ≤ c1 → 0 ≤ c2 → p ≤ n → spLp tx c1 c2 k1 k2 (sk tx p) (fun q => spL tx f m1 o q) (fun q => spL tx f m2 o q) = .inl (k, a) → (k = 9 ∧ a = 0) ∨ ((1 ≤ k ∧ k ≤ 3) ∧ a ≤ n) := by
      intro c1 c2 k1 k2 m1 m2 o p k a h1 h2 hp h
      unfold spLp at h
      split at h
      · rename_i e
        exact op _ _ _ _ _ _ _ (inn c1 _ (hsk p hp) h1 e) h
      · split at h
        · rename_i e
          exact op _ _ _ _ _ _ _ (inn c2 _ (hsk p hp) h2 e) h
        · cases h
    have three : ∀ {a k b : Nat} {α : Type}, (.inl (3, a) : tR α) = .inl (k, b) → a ≤ n → (k = 9 ∧ b = 0) ∨ ((1 ≤ k ∧ k ≤ 3) ∧ b ≤ n) := by
      intro a k b α h ha
      injection h with h
      injection h with h1 h2
      omega
    have sgn : ∀ {c : Int} {p k a : Nat}, p ≤ n → spSign tx c p = .inl (k, a) → (k = 9 ∧ a = 0) ∨ ((1 ≤ k ∧ k ≤ 3) ∧ a ≤ n) := by
      intro c p k a hp h
      have := spSign_bad ht hp h
      omega
    have one : ∀ (o p k a : Nat), p ≤ n → spOne tx (fun q => spL tx f 0 (o + 1) q) o (sk tx p) = .inl (k, a) → (k = 9 ∧ a = 0) ∨ ((1 ≤ k ∧ k ≤ 3) ∧ a ≤ n) := by
      intro o p k a hp h
      have s2 := hsk p hp
      have w2 := sp_le (p := sk tx p) tW_1 ht s2
      have two : ∀ c, spTwo tx (fun q => spL tx f 0 (o + 1) q) c (sp tW tx (sk tx p)) = .inl (k, a) → (k = 9 ∧ a = 0) ∨ ((1 ≤ k ∧ k ≤ 3) ∧ a ≤ n) := by
        intro c h
        rcases bnd h with h | ⟨u1, q1, e1, h⟩
        · exact sgn w2 h
        have a1 := spSign_ok ht w2 (by omega) e1
        rcases bnd h with h | ⟨c2, q2, e2, h⟩
        · exact ih _ _ _ _ _ a1.2 h
        have a2 := spL_len ht _ _ _ _ _ _ a1.2 e2
        rcases bnd h with h | ⟨u3, q3, e3, h⟩
        · exact sgn a2.2.1 h
        have a3 := spSign_ok ht a2.2.1 (by omega) e3
        rcases bnd h with h | ⟨c4, q4, e4, h⟩
        · exact ih _ _ _ _ _ a3.2 h
        have a4 := spL_len ht _ _ _ _ _ _ a3.2 e4
        rcases bnd h with h | ⟨u5, q5, e5, h⟩
        · exact sgn a4.2.1 h
        cases h
      unfold spOne at h
      split at h
      · split at h
        · exact three h s2
        · exact two 6 h
      · split at h
        · split at h
          · exact three h s2
          · exact two 7 h
        · split at h
          · rename_i e
            split at h
            · exact three h s2
            · have l1 := inn 40 _ s2 (by omega) e
              rcases bnd h with h | ⟨c1, q1, e1, h⟩
              · exact ih _ _ _ _ _ l1 h
              have a1 := spL_len ht _ _ _ _ _ _ l1 e1
              rcases bnd h with h | ⟨u5, q5, e5, h⟩
              · exact sgn a1.2.1 h
              cases h
          · split at h
            · cases h
            · rcases bnd h with h | ⟨v1, q1, e1, h⟩
              · have := spNum_bad ht s2 h
                omega
              · cases h
    intro md o p k a hp h
    match md with
    | 0 => exact app 1 3 o p k a hp h
    | 1 => exact app 2 4 o p k a hp h
    | 2 => exact one o p k a hp h
    | 3 => exact lp 43 45 2 3 1 3 o p k a (by omega) (by omega) hp h
    | md + 4 => exact lp 42 47 4 5 2 4 o p k a (by omega) (by omega) hp h
theorem dpR_app : ∀ (cs ds : tC) (d e : Nat), dpR d cs = some e → dpR d (cs ++ ds) = dpR e ds
  | [], ds, d, e, h => by
    cases h
    rfl
  | c :: cs, ds, d, e, h => by
    simp only [dpR, List.cons_append] at h ⊢
    split at h
    · rename_i h1
      rw [if_pos h1]
      split at h
      · cases h
      · rename_i h2
        rw [if_neg h2]
        exact dpR_app cs ds _ _ h
    · rename_i h1
      rw [if_neg h1]
      split at h
      · rename_i h2
        rw [if_pos h2]
        exact dpR_app cs ds _ _ h
      · cases h
/-- what is read is well-formed -/
theorem spL_wf {tx : tX} : ∀ (f md o p q : Nat) (cs : tC), spL tx f md o p = .inr (cs, q) → ∀ d, (md < 3 → dpR d cs = some (d + 1)) ∧ (3 ≤ md → dpR (d + 1) cs = some (d + 1)) := by
  intro f
  induction f with
  | zero => intro md o p q cs h; cases h
  | succ f ih =>
    have app : ∀ (m1 m2 o p q : Nat) (cs : tC), m1 < 3 → 3 ≤ m2 → spApp (spL tx f m1 o p) (fun q => spL tx f m2 o q) = .inr (cs, q) → ∀ d, dpR d cs = some (d + 1) := by
      intro m1 m2 o p q cs h1 h2 h d
      obtain ⟨c1, q1, e1, h⟩ := spBind_ok h
      obtain ⟨c2, q2, e2, h⟩ := spBind_ok h
      cases h
      rw [dpR_app _ _ _ _ ((ih _ _ _ _ _ e1 d).1 h1)]
      exact (ih _ _ _ _ _ e2 d).2 h2
    have op : ∀ (c m1 m2 o p q : Nat) (cs : tC), 2 ≤ c → m1 < 3 → 3 ≤ m2 → spOp c (spL tx f m1 o p) (fun q => spL tx f m2 o q) = .inr (cs, q) → ∀ d, dpR (d + 1) cs = some (d + 1) := by
      intro c m1 m2 o p q cs hc h1 h2 h d
      obtain ⟨c1, q1, e1, h⟩ := spBind_ok h
      obtain ⟨c2, q2, e2, h⟩ := spBind_ok h
      cases h
      rw [dpR_app _ _ _ _ ((ih _ _ _ _ _ e1 (d + 1)).1 h1)]
      simp only [dpR]
      rw [if_neg (by omega), if_pos (by omega)]
      exact (ih _ _ _ _ _ e2 d).2 h2
    have lp : ∀ (c1 c2 : Int) (k1 k2 m1 m2 o a q : Nat) (cs : tC), 2 ≤ k1 → 2 ≤ k2 → m1 < 3 → 3 ≤ m2 → spLp tx c1 c2 k1 k2 a (fun q => spL tx f m1 o q) (fun q => spL tx f m2 o q) = .inr (cs, q) → ∀ d, dpR (d + 1) cs = some (d + 1) := by
      intro c1 c2 k1 k2 m1 m2 o a q cs hk1 hk2 h1 h2 h d
      unfold spLp at h
      split at h
      · exact op _ _ _ _ _ _ _ hk1 h1 h2 h d
      · split at h
        · exact op _ _ _ _ _ _ _ hk2 h1 h2 h d
        · cases h
          rfl
    have one : ∀ (o a q : Nat) (cs : tC), spOne tx (fun q => spL tx f 0 (o + 1) q) o a = .inr (cs, q) → ∀ d, dpR d cs = some (d + 1) := by
      intro o a q cs h d
      have two : ∀ c q0, 2 ≤ c → spTwo tx (fun q => spL tx f 0 (o + 1) q) c q0 = .inr (cs, q) → dpR d cs = some (d + 1) := by
        intro c q0 hc h
        obtain ⟨u1, q1, e1, h⟩ := spBind_ok h
        obtain ⟨c2, q2, e2, h⟩ := spBind_ok h
        obtain ⟨u3, q3, e3, h⟩ := spBind_ok h
        obtain ⟨c4, q4, e4, h⟩ := spBind_ok h
        obtain ⟨u5, q5, e5, h⟩ := spBind_ok h
        cases h
        rw [List.append_assoc, dpR_app _ _ _ _ ((ih _ _ _ _ _ e2 d).1 (by omega)), dpR_app _ _ _ _ ((ih _ _ _ _ _ e4 (d + 1)).1 (by omega))]
        simp only [dpR]
        rw [if_neg (by omega), if_pos (by omega)]
        rfl
      unfold spOne at h
      split at h
      · split at h
        · cases h
        · exact two 6 _ (by omega) h
      · split at h
        · split at h
          · cases h
          · exact two 7 _ (by omega) h
        · split at h
          · split at h
            · cases h
            · obtain ⟨c1, q1, e1, h⟩ := spBind_ok h
              obtain ⟨u2, q2, e2, h⟩ := spBind_ok h
              cases h
              exact (ih _ _ _ _ _ e1 d).1 (by omega)
          · split at h
            · rename_i k hk
              cases h
              have : k ≤ 4 := by
                unfold lwK at hk
                repeat' split at hk
                all_goals (cases hk; try omega)
              simp only [dpR]
              rw [if_pos (by omega), if_neg (by omega)]
            · obtain ⟨v1, q1, e1, h⟩ := spBind_ok h
              cases h
              simp only [dpR]
              rw [if_pos (by omega), if_neg (by omega)]
    intro md o p q cs h d
    match md with
    | 0 => exact ⟨fun _ => app 1 3 o p q cs (by omega) (by omega) h d, fun h => by omega⟩
    | 1 => exact ⟨fun _ => app 2 4 o p q cs (by omega) (by omega) h d, fun h => by omega⟩
    | 2 => exact ⟨fun _ => one o _ q cs h d, fun h => by omega⟩
    | 3 => exact ⟨fun h => by omega, fun _ => lp 43 45 2 3 1 3 o _ q cs (by omega) (by omega) (by omega) (by omega) h d⟩
    | md + 4 => exact ⟨fun h => by omega, fun _ => lp 42 47 4 5 2 4 o _ q cs (by omega) (by omega) (by omega) (by omega) h d⟩
theorem lwFr.row {m : Nat} {M M' : fmM} (h : lwFr m M M') {k j : Nat} (hk : k ≠ 0) (hr : ¬ (251 ≤ k ∧ k < 411)) : M'.1 k j = M.1 k j := h.1 k j hk (by omega)
/-- from the reading of a law to its end -/
theorem law_bad {M M1 M2 M3 : fmM} {tx : tX} {n k a : Nat} (h0 : stOk (fmI M 0 0 0) M1 tx n) (h1 : lwFr 0 (fmI M1 0 18 0) M2) (hS : ∃ q, rS M2 tx n q) (hk : (M2.1 0 5).toInt = k) (ha : (M2.1 0 6).toInt = a) (hk3 : k ≤ 3) (han : a ≤ n) (hn : n ≤ 150) (e3 : M3 = fmI M2 0 3 (M2.1 0 6)) : lawBad M M3 a := by
  obtain ⟨q, hS⟩ := hS
  have s1 := hS.1
  have s2 := hS.2.1
  have s3 := hS.2.2.1
  have fr : ∀ j, j ≠ 4 → j ≠ 5 → j ≠ 6 → j ≠ 8 → j ≠ 18 → M2.1 0 j = M1.1 0 j := fun j a b c d e => by
    rw [h1.2.1 j a b c d e, fmI_j _ _ e]
  have fr0 : ∀ j, j ≠ 1 → j ≠ 2 → j ≠ 4 → j ≠ 5 → j ≠ 6 → j ≠ 7 → j ≠ 8 → M1.1 0 j = (fmI M 0 0 0).1 0 j := h0.2.2.2.2.2.2.2.1
  have frk : ∀ k j, k ≠ 0 → ¬ (251 ≤ k ∧ k < 411) → M2.1 k j = M.1 k j := fun k j hk hr => by
    rw [h1.1 k j hk (by omega), fmI_k _ _ hk, h0.2.2.2.2.2.2.1 k j hk, fmI_k _ _ hk]
  subst e3
  refine ⟨⟨?_, ?_⟩, ?_, by omega, ?_, ?_, ?_, ?_, ?_⟩
  · rw [fmI_j _ _ (by decide), fr 0 (by decide) (by decide) (by decide) (by decide) (by decide), fr0 0 (by decide) (by decide) (by decide) (by decide) (by decide) (by decide) (by decide), fmI_s]
  · rw [fmI_j _ _ (by decide), fr 1 (by decide) (by decide) (by decide) (by decide) (by decide)]
    exact h0.2.2.2.2.1
  · rw [fmI_s]
    exact ha
  · rw [fmI_j _ _ (by decide), fr 17 (by decide) (by decide) (by decide) (by decide) (by decide), fr0 17 (by decide) (by decide) (by decide) (by decide) (by decide) (by decide) (by decide), fmI_j _ _ (by decide)]
  · intro k j h1 h2
    rw [fmI_k _ _ (by omega), frk k j (by omega) (by omega)]
  · intro k j h1 h2
    rw [fmI_k _ _ h1, frk k j h1 (by omega)]
  · intro j h9 h17 h18
    rw [fmI_j _ _ (by omega), fr j (by omega) (by omega) (by omega) (by omega) (by omega), fr0 j (by omega) (by omega) (by omega) (by omega) (by omega) (by omega) (by omega), fmI_j _ _ (by omega)]
  · show M2.2 = M.2
    rw [h1.2.2]
    exact h0.2.2.2.2.2.2.2.2
theorem law_ok {M M1 M2 M4 : fmM} {tx : tX} {n q : Nat} {cs : tC} {x : Int32} (h0 : stOk (fmI M 0 0 0) M1 tx n) (h1 : lwOk (fmI M1 0 18 0) M2 tx n q 0 cs) (hq : q ≤ n) (hx : x.toInt = sk tx q) (hl : cs.length ≤ n) (hn : n ≤ 150) (h4 : lyOk 251 91 2 0 cs.length (fmI (fmI (fmI M2 0 4 x) 0 3 (-1)) 0 17 (M2.1 0 18)) M4) : lawOk M M4 cs := by
  obtain ⟨k1, k2, k3, k4, k5, k6⟩ := h1
  have s1 := k1.1
  have s6 := sp_le tB_1 k1.2.2.2.1 hq
  have fr : ∀ j, j ≠ 4 → j ≠ 5 → j ≠ 6 → j ≠ 8 → j ≠ 18 → M2.1 0 j = M1.1 0 j := fun j a b c d e => by
    rw [k6.2.1 j a b c d e, fmI_j _ _ e]
  have fr0 : ∀ j, j ≠ 1 → j ≠ 2 → j ≠ 4 → j ≠ 5 → j ≠ 6 → j ≠ 7 → j ≠ 8 → M1.1 0 j = (fmI M 0 0 0).1 0 j := h0.2.2.2.2.2.2.2.1
  have frk : ∀ k j, k ≠ 0 → ¬ (251 ≤ k ∧ k < 411) → M2.1 k j = M.1 k j := fun k j hk hr => by
    rw [k6.1 k j hk (by omega), fmI_k _ _ hk, h0.2.2.2.2.2.2.1 k j hk, fmI_k _ _ hk]
  have g0 : ∀ j, M4.1 0 j = (fmI (fmI (fmI M2 0 4 x) 0 3 (-1)) 0 17 (M2.1 0 18)).1 0 j := fun j => h4.2.1 0 j (by omega)
  have ga : ∀ j, j ≠ 17 → j ≠ 3 → j ≠ 4 → M4.1 0 j = M2.1 0 j := fun j a b c => by rw [g0, fmI_j _ _ a, fmI_j _ _ b, fmI_j _ _ c]
  refine ⟨⟨?_, ?_⟩, ?_, ?_, by omega, ?_, ?_, ?_, ?_⟩
  · rw [ga 0 (by decide) (by decide) (by decide), fr 0 (by decide) (by decide) (by decide) (by decide) (by decide), fr0 0 (by decide) (by decide) (by decide) (by decide) (by decide) (by decide) (by decide), fmI_s]
  · rw [ga 1 (by decide) (by decide) (by decide), fr 1 (by decide) (by decide) (by decide) (by decide) (by decide)]
    exact h0.2.2.2.2.1
  · exact g0 3
  · have e : M4.1 0 17 = M2.1 0 18 := g0 17
    rw [e, k4]
    omega
  · intro i c hi
    have hl : i < cs.length := (List.getElem?_eq_some_iff.mp hi).1
    have := k5 i c hi
    rw [h4.1 i 0 (Nat.zero_le _) hl (by omega), h4.1 i 1 (Nat.zero_le _) hl (by omega), fmI_k _ _ (by omega), fmI_k _ _ (by omega), fmI_k _ _ (by omega)]
    rw [show 251 + 0 + i = 251 + i by omega] at this
    exact this
  · intro k j h1 h2
    rw [h4.2.1 k j (by omega), fmI_k _ _ h1, fmI_k _ _ h1, fmI_k _ _ h1, frk k j h1 (by omega)]
  · intro j h9 h17 h18
    rw [ga j h17 (by omega) (by omega), fr j (by omega) (by omega) (by omega) (by omega) (by omega), fr0 j (by omega) (by omega) (by omega) (by omega) (by omega) (by omega) (by omega), fmI_j _ _ (by omega)]
  · rw [h4.2.2]
    show M2.2 = M.2
    rw [k6.2.2]
    exact h0.2.2.2.2.2.2.2.2
theorem law_b3 {tx : tX} {n p k a : Nat} (ht : tOk tx n) (hp : p ≤ n) (hn : n ≤ 150) (e : spL tx 700 0 0 p = .inl (k, a)) : (1 ≤ k ∧ k ≤ 3) ∧ a ≤ n := by
  rcases spL_bad ht _ _ _ _ _ _ hp e with ⟨h1, h2⟩ | h
  · subst h1
    subst h2
    exact absurd e (spL_fuel ht 700 0 0 p hp (by show 4 * _ + 3 ≤ 700; omega))
  · exact h
theorem law_so {tx : tX} {n q : Nat} {cs : tC} {x y : Int32} (e : spL tx 700 0 0 (sk tx 0) = .inr (cs, q)) (h : y ≤ x) (hx : x.toInt = sk tx q) (hy : y.toInt = n) : spLaw tx n = .inr cs := by
  unfold spLaw
  rw [e]
  rw [sc_le] at h
  show (if _ then _ else _) = _
  rw [if_neg (by omega)]
theorem law_sb {tx : tX} {n q : Nat} {cs : tC} {x y : Int32} (e : spL tx 700 0 0 (sk tx 0) = .inr (cs, q)) (h : ¬ y ≤ x) (hx : x.toInt = sk tx q) (hy : y.toInt = n) : spLaw tx n = .inl (1, sk tx q) := by
  unfold spLaw
  rw [e]
  rw [sc_le] at h
  show (if _ then _ else _) = _
  rw [if_pos (by omega)]
theorem law_s1 {tx : tX} {n : Nat} {e : Nat × Nat} (h : spL tx 700 0 0 (sk tx 0) = .inl e) : spLaw tx n = .inl e := by
  unfold spLaw
  rw [h]
theorem law_r {x : Int32} {k : Nat} (h : x.toInt = k) (hk : k ≤ 3) : (x - 10).toInt = (k : Int) - 10 := by
  have e : (10 : Int32).toInt = 10 := by decide
  rw [sc_sub (by omega) (by omega)]
  omega
theorem lwFr.at1 {m : Nat} {M M1 : fmM} {x : Int32} (h : lwFr m M M1) : lwFr m M (fmI M1 0 4 x) := h.set (Or.inl rfl)
theorem lwFr.at2 {m : Nat} {M M1 : fmM} {x k a : Int32} (h : lwFr m M M1) : lwFr m M (fmI (fmI (fmI M1 0 4 x) 0 5 k) 0 6 a) := ((h.set (Or.inl rfl)).set (Or.inr (Or.inl rfl))).set (Or.inr (Or.inr (Or.inl rfl)))
set_option maxRecDepth 20000 in
theorem c_badT0 {M : fmM} {Q : fmR → fmM → Prop} {w : Int32} (hth : M.1 0 0 = 0) (hw : ¬ w = 0) (hq : Q (.inl (some (.int 1))) (fmI (fmI M 0 0 w) 2 0 (M.1 2 0 + 1))) : pvGood Tm 0 qX11_bad [.ref 0, .int 1, .int w, .int 0] M Q := by
  refine pvGood_of (Nat.le_of_ble_eq_true rfl) ?_
  show pvEv Tm 0 qX11_bad 0 [some (.ref 0), some (.int 1), some (.int w), some (.int 0)] [] M Q
  refine pv_iloadn (pc := 0) (n := 1) 1 rfl rfl (fm_dec dtX11_bad 0 rfl) ?_
  refine pv_if_eq (pc := 1) 26 (by decide) (fm_dec dtX11_bad 1 rfl) (fun hc1 => by exfalso; revert hc1; decide) (fun _ => ?_)
  refine pv_aloadn (pc := 4) (n := 0) 0 rfl rfl (fm_dec dtX11_bad 2 rfl) ?_
  refine pv_getI (k := 0) (j := 0) (ci := 11) (pc := 5) pfl_X11_101 (by decide) rfl (by decide) (fm_dec dtX11_bad 3 rfl) ?_
  refine pv_if_ne (pc := 8) 26 (by decide) (fm_dec dtX11_bad 4 rfl) (fun hc8 => by exfalso; exact hc8 hth) (fun _ => ?_)
  refine pv_aloadn (pc := 11) (n := 0) 0 rfl rfl (fm_dec dtX11_bad 5 rfl) ?_
  refine pv_iloadn (pc := 12) (n := 2) 2 rfl rfl (fm_dec dtX11_bad 6 rfl) ?_
  refine pv_putI (k := 0) (j := 0) (ci := 11) (pc := 13) pfl_X11_101 (by decide) rfl (by decide) (fm_dec dtX11_bad 7 rfl) ?_
  refine pv_aloadn (pc := 16) (n := 0) 0 rfl rfl (fm_dec dtX11_bad 8 rfl) ?_
  refine pv_getR (k := 0) (j := 10) (ci := 11) (pc := 17) 2 rfl (by decide) pfl_X11_17 (by decide) rfl (by decide) (fm_dec dtX11_bad 9 rfl) ?_
  refine pv_iloadn (pc := 20) (n := 3) 3 rfl rfl (fm_dec dtX11_bad 10 rfl) ?_
  refine pv_dup2 (pc := 21) rfl rfl (fm_dec dtX11_bad 11 rfl) ?_
  refine pv_iald (k := 2) (n := 2) (pc := 22) (by decide) rfl rfl (fm_inl (by decide)) (fm_dec dtX11_bad 12 rfl) ?_
  refine pv_iconst (pc := 23) (v := 1) (by decide) (fm_dec dtX11_bad 13 rfl) ?_
  refine pv_iadd (pc := 24) (fm_dec dtX11_bad 14 rfl) ?_
  refine pv_iast (k := 2) (n := 2) (pc := 25) (by decide) rfl rfl (fm_inl (by decide)) (fm_dec dtX11_bad 15 rfl) ?_
  refine pv_aloadn (pc := 26) (n := 0) 0 rfl rfl (fm_dec dtX11_bad 16 rfl) ?_
  refine pv_getI (k := 0) (j := 0) (ci := 11) (pc := 27) pfl_X11_101 (by decide) rfl (by decide) (fm_dec dtX11_bad 17 rfl) ?_
  refine pv_if_eq (pc := 30) 37 (by decide) (fm_dec dtX11_bad 18 rfl) (fun hc30 => by exfalso; exact hw hc30) (fun _ => ?_)
  refine pv_iconst (pc := 33) (v := 1) (by decide) (fm_dec dtX11_bad 19 rfl) ?_
  refine pv_goto (pc := 34) 38 (by decide) (fm_dec dtX11_bad 20 rfl) ?_
  exact pv_zreturn (pc := 38) rfl (by first | exact Or.inr rfl | exact Or.inl rfl) (fm_dec dtX11_bad 22 rfl) hq
set_option maxRecDepth 20000 in
theorem c_badF0 {M : fmM} {Q : fmR → fmM → Prop} {w : Int32} (hth : M.1 0 0 = 0) (hq : Q (.inl (some (.int 0))) M) : pvGood Tm 0 qX11_bad [.ref 0, .int 0, .int w, .int 0] M Q := by
  refine pvGood_of (Nat.le_of_ble_eq_true rfl) ?_
  show pvEv Tm 0 qX11_bad 0 [some (.ref 0), some (.int 0), some (.int w), some (.int 0)] [] M Q
  refine pv_iloadn (pc := 0) (n := 1) 1 rfl rfl (fm_dec dtX11_bad 0 rfl) ?_
  refine pv_if_eq (pc := 1) 26 (by decide) (fm_dec dtX11_bad 1 rfl) (fun _ => ?_) (fun hc1 => by exfalso; revert hc1; decide)
  refine pv_aloadn (pc := 26) (n := 0) 0 rfl rfl (fm_dec dtX11_bad 16 rfl) ?_
  refine pv_getI (k := 0) (j := 0) (ci := 11) (pc := 27) pfl_X11_101 (by decide) rfl (by decide) (fm_dec dtX11_bad 17 rfl) ?_
  refine pv_if_eq (pc := 30) 37 (by decide) (fm_dec dtX11_bad 18 rfl) (fun _ => ?_) (fun hc30 => by exfalso; exact hc30 hth)
  refine pv_iconst (pc := 37) (v := 0) (by decide) (fm_dec dtX11_bad 21 rfl) ?_
  exact pv_zreturn (pc := 38) rfl (by first | exact Or.inr rfl | exact Or.inl rfl) (fm_dec dtX11_bad 22 rfl) hq
set_option maxRecDepth 20000 in
theorem c_badT1 {M : fmM} {Q : fmR → fmM → Prop} {w : Int32} (hth : M.1 0 0 = 0) (hw : ¬ w = 0) (hq : Q (.inl (some (.int 1))) (fmI (fmI M 0 0 w) 2 1 (M.1 2 1 + 1))) : pvGood Tm 0 qX11_bad [.ref 0, .int 1, .int w, .int 1] M Q := by
  refine pvGood_of (Nat.le_of_ble_eq_true rfl) ?_
  show pvEv Tm 0 qX11_bad 0 [some (.ref 0), some (.int 1), some (.int w), some (.int 1)] [] M Q
  refine pv_iloadn (pc := 0) (n := 1) 1 rfl rfl (fm_dec dtX11_bad 0 rfl) ?_
  refine pv_if_eq (pc := 1) 26 (by decide) (fm_dec dtX11_bad 1 rfl) (fun hc1 => by exfalso; revert hc1; decide) (fun _ => ?_)
  refine pv_aloadn (pc := 4) (n := 0) 0 rfl rfl (fm_dec dtX11_bad 2 rfl) ?_
  refine pv_getI (k := 0) (j := 0) (ci := 11) (pc := 5) pfl_X11_101 (by decide) rfl (by decide) (fm_dec dtX11_bad 3 rfl) ?_
  refine pv_if_ne (pc := 8) 26 (by decide) (fm_dec dtX11_bad 4 rfl) (fun hc8 => by exfalso; exact hc8 hth) (fun _ => ?_)
  refine pv_aloadn (pc := 11) (n := 0) 0 rfl rfl (fm_dec dtX11_bad 5 rfl) ?_
  refine pv_iloadn (pc := 12) (n := 2) 2 rfl rfl (fm_dec dtX11_bad 6 rfl) ?_
  refine pv_putI (k := 0) (j := 0) (ci := 11) (pc := 13) pfl_X11_101 (by decide) rfl (by decide) (fm_dec dtX11_bad 7 rfl) ?_
  refine pv_aloadn (pc := 16) (n := 0) 0 rfl rfl (fm_dec dtX11_bad 8 rfl) ?_
  refine pv_getR (k := 0) (j := 10) (ci := 11) (pc := 17) 2 rfl (by decide) pfl_X11_17 (by decide) rfl (by decide) (fm_dec dtX11_bad 9 rfl) ?_
  refine pv_iloadn (pc := 20) (n := 3) 3 rfl rfl (fm_dec dtX11_bad 10 rfl) ?_
  refine pv_dup2 (pc := 21) rfl rfl (fm_dec dtX11_bad 11 rfl) ?_
  refine pv_iald (k := 2) (n := 2) (pc := 22) (by decide) rfl rfl (fm_inl (by decide)) (fm_dec dtX11_bad 12 rfl) ?_
  refine pv_iconst (pc := 23) (v := 1) (by decide) (fm_dec dtX11_bad 13 rfl) ?_
  refine pv_iadd (pc := 24) (fm_dec dtX11_bad 14 rfl) ?_
  refine pv_iast (k := 2) (n := 2) (pc := 25) (by decide) rfl rfl (fm_inl (by decide)) (fm_dec dtX11_bad 15 rfl) ?_
  refine pv_aloadn (pc := 26) (n := 0) 0 rfl rfl (fm_dec dtX11_bad 16 rfl) ?_
  refine pv_getI (k := 0) (j := 0) (ci := 11) (pc := 27) pfl_X11_101 (by decide) rfl (by decide) (fm_dec dtX11_bad 17 rfl) ?_
  refine pv_if_eq (pc := 30) 37 (by decide) (fm_dec dtX11_bad 18 rfl) (fun hc30 => by exfalso; exact hw hc30) (fun _ => ?_)
  refine pv_iconst (pc := 33) (v := 1) (by decide) (fm_dec dtX11_bad 19 rfl) ?_
  refine pv_goto (pc := 34) 38 (by decide) (fm_dec dtX11_bad 20 rfl) ?_
  exact pv_zreturn (pc := 38) rfl (by first | exact Or.inr rfl | exact Or.inl rfl) (fm_dec dtX11_bad 22 rfl) hq
set_option maxRecDepth 20000 in
theorem c_badF1 {M : fmM} {Q : fmR → fmM → Prop} {w : Int32} (hth : M.1 0 0 = 0) (hq : Q (.inl (some (.int 0))) M) : pvGood Tm 0 qX11_bad [.ref 0, .int 0, .int w, .int 1] M Q := by
  refine pvGood_of (Nat.le_of_ble_eq_true rfl) ?_
  show pvEv Tm 0 qX11_bad 0 [some (.ref 0), some (.int 0), some (.int w), some (.int 1)] [] M Q
  refine pv_iloadn (pc := 0) (n := 1) 1 rfl rfl (fm_dec dtX11_bad 0 rfl) ?_
  refine pv_if_eq (pc := 1) 26 (by decide) (fm_dec dtX11_bad 1 rfl) (fun _ => ?_) (fun hc1 => by exfalso; revert hc1; decide)
  refine pv_aloadn (pc := 26) (n := 0) 0 rfl rfl (fm_dec dtX11_bad 16 rfl) ?_
  refine pv_getI (k := 0) (j := 0) (ci := 11) (pc := 27) pfl_X11_101 (by decide) rfl (by decide) (fm_dec dtX11_bad 17 rfl) ?_
  refine pv_if_eq (pc := 30) 37 (by decide) (fm_dec dtX11_bad 18 rfl) (fun _ => ?_) (fun hc30 => by exfalso; exact hc30 hth)
  refine pv_iconst (pc := 37) (v := 0) (by decide) (fm_dec dtX11_bad 21 rfl) ?_
  exact pv_zreturn (pc := 38) rfl (by first | exact Or.inr rfl | exact Or.inl rfl) (fm_dec dtX11_bad 22 rfl) hq
set_option maxRecDepth 20000 in
theorem c_starts {M : fmM} {Q : fmR → fmM → Prop} {x : Int32} {n : Nat} (hfed : rFed M) (hn : n ≤ 600) (hx : x.toInt = n) (hq : ∀ M' : fmM, stOk M M' (rT M n) n → Q (.inl none) M') : pvGood Tm 2 qX11_starts [.ref 0, .int x] M Q := by
  refine pvGood_of (Nat.le_of_ble_eq_true rfl) ?_
  show pvEv Tm 2 qX11_starts 0 [some (.ref 0), some (.int x)] [] M Q
  refine pv_aloadn (pc := 0) (n := 0) 0 rfl rfl (fm_dec dtX11_starts 0 rfl) ?_
  refine pv_iconst (pc := 1) (v := 0) (by decide) (fm_dec dtX11_starts 1 rfl) ?_
  refine pv_putI (k := 0) (j := 1) (ci := 11) (pc := 2) pfl_X11_104 (by decide) rfl (by decide) (fm_dec dtX11_starts 2 rfl) ?_
  refine pv_aloadn (pc := 5) (n := 0) 0 rfl rfl (fm_dec dtX11_starts 3 rfl) ?_
  refine pv_iloadn (pc := 6) (n := 1) 1 rfl rfl (fm_dec dtX11_starts 4 rfl) ?_
  refine pv_putI (k := 0) (j := 2) (ci := 11) (pc := 7) pfl_X11_107 (by decide) rfl (by decide) (fm_dec dtX11_starts 5 rfl) ?_
  refine pv_aloadn (pc := 10) (n := 0) 0 rfl rfl (fm_dec dtX11_starts 6 rfl) ?_
  refine pv_iconst (pc := 11) (v := 0) (by decide) (fm_dec dtX11_starts 7 rfl) ?_
  refine pv_putI (k := 0) (j := 4) (ci := 11) (pc := 12) pfl_X11_110 (by decide) rfl (by decide) (fm_dec dtX11_starts 8 rfl) ?_
  refine pv_aloadn (pc := 15) (n := 0) 0 rfl rfl (fm_dec dtX11_starts 9 rfl) ?_
  refine pv_iconst (pc := 16) (v := 0) (by decide) (fm_dec dtX11_starts 10 rfl) ?_
  refine pv_putI (k := 0) (j := 5) (ci := 11) (pc := 17) pfl_X11_117 (by decide) rfl (by decide) (fm_dec dtX11_starts 11 rfl) ?_
  refine pv_aloadn (pc := 20) (n := 0) 0 rfl rfl (fm_dec dtX11_starts 12 rfl) ?_
  refine pv_iconst (pc := 21) (v := (-1)) (by decide) (fm_dec dtX11_starts 13 rfl) ?_
  refine pv_putI (k := 0) (j := 6) (ci := 11) (pc := 22) pfl_X11_120 (by decide) rfl (by decide) (fm_dec dtX11_starts 14 rfl) ?_
  refine pv_aloadn (pc := 25) (n := 0) 0 rfl rfl (fm_dec dtX11_starts 15 rfl) ?_
  refine pv_iconst (pc := 26) (v := 0) (by decide) (fm_dec dtX11_starts 16 rfl) ?_
  refine pv_putI (k := 0) (j := 7) (ci := 11) (pc := 27) pfl_X11_157 (by decide) rfl (by decide) (fm_dec dtX11_starts 17 rfl) ?_
  refine pv_aloadn (pc := 30) (n := 0) 0 rfl rfl (fm_dec dtX11_starts 18 rfl) ?_
  refine pv_iconst (pc := 31) (v := 0) (by decide) (fm_dec dtX11_starts 19 rfl) ?_
  refine pv_putI (k := 0) (j := 8) (ci := 11) (pc := 32) pfl_X11_160 (by decide) rfl (by decide) (fm_dec dtX11_starts 20 rfl) ?_
  refine pv_aloadn (pc := 35) (n := 0) 0 rfl rfl (fm_dec dtX11_starts 21 rfl) ?_
  refine pv_invV0 (k := 0) (d' := 1) (pc := 36) pcv_X11_123 (by decide) rfl (Nat.le_of_ble_eq_true rfl) (by decide) (fm_dec dtX11_starts 22 rfl) ?_
  refine c_blanks (stU_S hfed hn hx) (fun x36 hx36 => ?_)
  refine pv_then0 ?_
  exact pv_return (pc := 39) rfl (fm_dec dtX11_starts 23 rfl) (hq _ (stU_ok hfed hn hx hx36))
set_option maxRecDepth 20000 in
theorem c_law {M : fmM} {Q : fmR → fmM → Prop} {nn : Int32} (hfed : rFed M) (href : ¬ (0 ≤ nn.toInt ∧ nn.toInt ≤ (M.1 0 1).toInt ∧ nn.toInt ≤ 150) → Q (.inl (some (.int 0))) (rfM M 1 1)) (hok : ∀ (n0 : Nat) (cs : tC) (M' : fmM), nn.toInt = n0 → n0 ≤ 150 → (n0 : Int) ≤ (M.1 0 1).toInt → spLaw (rT M n0) n0 = .inr cs → dpR 0 cs = some 1 → lawOk M M' cs → Q (.inl (some (.int 1))) M') (hbad : ∀ (n0 k a : Nat) (r : Int32) (M' : fmM), nn.toInt = n0 → n0 ≤ 150 → (n0 : Int) ≤ (M.1 0 1).toInt → spLaw (rT M n0) n0 = .inl (k, a) → 1 ≤ k ∧ k ≤ 3 → r.toInt = k - 10 → lawBad M M' a → Q (.inl (some (.int r))) M') : pvGood Tm 27 qX11_law [.ref 0, .int nn] M Q := by
  refine pvGood_of (Nat.le_of_ble_eq_true rfl) ?_
  show pvEv Tm 27 qX11_law 0 [some (.ref 0), some (.int nn)] [] M Q
  refine pv_aloadn (pc := 0) (n := 0) 0 rfl rfl (fm_dec dtX11_law 0 rfl) ?_
  refine pv_iconst (pc := 1) (v := 0) (by decide) (fm_dec dtX11_law 1 rfl) ?_
  refine pv_putI (k := 0) (j := 0) (ci := 11) (pc := 2) pfl_X11_101 (by decide) rfl (by decide) (fm_dec dtX11_law 2 rfl) ?_
  refine pv_aloadn (pc := 5) (n := 0) 0 rfl rfl (fm_dec dtX11_law 3 rfl) ?_
  refine pv_iloadn (pc := 6) (n := 1) 1 rfl rfl (fm_dec dtX11_law 4 rfl) ?_
  refine pv_iconst (pc := 7) (v := 0) (by decide) (fm_dec dtX11_law 5 rfl) ?_
  refine pv_aloadn (pc := 8) (n := 0) 0 rfl rfl (fm_dec dtX11_law 6 rfl) ?_
  refine pv_getI (k := 0) (j := 1) (ci := 11) (pc := 9) pfl_X11_104 (by decide) rfl (by decide) (fm_dec dtX11_law 7 rfl) ?_
  refine pv_iS3 (d' := 0) (pc := 12) pcs_X11_135 (Nat.le_of_ble_eq_true rfl) (by decide) (fm_dec dtX11_law 8 rfl) ?_
  refine c_in (fun h12a h12b => ?_) (fun h12 => ?_)
  · refine pv_then1 ?_
    refine pv_if_eq (pc := 15) 25 (by decide) (fm_dec dtX11_law 9 rfl) (fun hc15 => by exfalso; revert hc15; decide) (fun _ => ?_)
    refine pv_iloadn (pc := 18) (n := 1) 1 rfl rfl (fm_dec dtX11_law 10 rfl) ?_
    refine pv_sipush (pc := 19) (v := 150) (by decide) (fm_dec dtX11_law 11 rfl) ?_
    refine pv_icmp_le (pc := 22) 29 (by decide) (fm_dec dtX11_law 12 rfl) (fun hc22 => ?_) (fun hc22 => ?_)
    · refine pv_iconst (pc := 29) (v := 0) (by decide) (fm_dec dtX11_law 15 rfl) ?_
      refine pv_iconst (pc := 30) (v := 1) (by decide) (fm_dec dtX11_law 16 rfl) ?_
      refine pv_iconst (pc := 31) (v := 1) (by decide) (fm_dec dtX11_law 17 rfl) ?_
      refine pv_invV3 (k := 0) (d' := 0) (pc := 32) pcv_X11_177 (by decide) rfl (Nat.le_of_ble_eq_true rfl) (by decide) (fm_dec dtX11_law 18 rfl) ?_
      refine c_badF1 rfl ?_
      refine pv_then1 ?_
      refine pv_if_eq (pc := 35) 40 (by decide) (fm_dec dtX11_law 19 rfl) (fun _ => ?_) (fun hc35 => by exfalso; revert hc35; decide)
      obtain ⟨n0, hn0⟩ : ∃ n0 : Nat, nn.toInt = n0 := ⟨nn.toInt.toNat, by have h9 : (0 : Int32).toInt = 0 := (by decide); omega⟩
      have hn150 : n0 ≤ 150 := (by rw [sc_le] at hc22; have h9 : (150 : Int32).toInt = 150 := (by decide); omega)
      have hnt : (n0 : Int) ≤ (M.1 0 1).toInt := (by have h9 : (nn.toInt : Int) ≤ ((fmI M 0 0 0).1 0 1).toInt := h12b; rw [hn0] at h9; exact h9)
      refine pv_aloadn (pc := 40) (n := 0) 0 rfl rfl (fm_dec dtX11_law 22 rfl) ?_
      refine pv_iloadn (pc := 41) (n := 1) 1 rfl rfl (fm_dec dtX11_law 23 rfl) ?_
      refine pv_invV1 (k := 0) (d' := 2) (pc := 42) pcv_X11_181 (by decide) rfl (Nat.le_of_ble_eq_true rfl) (by decide) (fm_dec dtX11_law 24 rfl) ?_
      refine c_starts (n := n0) (M := fmI M 0 0 0) hfed (by omega) hn0 (fun M42 h42 => ?_) 
      refine pv_then0 ?_
      refine pv_aloadn (pc := 45) (n := 0) 0 rfl rfl (fm_dec dtX11_law 25 rfl) ?_
      refine pv_iconst (pc := 46) (v := 0) (by decide) (fm_dec dtX11_law 26 rfl) ?_
      refine pv_putI (k := 0) (j := 18) (ci := 11) (pc := 47) pfl_X11_209 (by decide) rfl (by decide) (fm_dec dtX11_law 27 rfl) ?_
      have hok9 := rT_ok (n := n0) hfed (by omega)
      have hs0 : sk (rT M n0) 0 ≤ n0 := sp_le tB_1 hok9 (Nat.zero_le _)
      have hP51 : lwPre (fmI M42 0 18 0) (rT M n0) n0 (sk (rT M n0) 0) 0 0 := ⟨h42.1.of rfl rfl rfl, h42.2.1, (by show (M42.1 0 8).toInt = _; rw [h42.2.2.1]; decide), by decide, (show (0 : Int32).toInt = _ by decide), Nat.zero_le _, hn150⟩
      have hne51 := spL_fuel hok9 700 0 0 (sk (rT M n0) 0) hs0 (by show 4 * _ + 3 ≤ 700; omega)
      refine pv_aloadn (pc := 50) (n := 0) 0 rfl rfl (fm_dec dtX11_law 28 rfl) ?_
      refine pv_invV0 (k := 0) (d' := 26) (pc := 51) pcv_X11_231 (by decide) rfl (Nat.le_of_ble_eq_true rfl) (by decide) (fm_dec dtX11_law 29 rfl) ?_
      refine lw_all (tx := rT M n0) (n := n0) 700 0 0 (sk (rT M n0) 0) 0 (fmI M42 0 18 0) _ hP51 hne51 ⟨fun M51 cs51 q51 e51 k51 => ?_, fun M51 kb ab eb hB => ?_⟩  
      · refine pv_then0 ?_
        have l51 := spL_len hok9 _ _ _ _ _ _ hs0 e51
        refine pv_aloadn (pc := 54) (n := 0) 0 rfl rfl (fm_dec dtX11_law 30 rfl) ?_
        refine pv_invV0 (k := 0) (d' := 1) (pc := 55) pcv_X11_123 (by decide) rfl (Nat.le_of_ble_eq_true rfl) (by decide) (fm_dec dtX11_law 31 rfl) ?_
        refine c_blanks k51.1 (fun x55 hx55 => ?_)
        refine pv_then0 ?_
        refine pv_aloadn (pc := 58) (n := 0) 0 rfl rfl (fm_dec dtX11_law 32 rfl) ?_
        refine pv_getI (k := 0) (j := 5) (ci := 11) (pc := 59) pfl_X11_117 (by decide) rfl (by decide) (fm_dec dtX11_law 33 rfl) ?_
        refine pv_if_ne (pc := 62) 85 (by decide) (fm_dec dtX11_law 34 rfl) (fun hc62 => by exfalso; exact hc62 k51.2.1) (fun _ => ?_)
        refine pv_aloadn (pc := 65) (n := 0) 0 rfl rfl (fm_dec dtX11_law 35 rfl) ?_
        refine pv_getI (k := 0) (j := 4) (ci := 11) (pc := 66) pfl_X11_110 (by decide) rfl (by decide) (fm_dec dtX11_law 36 rfl) ?_
        refine pv_aloadn (pc := 69) (n := 0) 0 rfl rfl (fm_dec dtX11_law 37 rfl) ?_
        refine pv_getI (k := 0) (j := 2) (ci := 11) (pc := 70) pfl_X11_107 (by decide) rfl (by decide) (fm_dec dtX11_law 38 rfl) ?_
        refine pv_icmp_ge (pc := 73) 85 (by decide) (fm_dec dtX11_law 39 rfl) (fun hc73 => ?_) (fun hc73 => ?_)
        · refine pv_aloadn (pc := 85) (n := 0) 0 rfl rfl (fm_dec dtX11_law 45 rfl) ?_
          refine pv_getI (k := 0) (j := 5) (ci := 11) (pc := 86) pfl_X11_117 (by decide) rfl (by decide) (fm_dec dtX11_law 46 rfl) ?_
          refine pv_if_eq (pc := 89) 97 (by decide) (fm_dec dtX11_law 47 rfl) (fun _ => ?_) (fun hc89 => by exfalso; exact hc89 k51.2.1)
          refine pv_aloadn (pc := 97) (n := 0) 0 rfl rfl (fm_dec dtX11_law 51 rfl) ?_
          refine pv_iconst (pc := 98) (v := (-1)) (by decide) (fm_dec dtX11_law 52 rfl) ?_
          refine pv_putI (k := 0) (j := 3) (ci := 11) (pc := 99) pfl_X11_9 (by decide) rfl (by decide) (fm_dec dtX11_law 53 rfl) ?_
          refine pv_aloadn (pc := 102) (n := 0) 0 rfl rfl (fm_dec dtX11_law 54 rfl) ?_
          refine pv_aloadn (pc := 103) (n := 0) 0 rfl rfl (fm_dec dtX11_law 55 rfl) ?_
          refine pv_getI (k := 0) (j := 18) (ci := 11) (pc := 104) pfl_X11_209 (by decide) rfl (by decide) (fm_dec dtX11_law 56 rfl) ?_
          refine pv_putI (k := 0) (j := 17) (ci := 11) (pc := 107) pfl_X11_194 (by decide) rfl (by decide) (fm_dec dtX11_law 57 rfl) ?_
          refine pv_aloadn (pc := 110) (n := 0) 0 rfl rfl (fm_dec dtX11_law 58 rfl) ?_
          refine pv_getR (k := 0) (j := 20) (ci := 11) (pc := 111) 21 rfl (by decide) pfl_X11_43 (by decide) rfl (by decide) (fm_dec dtX11_law 59 rfl) ?_
          refine pv_aloadn (pc := 114) (n := 0) 0 rfl rfl (fm_dec dtX11_law 60 rfl) ?_
          refine pv_getR (k := 0) (j := 19) (ci := 11) (pc := 115) 20 rfl (by decide) pfl_X11_40 (by decide) rfl (by decide) (fm_dec dtX11_law 61 rfl) ?_
          refine pv_aloadn (pc := 118) (n := 0) 0 rfl rfl (fm_dec dtX11_law 62 rfl) ?_
          refine pv_getI (k := 0) (j := 17) (ci := 11) (pc := 119) pfl_X11_194 (by decide) rfl (by decide) (fm_dec dtX11_law 63 rfl) ?_
          refine pv_iS3 (d' := 0) (pc := 122) pcs_X11_190 (Nat.le_of_ble_eq_true rfl) (by decide) (fm_dec dtX11_law 64 rfl) ?_
          refine c_lays_law k51.2.2.2.1 (by omega) (fun M122 h122 => ?_)
          refine pv_then0 ?_
          refine pv_iconst (pc := 125) (v := 1) (by decide) (fm_dec dtX11_law 65 rfl) ?_
          exact pv_ireturn (pc := 126) rfl (fm_dec dtX11_law 66 rfl) (hok n0 cs51 M122 hn0 hn150 hnt (law_so e51 hc73 hx55 (k51.1.1)) ((spL_wf _ _ _ _ _ _ e51 0).1 (by decide)) (law_ok h42 k51 l51.2.1 hx55 (by omega) hn150 (by rw [Nat.zero_add] at h122; exact h122)))
        · refine pv_aloadn (pc := 76) (n := 0) 0 rfl rfl (fm_dec dtX11_law 40 rfl) ?_
          refine pv_iconst (pc := 77) (v := 1) (by decide) (fm_dec dtX11_law 41 rfl) ?_
          refine pv_aloadn (pc := 78) (n := 0) 0 rfl rfl (fm_dec dtX11_law 42 rfl) ?_
          refine pv_getI (k := 0) (j := 4) (ci := 11) (pc := 79) pfl_X11_110 (by decide) rfl (by decide) (fm_dec dtX11_law 43 rfl) ?_
          refine pv_invV2 (k := 0) (d' := 0) (pc := 82) pcv_X11_130 (by decide) rfl (Nat.le_of_ble_eq_true rfl) (by decide) (fm_dec dtX11_law 44 rfl) ?_
          refine c_wrongAt (fun _ => ?_) (fun h9 => absurd k51.2.1 h9) 
          refine pv_then0 ?_
          refine pv_aloadn (pc := 85) (n := 0) 0 rfl rfl (fm_dec dtX11_law 45 rfl) ?_
          refine pv_getI (k := 0) (j := 5) (ci := 11) (pc := 86) pfl_X11_117 (by decide) rfl (by decide) (fm_dec dtX11_law 46 rfl) ?_
          refine pv_if_eq (pc := 89) 97 (by decide) (fm_dec dtX11_law 47 rfl) (fun hc89 => by exfalso; exact absurd (show (1 : Int32) = 0 from hc89) (by decide)) (fun _ => ?_)
          refine pv_aloadn (pc := 92) (n := 0) 0 rfl rfl (fm_dec dtX11_law 48 rfl) ?_
          refine pv_invV0 (k := 0) (d' := 0) (pc := 93) pcv_X11_187 (by decide) rfl (Nat.le_of_ble_eq_true rfl) (by decide) (fm_dec dtX11_law 49 rfl) ?_
          refine c_ends ?_
          refine pv_then1 ?_
          exact pv_ireturn (pc := 96) rfl (fm_dec dtX11_law 50 rfl) (hbad n0 1 (sk (rT M n0) q51) _ _ hn0 hn150 hnt (law_sb e51 hc73 hx55 (k51.1.1)) ⟨by decide, by decide⟩ (show ((1 : Int32) - 10).toInt = _ by decide) (law_bad h42 (k51.2.2.2.2.2.at2 (x := x55)) ⟨_, (k51.1.bl hx55).of rfl rfl rfl⟩ (show (1 : Int32).toInt = ((1 : Nat) : Int) by decide) hx55 (by decide) (k51.1.bl hx55).2.2.1 hn150 rfl))
      · refine pv_then0 ?_
        obtain ⟨qb, hSb⟩ := hB.1
        have kb9 := law_b3 hok9 hs0 hn150 eb
        refine pv_aloadn (pc := 54) (n := 0) 0 rfl rfl (fm_dec dtX11_law 30 rfl) ?_
        refine pv_invV0 (k := 0) (d' := 1) (pc := 55) pcv_X11_123 (by decide) rfl (Nat.le_of_ble_eq_true rfl) (by decide) (fm_dec dtX11_law 31 rfl) ?_
        refine c_blanks hSb (fun x55 hx55 => ?_)
        refine pv_then0 ?_
        refine pv_aloadn (pc := 58) (n := 0) 0 rfl rfl (fm_dec dtX11_law 32 rfl) ?_
        refine pv_getI (k := 0) (j := 5) (ci := 11) (pc := 59) pfl_X11_117 (by decide) rfl (by decide) (fm_dec dtX11_law 33 rfl) ?_
        refine pv_if_ne (pc := 62) 85 (by decide) (fm_dec dtX11_law 34 rfl) (fun _ => ?_) (fun hc62 => by exfalso; exact hB.nz hc62)
        refine pv_aloadn (pc := 85) (n := 0) 0 rfl rfl (fm_dec dtX11_law 45 rfl) ?_
        refine pv_getI (k := 0) (j := 5) (ci := 11) (pc := 86) pfl_X11_117 (by decide) rfl (by decide) (fm_dec dtX11_law 46 rfl) ?_
        refine pv_if_eq (pc := 89) 97 (by decide) (fm_dec dtX11_law 47 rfl) (fun hc89 => by exfalso; exact hB.nz hc89) (fun _ => ?_)
        refine pv_aloadn (pc := 92) (n := 0) 0 rfl rfl (fm_dec dtX11_law 48 rfl) ?_
        refine pv_invV0 (k := 0) (d' := 0) (pc := 93) pcv_X11_187 (by decide) rfl (Nat.le_of_ble_eq_true rfl) (by decide) (fm_dec dtX11_law 49 rfl) ?_
        refine c_ends ?_
        refine pv_then1 ?_
        exact pv_ireturn (pc := 96) rfl (fm_dec dtX11_law 50 rfl) (hbad n0 kb ab _ _ hn0 hn150 hnt (law_s1 eb) kb9.1 (law_r hB.2.1 kb9.1.2) (law_bad h42 (hB.2.2.2.2.at1 (x := x55)) ⟨_, hSb.bl hx55⟩ hB.2.1 hB.2.2.1 kb9.1.2 kb9.2 hn150 rfl))
    · refine pv_iconst (pc := 25) (v := 1) (by decide) (fm_dec dtX11_law 13 rfl) ?_
      refine pv_goto (pc := 26) 30 (by decide) (fm_dec dtX11_law 14 rfl) ?_
      refine pv_iconst (pc := 30) (v := 1) (by decide) (fm_dec dtX11_law 16 rfl) ?_
      refine pv_iconst (pc := 31) (v := 1) (by decide) (fm_dec dtX11_law 17 rfl) ?_
      refine pv_invV3 (k := 0) (d' := 0) (pc := 32) pcv_X11_177 (by decide) rfl (Nat.le_of_ble_eq_true rfl) (by decide) (fm_dec dtX11_law 18 rfl) ?_
      refine c_badT1 rfl (by decide) ?_
      refine pv_then1 ?_
      refine pv_if_eq (pc := 35) 40 (by decide) (fm_dec dtX11_law 19 rfl) (fun hc35 => by exfalso; revert hc35; decide) (fun _ => ?_)
      refine pv_iconst (pc := 38) (v := 0) (by decide) (fm_dec dtX11_law 20 rfl) ?_
      exact pv_ireturn (pc := 39) rfl (fm_dec dtX11_law 21 rfl) (href (by intro h9; first | exact h12 ⟨by have h8 : (0 : Int32).toInt = 0 := (by decide); rw [h8]; exact h9.1, h9.2.1⟩ | (rw [sc_le] at hc22; have h8 : (150 : Int32).toInt = 150 := (by decide); omega)))
  · refine pv_then1 ?_
    refine pv_if_eq (pc := 15) 25 (by decide) (fm_dec dtX11_law 9 rfl) (fun _ => ?_) (fun hc15 => by exfalso; revert hc15; decide)
    refine pv_iconst (pc := 25) (v := 1) (by decide) (fm_dec dtX11_law 13 rfl) ?_
    refine pv_goto (pc := 26) 30 (by decide) (fm_dec dtX11_law 14 rfl) ?_
    refine pv_iconst (pc := 30) (v := 1) (by decide) (fm_dec dtX11_law 16 rfl) ?_
    refine pv_iconst (pc := 31) (v := 1) (by decide) (fm_dec dtX11_law 17 rfl) ?_
    refine pv_invV3 (k := 0) (d' := 0) (pc := 32) pcv_X11_177 (by decide) rfl (Nat.le_of_ble_eq_true rfl) (by decide) (fm_dec dtX11_law 18 rfl) ?_
    refine c_badT1 rfl (by decide) ?_
    refine pv_then1 ?_
    refine pv_if_eq (pc := 35) 40 (by decide) (fm_dec dtX11_law 19 rfl) (fun hc35 => by exfalso; revert hc35; decide) (fun _ => ?_)
    refine pv_iconst (pc := 38) (v := 0) (by decide) (fm_dec dtX11_law 20 rfl) ?_
    exact pv_ireturn (pc := 39) rfl (fm_dec dtX11_law 21 rfl) (href (by intro h9; first | exact h12 ⟨by have h8 : (0 : Int32).toInt = 0 := (by decide); rw [h8]; exact h9.1, h9.2.1⟩ | (rw [sc_le] at hc22; have h8 : (150 : Int32).toInt = 150 := (by decide); omega)))
