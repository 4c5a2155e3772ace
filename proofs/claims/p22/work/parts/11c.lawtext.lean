-- LAWS AS TEXTS
def spBind {α β : Type} (r : tR α) (k : α → Nat → tR β) : tR β := match r with
  | .inl e => .inl e
  | .inr (v, q) => k v q
def lwWords : List (List Int) := [[97, 103, 101], [121, 101, 97, 114, 115], [119, 111, 114, 116, 104], [100, 101, 97, 100], [102, 97, 99, 116, 115]]
def lwLeast : List Int := [108, 101, 97, 115, 116]
def lwMost : List Int := [109, 111, 115, 116]
def lwK (w : List Int) : Option Nat := if w = [97, 103, 101] then some 0 else if w = [121, 101, 97, 114, 115] then some 1 else if w = [119, 111, 114, 116, 104] then some 2 else if w = [100, 101, 97, 100] then some 3 else if w = [102, 97, 99, 116, 115] then some 4 else none
def spTwo (tx : tX) (rc : Nat → tR tC) (c q : Nat) : tR tC := spBind (spSign tx 91 q) fun _ q => spBind (rc q) fun cs q => spBind (spSign tx 44 q) fun _ q => spBind (rc q) fun ds q => spBind (spSign tx 93 q) fun _ q => .inr (cs ++ ds ++ [(c, 0)], q)
def spPar (tx : tX) (rc : Nat → tR tC) (q : Nat) : tR tC := spBind (rc q) fun cs q => spBind (spSign tx 41 q) fun _ q => .inr (cs, q)
def spApp (r : tR tC) (k : Nat → tR tC) : tR tC := spBind r fun cs q => spBind (k q) fun ds q => .inr (cs ++ ds, q)
def spOp (c : Nat) (r : tR tC) (k : Nat → tR tC) : tR tC := spBind r fun cs q => spBind (k q) fun ds q => .inr (cs ++ (c, 0) :: ds, q)
def spOne (tx : tX) (rc : Nat → tR tC) (o a : Nat) : tR tC :=
  if wd tx a = lwLeast then (if o = 6 then .inl (3, a) else spTwo tx rc 6 (sp tW tx a))
  else if wd tx a = lwMost then (if o = 6 then .inl (3, a) else spTwo tx rc 7 (sp tW tx a))
  else if tx a = 40 then (if o = 6 then .inl (3, a) else spPar tx rc (a + 1))
  else match lwK (wd tx a) with
    | some k => .inr ([(1, k)], sp tW tx a)
    | none => spBind (spNum tx 0 999 a) fun v q => .inr ([(0, v)], q)
def spLp (tx : tX) (c1 c2 : Int) (k1 k2 a : Nat) (rc lp : Nat → tR tC) : tR tC :=
  if tx a = c1 then spOp k1 (rc (a + 1)) lp else if tx a = c2 then spOp k2 (rc (a + 1)) lp else .inr ([], a)
/-- by fuel; 0 a sum, 1 a product, 2 a unit, 3 what follows in a sum, 4 in a product -/
def spL (tx : tX) : Nat → Nat → Nat → Nat → tR tC
  | 0, _, _, _ => .inl (9, 0)
  | f + 1, md, o, p => match md with
    | 0 => spApp (spL tx f 1 o p) (fun q => spL tx f 3 o q)
    | 1 => spApp (spL tx f 2 o p) (fun q => spL tx f 4 o q)
    | 2 => spOne tx (fun q => spL tx f 0 (o + 1) q) o (sk tx p)
    | 3 => spLp tx 43 45 2 3 (sk tx p) (fun q => spL tx f 1 o q) (fun q => spL tx f 3 o q)
    | _ => spLp tx 42 47 4 5 (sk tx p) (fun q => spL tx f 2 o q) (fun q => spL tx f 4 o q)
theorem spBind_ok {α β : Type} {r : tR α} {k : α → Nat → tR β} {v : β} {q : Nat} (h : spBind r k = .inr (v, q)) : ∃ u q0, r = .inr (u, q0) ∧ k u q0 = .inr (v, q) := by
  unfold spBind at h
  split at h
  · cases h
  · exact ⟨_, _, rfl, h⟩
theorem spBind_ne {α β : Type} {r : tR α} {k : α → Nat → tR β} (h : ¬ spBind r k = .inl (9, 0)) : ¬ r = .inl (9, 0) := by
  intro e
  apply h
  rw [e]
  rfl
theorem spBind_ne2 {α β : Type} {r : tR α} {k : α → Nat → tR β} {v : α} {q : Nat} (h : ¬ spBind r k = .inl (9, 0)) (e : r = .inr (v, q)) : ¬ k v q = .inl (9, 0) := by
  intro e2
  apply h
  rw [e]
  exact e2
/-- what is read is behind where it began; no more is noted than was read -/
theorem spL_len {tx : tX} {n : Nat} (ht : tOk tx n) : ∀ (f md o p q : Nat) (cs : tC), p ≤ n → spL tx f md o p = .inr (cs, q) → p + cs.length ≤ q ∧ q ≤ n ∧ (md < 3 → p < q) := by
  intro f
  induction f with
  | zero => intro md o p q cs _ h; cases h
  | succ f ih =>
    have hsk : ∀ p, p ≤ n → p ≤ sk tx p ∧ sk tx p ≤ n := fun p h => ⟨sp_ge p, sp_le tB_1 ht h⟩
    have app : ∀ (m1 m2 o p q : Nat) (cs : tC), m1 < 3 → p ≤ n → spApp (spL tx f m1 o p) (fun q => spL tx f m2 o q) = .inr (cs, q) → p + cs.length ≤ q ∧ q ≤ n ∧ p < q := by
      intro m1 m2 o p q cs h1 hp h
      obtain ⟨c1, q1, e1, h⟩ := spBind_ok h
      obtain ⟨c2, q2, e2, h⟩ := spBind_ok h
      cases h
      have a1 := ih _ _ _ _ _ hp e1
      have a2 := ih _ _ _ _ _ a1.2.1 e2
      simp only [List.length_append]
      exact ⟨by omega, by omega, by have := a1.2.2 h1; omega⟩
    have op : ∀ (c m1 m2 o p q : Nat) (cs : tC), p ≤ n → spOp c (spL tx f m1 o p) (fun q => spL tx f m2 o q) = .inr (cs, q) → p + cs.length ≤ q + 1 ∧ q ≤ n := by
      intro c m1 m2 o p q cs hp h
      obtain ⟨c1, q1, e1, h⟩ := spBind_ok h
      obtain ⟨c2, q2, e2, h⟩ := spBind_ok h
      cases h
      have a1 := ih _ _ _ _ _ hp e1
      have a2 := ih _ _ _ _ _ a1.2.1 e2
      simp only [List.length_append, List.length_cons]
      omega
    have lp : ∀ (c1 c2 : Int) (k1 k2 m1 m2 o p q : Nat) (cs : tC), 0 ≤ c1 → 0 ≤ c2 → p ≤ n → spLp tx c1 c2 k1 k2 (sk tx p) (fun q => spL tx f m1 o q) (fun q => spL tx f m2 o q) = .inr (cs, q) → p + cs.length ≤ q ∧ q ≤ n := by
      intro c1 c2 k1 k2 m1 m2 o p q cs h1 h2 hp h
      obtain ⟨s1, s2⟩ := hsk p hp
      have inn : ∀ c : Int, 0 ≤ c → tx (sk tx p) = c → sk tx p + 1 ≤ n := by
        intro c hc e
        by_cases e2 : sk tx p < n
        · exact e2
        · rw [ht.2.1 _ (by omega)] at e
          omega
      unfold spLp at h
      split at h
      · rename_i e
        have := op _ _ _ _ _ _ _ (inn c1 h1 e) h
        omega
      · split at h
        · rename_i e
          have := op _ _ _ _ _ _ _ (inn c2 h2 e) h
          omega
        · cases h
          simp
          omega
    have one : ∀ (o p q : Nat) (cs : tC), p ≤ n → spOne tx (fun q => spL tx f 0 (o + 1) q) o (sk tx p) = .inr (cs, q) → p + cs.length ≤ q ∧ q ≤ n ∧ p < q := by
      intro o p q cs hp h
      obtain ⟨s1, s2⟩ := hsk p hp
      have w1 := sp_ge (P := tW) (tx := tx) (sk tx p)
      have w2 := sp_le (p := sk tx p) tW_1 ht s2
      have w3 := wd_len (tx := tx) (p := sk tx p)
      have two : ∀ c, 0 < (wd tx (sk tx p)).length → spTwo tx (fun q => spL tx f 0 (o + 1) q) c (sp tW tx (sk tx p)) = .inr (cs, q) → p + cs.length ≤ q ∧ q ≤ n ∧ p < q := by
        intro c hc h
        obtain ⟨u1, q1, e1, h⟩ := spBind_ok h
        obtain ⟨c2, q2, e2, h⟩ := spBind_ok h
        obtain ⟨u3, q3, e3, h⟩ := spBind_ok h
        obtain ⟨c4, q4, e4, h⟩ := spBind_ok h
        obtain ⟨u5, q5, e5, h⟩ := spBind_ok h
        cases h
        have a1 := spSign_ok ht w2 (by omega) e1
        have a2 := ih _ _ _ _ _ a1.2 e2
        have a3 := spSign_ok ht a2.2.1 (by omega) e3
        have a4 := ih _ _ _ _ _ a3.2 e4
        have a5 := spSign_ok ht a4.2.1 (by omega) e5
        simp only [List.length_append, List.length_cons, List.length_nil]
        omega
      unfold spOne at h
      split at h
      · rename_i e
        split at h
        · cases h
        · exact two 6 (by rw [e]; decide) h
      · split at h
        · rename_i e
          split at h
          · cases h
          · exact two 7 (by rw [e]; decide) h
        · split at h
          · rename_i e
            split at h
            · cases h
            · have inn : sk tx p + 1 ≤ n := by
                by_cases e2 : sk tx p < n
                · exact e2
                · rw [ht.2.1 _ (by omega)] at e
                  omega
              obtain ⟨c1, q1, e1, h⟩ := spBind_ok h
              obtain ⟨u2, q2, e2, h⟩ := spBind_ok h
              cases h
              have a1 := ih _ _ _ _ _ inn e1
              have a2 := spSign_ok ht a1.2.1 (by omega) e2
              omega
          · split at h
            · rename_i k hk
              cases h
              have : (wd tx (sk tx p)).length ≠ 0 := by
                intro e0
                rw [List.length_eq_zero_iff.mp e0] at hk
                simp [lwK] at hk
              simp
              omega
            · obtain ⟨v1, q1, e1, h⟩ := spBind_ok h
              cases h
              have a1 := spNum_ok ht s2 e1
              simp
              omega
    intro md o p q cs hp h
    match md with
    | 0 => exact ⟨(app 1 3 o p q cs (by omega) hp h).1, (app 1 3 o p q cs (by omega) hp h).2.1, fun _ => (app 1 3 o p q cs (by omega) hp h).2.2⟩
    | 1 => exact ⟨(app 2 4 o p q cs (by omega) hp h).1, (app 2 4 o p q cs (by omega) hp h).2.1, fun _ => (app 2 4 o p q cs (by omega) hp h).2.2⟩
    | 2 => exact ⟨(one o p q cs hp h).1, (one o p q cs hp h).2.1, fun _ => (one o p q cs hp h).2.2⟩
    | 3 => exact ⟨(lp 43 45 2 3 1 3 o p q cs (by omega) (by omega) hp h).1, (lp 43 45 2 3 1 3 o p q cs (by omega) (by omega) hp h).2, fun h => by omega⟩
    | md + 4 => exact ⟨(lp 42 47 4 5 2 4 o p q cs (by omega) (by omega) hp h).1, (lp 42 47 4 5 2 4 o p q cs (by omega) (by omega) hp h).2, fun h => by omega⟩
theorem spBind_nf {α β : Type} {r : tR α} {k : α → Nat → tR β} (h1 : ¬ r = .inl (9, 0)) (h2 : ∀ v q, r = .inr (v, q) → ¬ k v q = .inl (9, 0)) : ¬ spBind r k = .inl (9, 0) := by
  intro e
  unfold spBind at e
  split at e
  · rename_i e1
    apply h1
    cases e
    rfl
  · exact h2 _ _ rfl e
theorem spSign_nf {tx : tX} {c : Int} {p : Nat} : ¬ spSign tx c p = .inl (9, 0) := by
  unfold spSign
  split
  · intro h; cases h
  · intro h; injection h with h; injection h with h; omega
theorem spNum_nf {tx : tX} {lo hi : Int} {p : Nat} : ¬ spNum tx lo hi p = .inl (9, 0) := by
  unfold spNum
  split
  · split
    · intro h; cases h
    · intro h; injection h with h; injection h with h; omega
  · intro h; injection h with h; injection h with h; omega
def spFu (md : Nat) : Nat := if md = 0 then 3 else if md = 1 then 2 else 1
/-- there is fuel enough -/
theorem spL_fuel {tx : tX} {n : Nat} (ht : tOk tx n) : ∀ (f md o p : Nat), p ≤ n → 4 * (n - p) + spFu md ≤ f → ¬ spL tx f md o p = .inl (9, 0) := by
  intro f
  induction f with
  | zero =>
    intro md o p _ h
    unfold spFu at h
    split at h
    · omega
    · split at h <;> omega
  | succ f ih =>
    have hsk : ∀ p, p ≤ n → p ≤ sk tx p ∧ sk tx p ≤ n := fun p h => ⟨sp_ge p, sp_le tB_1 ht h⟩
    have app : ∀ (m1 m2 o p : Nat), m1 < 3 → p ≤ n → spFu m1 ≤ 2 → spFu m2 = 1 → 4 * (n - p) + spFu m1 ≤ f → ¬ spApp (spL tx f m1 o p) (fun q => spL tx f m2 o q) = .inl (9, 0) := by
      intro m1 m2 o p h1 hp h2 h3 h
      refine spBind_nf (ih _ _ _ hp h) (fun cs q e => ?_)
      have a := spL_len ht _ _ _ _ _ _ hp e
      refine spBind_nf (ih _ _ _ a.2.1 (by have := a.2.2 h1; omega)) (fun ds r _ => ?_)
      intro h; cases h
    have op : ∀ (c m1 m2 o p : Nat), p ≤ n → m1 < 3 → spFu m2 = 1 → 4 * (n - p) + spFu m1 ≤ f → ¬ spOp c (spL tx f m1 o p) (fun q => spL tx f m2 o q) = .inl (9, 0) := by
      intro c m1 m2 o p hp h1 h3 h
      refine spBind_nf (ih _ _ _ hp h) (fun cs q e => ?_)
      have a := spL_len ht _ _ _ _ _ _ hp e
      refine spBind_nf (ih _ _ _ a.2.1 (by have := a.2.2 h1; omega)) (fun ds r _ => ?_)
      intro h; cases h
    have inn : ∀ (c : Int) (p : Nat), p ≤ n → 0 ≤ c → tx p = c → p + 1 ≤ n := by
      intro c p hp hc e
      by_cases e2 : p < n
      · exact e2
      · rw [ht.2.1 _ (by omega)] at e
        omega
    have lp : ∀ (c1 c2 : Int) (k1 k2 m1 m2 o p : Nat), 0 ≤ c1 → 0 ≤ c2 → m1 < 3 → spFu m1 ≤ 2 → spFu m2 = 1 → p ≤ n → 4 * (n - p) + 1 ≤ f + 1 → ¬ spLp tx c1 c2 k1 k2 (sk tx p) (fun q => spL tx f m1 o q) (fun q => spL tx f m2 o q) = .inl (9, 0) := by
      intro c1 c2 k1 k2 m1 m2 o p h1 h2 h5 h3 h4 hp h
      obtain ⟨s1, s2⟩ := hsk p hp
      unfold spLp
      split
      · rename_i e
        have := inn c1 _ s2 h1 e
        exact op _ _ _ _ _ this h5 h4 (by omega)
      · split
        · rename_i e
          have := inn c2 _ s2 h2 e
          exact op _ _ _ _ _ this h5 h4 (by omega)
        · intro h; cases h
    have one : ∀ (o p : Nat), p ≤ n → 4 * (n - p) + 1 ≤ f + 1 → ¬ spOne tx (fun q => spL tx f 0 (o + 1) q) o (sk tx p) = .inl (9, 0) := by
      intro o p hp h
      obtain ⟨s1, s2⟩ := hsk p hp
      have w1 := sp_ge (P := tW) (tx := tx) (sk tx p)
      have w2 := sp_le (p := sk tx p) tW_1 ht s2
      have f0 : spFu 0 = 3 := rfl
      have two : ∀ c, ¬ spTwo tx (fun q => spL tx f 0 (o + 1) q) c (sp tW tx (sk tx p)) = .inl (9, 0) := by
        intro c
        refine spBind_nf spSign_nf (fun u1 q1 e1 => ?_)
        have a1 := spSign_ok ht w2 (by omega) e1
        refine spBind_nf (ih _ _ _ a1.2 (by omega)) (fun c2 q2 e2 => ?_)
        have a2 := spL_len ht _ _ _ _ _ _ a1.2 e2
        refine spBind_nf spSign_nf (fun u3 q3 e3 => ?_)
        have a3 := spSign_ok ht a2.2.1 (by omega) e3
        refine spBind_nf (ih _ _ _ a3.2 (by omega)) (fun c4 q4 e4 => ?_)
        refine spBind_nf spSign_nf (fun u5 q5 e5 => ?_)
        intro h; cases h
      unfold spOne
      split
      · split
        · intro h; injection h with h; injection h with h; omega
        · exact two 6
      · split
        · split
          · intro h; injection h with h; injection h with h; omega
          · exact two 7
        · split
          · rename_i e
            split
            · intro h; injection h with h; injection h with h; omega
            · have := inn 40 _ s2 (by omega) e
              refine spBind_nf (ih _ _ _ this (by omega)) (fun c2 q2 e2 => ?_)
              refine spBind_nf spSign_nf (fun u5 q5 e5 => ?_)
              intro h; cases h
          · split
            · intro h; cases h
            · refine spBind_nf spNum_nf (fun u5 q5 e5 => ?_)
              intro h; cases h
    intro md o p hp h
    match md with
    | 0 => exact app 1 3 o p (by omega) hp (by decide) rfl (by have : spFu 0 = 3 := rfl; have : spFu 1 = 2 := rfl; omega)
    | 1 => exact app 2 4 o p (by omega) hp (by decide) rfl (by have : spFu 1 = 2 := rfl; have : spFu 2 = 1 := rfl; omega)
    | 2 => exact one o p hp h
    | 3 => exact lp 43 45 2 3 1 3 o p (by omega) (by omega) (by omega) (by decide) rfl hp h
    | md + 4 => exact lp 42 47 4 5 2 4 o p (by omega) (by omega) (by omega) (by decide) rfl hp (by have h9 : spFu (md + 4) = 1 := (by simp [spFu]); omega)
