-- TEXTS: what they say, apart from any machine
/-- of a text: the byte at a place; -1 behind the end -/
abbrev tX : Type := Nat → Int
def tB (c : Int) : Bool := decide (c = 32)
def tD (c : Int) : Bool := decide (48 ≤ c) && decide (c ≤ 57)
def tW (c : Int) : Bool := decide (97 ≤ c) && decide (c ≤ 122)
def spF (P : Int → Bool) (tx : tX) : Nat → Nat → Nat
  | 0, p => p
  | f + 1, p => if P (tx p) then spF P tx f (p + 1) else p
/-- the first place from p on that isn't such a byte -/
def sp (P : Int → Bool) (tx : tX) (p : Nat) : Nat := spF P tx (700 - p) p
/-- a text of n bytes -/
def tOk (tx : tX) (n : Nat) : Prop := n ≤ 600 ∧ (∀ i, n ≤ i → tx i = -1) ∧ ∀ i, i < n → 0 ≤ tx i ∧ tx i ≤ 255
theorem sp_t {P : Int → Bool} {tx : tX} {p : Nat} (hp : p < 700) (h : P (tx p) = true) : sp P tx p = sp P tx (p + 1) := by
  unfold sp
  have e : 700 - p = (700 - (p + 1)) + 1 := by omega
  rw [e]
  simp only [spF, h, if_true]
theorem sp_f {P : Int → Bool} {tx : tX} {p : Nat} (h : P (tx p) = false) : sp P tx p = p := by
  unfold sp
  cases e : 700 - p with
  | zero => rfl
  | succ f => simp only [spF, h, Bool.false_eq_true, if_false]
theorem spF_ge {P : Int → Bool} {tx : tX} : ∀ (f p : Nat), p ≤ spF P tx f p
  | 0, p => Nat.le_refl _
  | f + 1, p => by
    simp only [spF]
    split
    · have := spF_ge (P := P) (tx := tx) f (p + 1)
      omega
    · exact Nat.le_refl _
theorem sp_ge {P : Int → Bool} {tx : tX} (p : Nat) : p ≤ sp P tx p := spF_ge _ _
theorem spF_le {P : Int → Bool} {tx : tX} {n : Nat} (hP : P (-1) = false) (ht : ∀ i, n ≤ i → tx i = -1) : ∀ (f p : Nat), p ≤ n → spF P tx f p ≤ n
  | 0, p, h => h
  | f + 1, p, h => by
    simp only [spF]
    split
    · rename_i h1
      by_cases e : p = n
      · subst e
        rw [ht p (Nat.le_refl _), hP] at h1
        cases h1
      · exact spF_le hP ht f (p + 1) (by omega)
    · exact h
theorem sp_le {P : Int → Bool} {tx : tX} {n p : Nat} (hP : P (-1) = false) (ht : tOk tx n) (h : p ≤ n) : sp P tx p ≤ n := spF_le hP ht.2.1 _ _ h
theorem spF_stop {P : Int → Bool} {tx : tX} {n : Nat} (hP : P (-1) = false) (ht : ∀ i, n ≤ i → tx i = -1) : ∀ (f p : Nat), n < f + p → P (tx (spF P tx f p)) = false
  | 0, p, h => by
    simp only [spF]
    rw [ht p (by omega)]
    exact hP
  | f + 1, p, h => by
    simp only [spF]
    split
    · exact spF_stop hP ht f (p + 1) (by omega)
    · rename_i h1
      simpa using h1
theorem sp_stop {P : Int → Bool} {tx : tX} {n p : Nat} (hP : P (-1) = false) (ht : tOk tx n) (h : p ≤ n) : P (tx (sp P tx p)) = false := spF_stop hP ht.2.1 _ _ (by have := ht.1; omega)
theorem sp_gt {P : Int → Bool} {tx : tX} {p : Nat} (hp : p < 700) (h : P (tx p) = true) : p < sp P tx p := by
  rw [sp_t hp h]
  exact sp_ge (p + 1)
theorem tB_1 : tB (-1) = false := by decide
theorem tD_1 : tD (-1) = false := by decide
theorem tW_1 : tW (-1) = false := by decide
def sk (tx : tX) (p : Nat) : Nat := sp tB tx p
/-- digits: their number -/
def nuF (tx : tX) : Nat → Nat → Nat → Nat
  | 0, _, v => v
  | f + 1, p, v => if tD (tx p) then nuF tx f (p + 1) (10 * v + (tx p - 48).toNat) else v
def nu (tx : tX) (p v : Nat) : Nat := nuF tx (700 - p) p v
theorem nu_t {tx : tX} {p v : Nat} (hp : p < 700) (h : tD (tx p) = true) : nu tx p v = nu tx (p + 1) (10 * v + (tx p - 48).toNat) := by
  unfold nu
  have e : 700 - p = (700 - (p + 1)) + 1 := by omega
  rw [e]
  simp only [nuF, h, if_true]
theorem nu_f {tx : tX} {p v : Nat} (h : tD (tx p) = false) : nu tx p v = v := by
  unfold nu
  cases e : 700 - p with
  | zero => rfl
  | succ f => simp only [nuF, h, Bool.false_eq_true, if_false]
/-- a fault (kind, place), or a value and the place behind it -/
abbrev tR (α : Type) : Type := (Nat × Nat) ⊕ (α × Nat)
def spNum (tx : tX) (lo hi : Int) (p : Nat) : tR Nat := if tD (tx (sk tx p)) then (if decide (lo ≤ (nu tx (sk tx p) 0 : Int)) && decide ((nu tx (sk tx p) 0 : Int) ≤ hi) then .inr (nu tx (sk tx p) 0, sp tD tx (sk tx p)) else .inl (2, sk tx p)) else .inl (1, sk tx p)
def spSign (tx : tX) (c : Int) (p : Nat) : tR Unit := if tx (sk tx p) = c then .inr ((), sk tx p + 1) else .inl (1, sk tx p)
/-- the word from p on -/
def wdF (tx : tX) : Nat → Nat → List Int
  | 0, _ => []
  | f + 1, p => if tW (tx p) then tx p :: wdF tx f (p + 1) else []
def wd (tx : tX) (p : Nat) : List Int := wdF tx (700 - p) p
theorem wd_t {tx : tX} {p : Nat} (hp : p < 700) (h : tW (tx p) = true) : wd tx p = tx p :: wd tx (p + 1) := by
  unfold wd
  have e : 700 - p = (700 - (p + 1)) + 1 := by omega
  rw [e]
  simp only [wdF, h, if_true]
theorem wd_f {tx : tX} {p : Nat} (h : tW (tx p) = false) : wd tx p = [] := by
  unfold wd
  cases e : 700 - p with
  | zero => rfl
  | succ f => simp only [wdF, h, Bool.false_eq_true, if_false]
theorem spNum_ok {tx : tX} {n p v q : Nat} {lo hi : Int} (ht : tOk tx n) (hp : p ≤ n) (h : spNum tx lo hi p = .inr (v, q)) : p < q ∧ q ≤ n ∧ lo ≤ v ∧ (v : Int) ≤ hi := by
  unfold spNum at h
  split at h
  · rename_i hd
    split at h
    · rename_i hr
      simp only [Bool.and_eq_true, decide_eq_true_eq] at hr
      cases h
      have h1 := sp_ge (P := tB) (tx := tx) p
      have h2 := sp_le tB_1 ht hp
      have h3 := sp_gt (P := tD) (tx := tx) (p := sk tx p) (by have := ht.1; unfold sk; omega) hd
      have h4 := sp_le (p := sk tx p) tD_1 ht h2
      unfold sk at h3 h4 ⊢
      exact ⟨by omega, h4, hr.1, hr.2⟩
    · cases h
  · cases h
theorem spNum_bad {tx : tX} {n p k a : Nat} {lo hi : Int} (ht : tOk tx n) (hp : p ≤ n) (h : spNum tx lo hi p = .inl (k, a)) : p ≤ a ∧ a ≤ n ∧ 1 ≤ k ∧ k ≤ 2 := by
  have h1 := sp_ge (P := tB) (tx := tx) p
  have h2 := sp_le tB_1 ht hp
  unfold spNum at h
  split at h
  · split at h
    · cases h
    · cases h
      unfold sk
      omega
  · cases h
    unfold sk
    omega
theorem spSign_ok {tx : tX} {n p q : Nat} {c : Int} {u : Unit} (ht : tOk tx n) (hp : p ≤ n) (hc : 0 ≤ c) (h : spSign tx c p = .inr (u, q)) : p < q ∧ q ≤ n := by
  have h1 := sp_ge (P := tB) (tx := tx) p
  have h2 := sp_le tB_1 ht hp
  unfold spSign at h
  split at h
  · rename_i hs
    cases h
    unfold sk at hs ⊢
    by_cases e : sp tB tx p = n
    · rw [ht.2.1 _ (by omega)] at hs
      omega
    · omega
  · cases h
theorem spSign_bad {tx : tX} {n p k a : Nat} {c : Int} (ht : tOk tx n) (hp : p ≤ n) (h : spSign tx c p = .inl (k, a)) : p ≤ a ∧ a ≤ n ∧ k = 1 := by
  have h1 := sp_ge (P := tB) (tx := tx) p
  have h2 := sp_le tB_1 ht hp
  unfold spSign at h
  split at h
  · cases h
  · cases h
    unfold sk
    omega
theorem wdF_len {tx : tX} : ∀ (f p : Nat), (wdF tx f p).length = spF tW tx f p - p
  | 0, p => by simp [wdF, spF]
  | f + 1, p => by
    simp only [wdF, spF]
    split
    · have := spF_ge (P := tW) (tx := tx) f (p + 1)
      have ih := wdF_len (tx := tx) f (p + 1)
      simp only [List.length_cons, ih]
      omega
    · simp
theorem wd_len {tx : tX} {p : Nat} : (wd tx p).length = sp tW tx p - p := wdF_len _ _
theorem wdF_let {tx : tX} : ∀ (f p : Nat), ∀ c ∈ wdF tx f p, tW c = true
  | 0, p, c, h => by cases h
  | f + 1, p, c, h => by
    simp only [wdF] at h
    split at h
    · rename_i hw
      rcases List.mem_cons.mp h with e | h
      · rw [e]; exact hw
      · exact wdF_let f (p + 1) c h
    · cases h
theorem wd_let {tx : tX} {p : Nat} : ∀ c ∈ wd tx p, tW c = true := wdF_let _ _
/-- letters as a number by 27, of five at most -/
def w27 : Int → List Int → Int
  | v, [] => v
  | v, c :: cs => w27 (27 * v + (c - 96)) cs
theorem w27_app (cs : List Int) (c : Int) : ∀ v, w27 v (cs ++ [c]) = 27 * w27 v cs + (c - 96) := by
  induction cs with
  | nil => intro v; rfl
  | cons x xs ih => intro v; exact ih _
theorem w27_nn : ∀ (cs : List Int) (v : Int), 0 ≤ v → (∀ c ∈ cs, tW c = true) → 0 ≤ w27 v cs
  | [], v, h, _ => h
  | c :: cs, v, h, hc => by
    have h1 := hc c List.mem_cons_self
    simp only [tW, Bool.and_eq_true, decide_eq_true_eq] at h1
    exact w27_nn cs _ (by omega) (fun x hx => hc x (List.mem_cons_of_mem _ hx))
theorem w27_inj : ∀ (n : Nat) (as bs : List Int), as.length + bs.length ≤ n → (∀ c ∈ as, tW c = true) → (∀ c ∈ bs, tW c = true) → w27 0 as = w27 0 bs → as = bs := by
  intro n
  induction n with
  | zero =>
    intro as bs h _ _ _
    have h1 : as.length = 0 := by omega
    have h2 : bs.length = 0 := by omega
    rw [List.length_eq_zero_iff.mp h1, List.length_eq_zero_iff.mp h2]
  | succ n ih =>
    intro as bs h ha hb e
    rcases List.eq_nil_or_concat as with h1 | ⟨xs, x, h1⟩
    · subst h1
      rcases List.eq_nil_or_concat bs with h2 | ⟨ys, y, h2⟩
      · exact h2.symm
      · subst h2
        rw [List.concat_eq_append, w27_app] at e
        have hy := hb y (by simp)
        simp only [tW, Bool.and_eq_true, decide_eq_true_eq] at hy
        have := w27_nn ys 0 (by omega) (fun c hc => hb c (by simp [hc]))
        have e0 : w27 0 [] = 0 := rfl
        omega
    · subst h1
      rcases List.eq_nil_or_concat bs with h2 | ⟨ys, y, h2⟩
      · subst h2
        rw [List.concat_eq_append, w27_app] at e
        have hx := ha x (by simp)
        simp only [tW, Bool.and_eq_true, decide_eq_true_eq] at hx
        have := w27_nn xs 0 (by omega) (fun c hc => ha c (by simp [hc]))
        have e0 : w27 0 [] = 0 := rfl
        omega
      · subst h2
        rw [List.concat_eq_append, w27_app, List.concat_eq_append, w27_app] at e
        have hx := ha x (by simp)
        have hy := hb y (by simp)
        simp only [tW, Bool.and_eq_true, decide_eq_true_eq] at hx hy
        have e1 : x = y := by omega
        have e2 : w27 0 xs = w27 0 ys := by omega
        have := ih xs ys (by simp at h; omega) (fun c hc => ha c (by simp [hc])) (fun c hc => hb c (by simp [hc])) e2
        rw [this, e1]
