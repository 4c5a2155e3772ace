-- WORKS AS TEXTS
/-- steps, one behind the other: kind (0 write, 1 renew, 2 die, 3 week, 4 again), number, where the next one stands -/
abbrev tS : Type := List (Nat × Nat × Nat)
def stK (w : List Int) : Option Nat := if w = [119, 114, 105, 116, 101] then some 0 else if w = [114, 101, 110, 101, 119] then some 1 else if w = [100, 105, 101] then some 2 else if w = [119, 101, 101, 107] then some 3 else if w = [97, 103, 97, 105, 110] then some 4 else none
def spSi (tx : tX) (l k b q : Nat) : tR tS := spBind (spNum tx 0 ((l : Int) - 1) q) fun v q => spBind (spSign tx 59 q) fun _ q => .inr ([(k, v, b + 1)], q)
def spWk (tx : tX) (b q : Nat) : tR tS := spBind (spSign tx 59 q) fun _ q => .inr ([(3, 0, b + 1)], q)
def spAg (tx : tX) (rc : Nat → tR tS) (b q : Nat) : tR tS := spBind (spNum tx 0 20 q) fun v q => spBind (spSign tx 91 q) fun _ q => spBind (rc (sk tx q)) fun ss q => spBind (spSign tx 93 q) fun _ q => spBind (spSign tx 59 q) fun _ q => .inr ((4, v, b + 1 + ss.length) :: ss, q)
def spOneS (tx : tX) (l : Nat) (rc : Nat → tR tS) (o b p : Nat) : tR tS := match stK (wd tx (sk tx p)) with
  | none => .inl (1, sk tx p)
  | some k => if k = 4 then (if o = 6 then .inl (3, sk tx p) else spAg tx rc b (sp tW tx (sk tx p))) else if k = 3 then spWk tx b (sp tW tx (sk tx p)) else spSi tx l k b (sp tW tx (sk tx p))
/-- mode 0: one step; mode 1: steps up to a closing bracket -/
def spSt (tx : tX) (l : Nat) : Nat → Nat → Nat → Nat → Nat → tR tS
  | 0, _, _, _, _ => .inl (9, 0)
  | f + 1, 0, o, b, p => spOneS tx l (fun q => spSt tx l f 1 (o + 1) (b + 1) q) o b p
  | f + 1, _ + 1, o, b, p => if tx p = 93 then .inr ([], p) else spBind (spSt tx l f 0 o b p) fun ss q => spBind (spSt tx l f 1 o (b + ss.length) (sk tx q)) fun ts q => .inr (ss ++ ts, q)
def wkL (tx : tX) (n l : Nat) : Nat → Nat → Nat → (Nat × Nat) ⊕ tS
  | 0, _, _ => .inl (9, 0)
  | f + 1, b, p => if n ≤ p then .inr [] else match spSt tx l 400 0 0 b p with
    | .inl e => .inl e
    | .inr (ss, q) => match wkL tx n l f (b + ss.length) (sk tx q) with
      | .inl e => .inl e
      | .inr ts => .inr (ss ++ ts)
def spWork (tx : tX) (n l : Nat) : (Nat × Nat) ⊕ tS := wkL tx n l 700 0 (sk tx 0)
theorem stK_ne {w : List Int} {k : Nat} (h : stK w = some k) : 0 < w.length ∧ k ≤ 4 := by
  unfold stK at h
  repeat' split at h
  all_goals first | (rename_i e; subst e; injection h with h; subst h; exact ⟨by decide, by decide⟩) | (rename_i e _; cases h) | cases h
/-- what is read is more than twice as long as what it says -/
theorem spSt_len {tx : tX} {n l : Nat} (ht : tOk tx n) : ∀ (f md o b p : Nat) (ss : tS) (q : Nat), p ≤ n → spSt tx l f md o b p = .inr (ss, q) → p + 2 * ss.length ≤ q ∧ q ≤ n ∧ (md = 0 → 1 ≤ ss.length) := by
  intro f
  induction f with
  | zero => intro md o b p ss q _ h; cases md <;> cases h
  | succ f ih =>
    intro md o b p ss q hp h
    cases md with
    | zero =>
      have s1 : p ≤ sk tx p := sp_ge p
      have s2 : sk tx p ≤ n := sp_le tB_1 ht hp
      have w2 := sp_le (p := sk tx p) tW_1 ht s2
      have h : spOneS tx l (fun q => spSt tx l f 1 (o + 1) (b + 1) q) o b p = .inr (ss, q) := h
      unfold spOneS at h
      split at h
      · cases h
      · rename_i k hk
        have hw := (stK_ne hk).1
        rw [wd_len] at hw
        split at h
        · split at h
          · cases h
          · obtain ⟨v, q1, e1, h⟩ := spBind_ok h
            obtain ⟨u2, q2, e2, h⟩ := spBind_ok h
            obtain ⟨s3, q3, e3, h⟩ := spBind_ok h
            obtain ⟨u4, q4, e4, h⟩ := spBind_ok h
            obtain ⟨u5, q5, e5, h⟩ := spBind_ok h
            cases h
            have a1 := spNum_ok ht w2 e1
            have a2 := spSign_ok ht a1.2.1 (by omega) e2
            have g1 : q2 ≤ sk tx q2 := sp_ge q2
            have g2 : sk tx q2 ≤ n := sp_le tB_1 ht a2.2
            have a3 := ih _ _ _ _ _ _ g2 e3
            have a4 := spSign_ok ht a3.2.1 (by omega) e4
            have a5 := spSign_ok ht a4.2 (by omega) e5
            refine ⟨?_, a5.2, fun _ => ?_⟩
            · rw [List.length_cons]; omega
            · rw [List.length_cons]; omega
        · split at h
          · obtain ⟨u5, q5, e5, h⟩ := spBind_ok h
            cases h
            have a5 := spSign_ok ht w2 (by omega) e5
            exact ⟨by show p + 2 * 1 ≤ q; omega, a5.2, fun _ => Nat.le_refl 1⟩
          · obtain ⟨v, q1, e1, h⟩ := spBind_ok h
            obtain ⟨u5, q5, e5, h⟩ := spBind_ok h
            cases h
            have a1 := spNum_ok ht w2 e1
            have a5 := spSign_ok ht a1.2.1 (by omega) e5
            exact ⟨by show p + 2 * 1 ≤ q; omega, a5.2, fun _ => Nat.le_refl 1⟩
    | succ md =>
      have h : (if tx p = 93 then .inr ([], p) else spBind (spSt tx l f 0 o b p) fun ss q => spBind (spSt tx l f 1 o (b + ss.length) (sk tx q)) fun ts q => .inr (ss ++ ts, q)) = (.inr (ss, q) : tR tS) := h
      split at h
      · cases h
        exact ⟨Nat.le_refl _, hp, fun h => absurd h (by omega)⟩
      · obtain ⟨s1, q1, e1, h⟩ := spBind_ok h
        obtain ⟨s2, q2, e2, h⟩ := spBind_ok h
        cases h
        have a1 := ih _ _ _ _ _ _ hp e1
        have g1 : q1 ≤ sk tx q1 := sp_ge q1
        have g2 : sk tx q1 ≤ n := sp_le tB_1 ht a1.2.1
        have a2 := ih _ _ _ _ _ _ g2 e2
        refine ⟨?_, a2.2.1, fun h => absurd h (by omega)⟩
        rw [List.length_append]
        omega
theorem spNum_9 {tx : tX} {n p : Nat} {lo hi : Int} (ht : tOk tx n) (hp : p ≤ n) : ∀ a, ¬ spNum tx lo hi p = .inl (9, a) := fun a h => by
  have := spNum_bad ht hp h
  omega
theorem spSign_9 {tx : tX} {n p : Nat} {c : Int} (ht : tOk tx n) (hp : p ≤ n) : ∀ a, ¬ spSign tx c p = .inl (9, a) := fun a h => by
  have := spSign_bad ht hp h
  omega
theorem spSt_bad {tx : tX} {n l : Nat} (ht : tOk tx n) : ∀ (f md o b p : Nat) (e : Nat × Nat), p ≤ n → 2 * (n - p) + 1 + min md 1 ≤ f → spSt tx l f md o b p = .inl e → (1 ≤ e.1 ∧ e.1 ≤ 3) ∧ e.2 ≤ n := by
  intro f
  induction f with
  | zero => intro md o b p e _ h; omega
  | succ f ih =>
    intro md o b p e hp hf h
    cases md with
    | zero =>
      have s1 : p ≤ sk tx p := sp_ge p
      have s2 : sk tx p ≤ n := sp_le tB_1 ht hp
      have w2 := sp_le (p := sk tx p) tW_1 ht s2
      have h : spOneS tx l (fun q => spSt tx l f 1 (o + 1) (b + 1) q) o b p = .inl e := h
      unfold spOneS at h
      split at h
      · cases h
        exact ⟨⟨Nat.le_refl 1, (show 1 ≤ 3 by decide)⟩, s2⟩
      · rename_i k hk
        have hw := (stK_ne hk).1
        rw [wd_len] at hw
        split at h
        · split at h
          · cases h
            exact ⟨⟨(show 1 ≤ 3 by decide), Nat.le_refl 3⟩, s2⟩
          · refine spBind_b h (fun e h => spNum_b ht w2 h) (fun v q1 e1 h => ?_)
            have a1 := spNum_ok ht w2 e1
            refine spBind_b h (fun e h => spSign_b ht a1.2.1 h) (fun v q2 e2 h => ?_)
            have a2 := spSign_ok ht a1.2.1 (by omega) e2
            have g1 : q2 ≤ sk tx q2 := sp_ge q2
            have g2 : sk tx q2 ≤ n := sp_le tB_1 ht a2.2
            refine spBind_b h (fun e h => ih _ _ _ _ e g2 (by omega) h) (fun v q3 e3 h => ?_)
            have a3 := spSt_len ht _ _ _ _ _ _ _ g2 e3
            refine spBind_b h (fun e h => spSign_b ht a3.2.1 h) (fun v q4 e4 h => ?_)
            have a4 := spSign_ok ht a3.2.1 (by omega) e4
            exact spBind_b h (fun e h => spSign_b ht a4.2 h) (fun v q5 e5 h => (by cases h))
        · split at h
          · exact spBind_b h (fun e h => spSign_b ht w2 h) (fun v q5 e5 h => (by cases h))
          · refine spBind_b h (fun e h => spNum_b ht w2 h) (fun v q1 e1 h => ?_)
            have a1 := spNum_ok ht w2 e1
            exact spBind_b h (fun e h => spSign_b ht a1.2.1 h) (fun v q5 e5 h => (by cases h))
    | succ md =>
      have h : (if tx p = 93 then .inr ([], p) else spBind (spSt tx l f 0 o b p) fun ss q => spBind (spSt tx l f 1 o (b + ss.length) (sk tx q)) fun ts q => .inr (ss ++ ts, q)) = (.inl e : tR tS) := h
      split at h
      · cases h
      · refine spBind_b h (fun e h => ih _ _ _ _ e hp (by omega) h) (fun s1 q1 e1 h => ?_)
        have a1 := spSt_len ht _ _ _ _ _ _ _ hp e1
        have a0 := a1.2.2 rfl
        have g1 : q1 ≤ sk tx q1 := sp_ge q1
        have g2 : sk tx q1 ≤ n := sp_le tB_1 ht a1.2.1
        exact spBind_b h (fun e h => ih _ _ _ _ e g2 (by omega) h) (fun s2 q2 e2 h => (by cases h))
theorem wkL_0 {tx : tX} {n l f b p : Nat} (h : n ≤ p) : wkL tx n l (f + 1) b p = .inr [] := by simp only [wkL]; rw [if_pos h]
theorem wkL_1 {tx : tX} {n l f b p : Nat} {e : Nat × Nat} (h : ¬ n ≤ p) (h1 : spSt tx l 400 0 0 b p = .inl e) : wkL tx n l (f + 1) b p = .inl e := by simp only [wkL]; rw [if_neg h, h1]
theorem wkL_2 {tx : tX} {n l f b p q : Nat} {ss : tS} {e : Nat × Nat} (h : ¬ n ≤ p) (h1 : spSt tx l 400 0 0 b p = .inr (ss, q)) (h2 : wkL tx n l f (b + ss.length) (sk tx q) = .inl e) : wkL tx n l (f + 1) b p = .inl e := by simp only [wkL]; rw [if_neg h, h1]; simp only; rw [h2]
theorem wkL_3 {tx : tX} {n l f b p q : Nat} {ss ts : tS} (h : ¬ n ≤ p) (h1 : spSt tx l 400 0 0 b p = .inr (ss, q)) (h2 : wkL tx n l f (b + ss.length) (sk tx q) = .inr ts) : wkL tx n l (f + 1) b p = .inr (ss ++ ts) := by simp only [wkL]; rw [if_neg h, h1]; simp only; rw [h2]
theorem wkL_bad {tx : tX} {n l : Nat} (ht : tOk tx n) (hn : n ≤ 150) : ∀ (f b p : Nat) (e : Nat × Nat), p ≤ n → n - p < f → wkL tx n l f b p = .inl e → (1 ≤ e.1 ∧ e.1 ≤ 3) ∧ e.2 ≤ n
  | 0, _, _, _, _, h, _ => by omega
  | f + 1, b, p, e, hp, hf, h => by
    by_cases hn2 : n ≤ p
    · rw [wkL_0 hn2] at h; cases h
    · cases hc : spSt tx l 400 0 0 b p with
      | inl e' =>
        rw [wkL_1 hn2 hc] at h
        cases h
        exact spSt_bad ht _ _ _ _ _ _ hp (by omega) hc
      | inr r =>
        obtain ⟨ss, q⟩ := r
        have a1 := spSt_len ht _ _ _ _ _ _ _ hp hc
        have a0 := a1.2.2 rfl
        have s1 := sp_ge (P := tB) (tx := tx) q
        have s2 := sp_le tB_1 ht a1.2.1
        cases h2 : wkL tx n l f (b + ss.length) (sk tx q) with
        | inl e' =>
          rw [wkL_2 hn2 hc h2] at h
          cases h
          exact wkL_bad ht hn f _ _ _ s2 (by omega) h2
        | inr ts =>
          rw [wkL_3 hn2 hc h2] at h
          cases h
/-- a step that can be, of l lives, at its place, of all n -/
def sOk (l b n : Nat) (s : Nat × Nat × Nat) : Prop := s.1 ≤ 4 ∧ (s.1 < 3 → s.2.1 < l) ∧ (s.1 = 4 → s.2.1 ≤ 20) ∧ b < s.2.2 ∧ s.2.2 ≤ n
def ssOk (l b : Nat) (ss : tS) : Prop := ∀ i s, ss[i]? = some s → sOk l (b + i) (b + ss.length) s
theorem sOk.up {l b n n' : Nat} {s : Nat × Nat × Nat} (h : sOk l b n s) (hn : n ≤ n') : sOk l b n' s := ⟨h.1, h.2.1, h.2.2.1, h.2.2.2.1, by have := h.2.2.2.2; omega⟩
theorem ssOk.nil {l b : Nat} : ssOk l b [] := fun i s h => by cases h
theorem ssOk.one {l b k v : Nat} (hk : k ≤ 4) (h1 : k < 3 → v < l) (h2 : k = 4 → v ≤ 20) : ssOk l b [(k, v, b + 1)] := fun i s h => by
  cases i with
  | zero =>
    cases h
    exact ⟨hk, h1, h2, Nat.lt_succ_self _, Nat.le_refl _⟩
  | succ i => cases h
theorem ssOk.cons {l b v : Nat} {ss : tS} (h : ssOk l (b + 1) ss) (hv : v ≤ 20) : ssOk l b ((4, v, b + 1 + ss.length) :: ss) := fun i s hi => by
  rw [List.length_cons]
  cases i with
  | zero =>
    cases hi
    exact ⟨Nat.le_refl 4, fun h => absurd h (by omega), fun _ => hv, by show b + 0 < b + 1 + ss.length; omega, by show b + 1 + ss.length ≤ b + (ss.length + 1); omega⟩
  | succ i =>
    have h9 := h i s hi
    rw [show b + (i + 1) = b + 1 + i by omega]
    exact h9.up (by omega)
theorem ssOk.app {l b : Nat} {ss ts : tS} (h1 : ssOk l b ss) (h2 : ssOk l (b + ss.length) ts) : ssOk l b (ss ++ ts) := fun i s hi => by
  rw [List.length_append]
  by_cases e : i < ss.length
  · rw [List.getElem?_append_left e] at hi
    exact (h1 i s hi).up (by omega)
  · rw [List.getElem?_append_right (by omega)] at hi
    have h9 := h2 (i - ss.length) s hi
    rw [show b + ss.length + (i - ss.length) = b + i by omega] at h9
    exact h9.up (by omega)
theorem spSt_ok {tx : tX} {n l : Nat} (ht : tOk tx n) : ∀ (f md o b p : Nat) (ss : tS) (q : Nat), p ≤ n → spSt tx l f md o b p = .inr (ss, q) → ssOk l b ss := by
  intro f
  induction f with
  | zero => intro md o b p ss q _ h; cases md <;> cases h
  | succ f ih =>
    intro md o b p ss q hp h
    cases md with
    | zero =>
      have s2 : sk tx p ≤ n := sp_le tB_1 ht hp
      have w2 := sp_le (p := sk tx p) tW_1 ht s2
      have h : spOneS tx l (fun q => spSt tx l f 1 (o + 1) (b + 1) q) o b p = .inr (ss, q) := h
      unfold spOneS at h
      split at h
      · cases h
      · rename_i k hk
        have hk4 := (stK_ne hk).2
        split at h
        · split at h
          · cases h
          · obtain ⟨v, q1, e1, h⟩ := spBind_ok h
            obtain ⟨u2, q2, e2, h⟩ := spBind_ok h
            obtain ⟨s3, q3, e3, h⟩ := spBind_ok h
            obtain ⟨u4, q4, e4, h⟩ := spBind_ok h
            obtain ⟨u5, q5, e5, h⟩ := spBind_ok h
            cases h
            have a1 := spNum_ok ht w2 e1
            have a2 := spSign_ok ht a1.2.1 (by omega) e2
            have g2 : sk tx q2 ≤ n := sp_le tB_1 ht a2.2
            exact (ih _ _ _ _ _ _ g2 e3).cons (by omega)
        · split at h
          · obtain ⟨u5, q5, e5, h⟩ := spBind_ok h
            cases h
            exact ssOk.one (by decide) (fun h => absurd h (by decide)) (fun h => absurd h (by decide))
          · obtain ⟨v, q1, e1, h⟩ := spBind_ok h
            obtain ⟨u5, q5, e5, h⟩ := spBind_ok h
            cases h
            have a1 := spNum_ok ht w2 e1
            exact ssOk.one hk4 (fun _ => by omega) (fun h => absurd h (by assumption))
    | succ md =>
      have h : (if tx p = 93 then .inr ([], p) else spBind (spSt tx l f 0 o b p) fun ss q => spBind (spSt tx l f 1 o (b + ss.length) (sk tx q)) fun ts q => .inr (ss ++ ts, q)) = (.inr (ss, q) : tR tS) := h
      split at h
      · cases h
        exact ssOk.nil
      · obtain ⟨s1, q1, e1, h⟩ := spBind_ok h
        obtain ⟨s2, q2, e2, h⟩ := spBind_ok h
        cases h
        have a1 := spSt_len ht _ _ _ _ _ _ _ hp e1
        have g2 : sk tx q1 ≤ n := sp_le tB_1 ht a1.2.1
        exact (ih _ _ _ _ _ _ hp e1).app (ih _ _ _ _ _ _ g2 e2)
theorem wkL_ok {tx : tX} {n l : Nat} (ht : tOk tx n) : ∀ (f b p : Nat) (ss : tS), p ≤ n → wkL tx n l f b p = .inr ss → ssOk l b ss ∧ p + 2 * ss.length ≤ n
  | 0, _, _, _, _, h => by cases h
  | f + 1, b, p, ss, hp, h => by
    by_cases hn2 : n ≤ p
    · rw [wkL_0 hn2] at h
      cases h
      exact ⟨ssOk.nil, hp⟩
    · cases hc : spSt tx l 400 0 0 b p with
      | inl e' => rw [wkL_1 hn2 hc] at h; cases h
      | inr r =>
        obtain ⟨s1, q⟩ := r
        have a1 := spSt_len ht _ _ _ _ _ _ _ hp hc
        have g1 := sp_ge (P := tB) (tx := tx) q
        have g2 := sp_le tB_1 ht a1.2.1
        cases h2 : wkL tx n l f (b + s1.length) (sk tx q) with
        | inl e' => rw [wkL_2 hn2 hc h2] at h; cases h
        | inr ts =>
          rw [wkL_3 hn2 hc h2] at h
          cases h
          have a2 := wkL_ok ht f _ _ _ g2 h2
          refine ⟨(spSt_ok ht _ _ _ _ _ _ _ hp hc).app a2.1, ?_⟩
          rw [List.length_append]
          have a3 := a2.2
          have a4 : q ≤ sk tx q := g1
          omega
