-- THE CLASS READS WORKS
def wFr (b : Nat) (M M' : fmM) : Prop := (∀ k j, k ≠ 1 → ¬ (k = 28 ∧ j = 3) → ¬ (29 ≤ k ∧ k ≤ 31 ∧ b ≤ j) → M'.1 k j = M.1 k j) ∧ (∀ k j, k ≠ 1 → ¬ (28 ≤ k ∧ k ≤ 31) → M'.2 k j = M.2 k j) ∧ (∀ j, j ≠ 3 → j ≠ 4 → j ≠ 5 → M'.1 1 j = M.1 1 j)
def wRep (M : fmM) (b : Nat) (ss : tS) : Prop := ∀ i s, ss[i]? = some s → (M.1 29 (b + i)).toInt = (s.1 : Int) ∧ (M.1 30 (b + i)).toInt = (s.2.1 : Int) ∧ (s.1 = 4 → (M.1 31 (b + i)).toInt = (s.2.2 : Int))
def wPre (M : fmM) (tx : tX) (n p b : Nat) : Prop := xS2 M tx n p ∧ M.1 1 4 = 0 ∧ scInv Tx invX M ∧ (M.1 28 3).toInt = (b : Int) ∧ 2 * b ≤ p ∧ n ≤ 150
def wOk (M M' : fmM) (tx : tX) (n q b : Nat) (ss : tS) : Prop := xS2 M' tx n q ∧ M'.1 1 4 = 0 ∧ scInv Tx invX M' ∧ (M'.1 28 3).toInt = ((b + ss.length : Nat) : Int) ∧ wRep M' b ss ∧ wFr b M M'
def wBad (M M' : fmM) (k a : Nat) : Prop := (M'.1 1 4).toInt = (k : Int) ∧ (M'.1 1 5).toInt = (a : Int) ∧ k ≠ 0 ∧ scInv Tx invX M' ∧ wFr 0 M M'
theorem wFr.refl (b : Nat) (M : fmM) : wFr b M M := ⟨fun _ _ _ _ _ => rfl, fun _ _ _ _ => rfl, fun _ _ _ _ => rfl⟩
theorem wFr.trans {b b' : Nat} {M M1 M2 : fmM} (h : wFr b M M1) (h' : wFr b' M1 M2) (hm : b ≤ b') : wFr b M M2 := ⟨fun k j a b c => (h'.1 k j a b (by omega)).trans (h.1 k j a b c), fun k j a b => (h'.2.1 k j a b).trans (h.2.1 k j a b), fun j a b c => (h'.2.2 j a b c).trans (h.2.2 j a b c)⟩
theorem wFr.zero {b : Nat} {M M1 : fmM} (h : wFr b M M1) : wFr 0 M M1 := ⟨fun k j a b c => h.1 k j a b (by omega), h.2.1, h.2.2⟩
theorem wFr.tr0 {b b' : Nat} {M M1 M2 : fmM} (h : wFr b M M1) (h' : wFr b' M1 M2) : wFr 0 M M2 := wFr.trans h.zero h'.zero (Nat.le_refl _)
theorem xdFr.w {M M1 : fmM} (h : xdFr M M1) (b : Nat) : wFr b M M1 := ⟨fun k j a _ _ => (h.1 k j a).1, fun k j a _ => (h.1 k j a).2, h.2⟩
theorem wFr.put {b k j : Nat} {M M1 : fmM} {x : Int32} (h : wFr b M M1) (hk : (k = 28 ∧ j = 3) ∨ (29 ≤ k ∧ k ≤ 31 ∧ b ≤ j)) : wFr b M (fmI M1 k j x) := by
  refine ⟨fun k' j' a b' c => ?_, fun k' j' a b' => h.2.1 k' j' a b', fun j' a b' c => ?_⟩
  · rw [fmI_at, if_neg (by omega)]
    exact h.1 k' j' a b' c
  · rw [fmI_k _ _ (by omega)]
    exact h.2.2 j' a b' c
theorem wRep.fr {M M' : fmM} {b b' : Nat} {ss : tS} (h : wRep M b ss) (hf : wFr b' M M') (hm : b + ss.length ≤ b') : wRep M' b ss := fun i c hi => by
  have hl : i < ss.length := (List.getElem?_eq_some_iff.mp hi).1
  rw [hf.1 29 (b + i) (by decide) (by omega) (by omega), hf.1 30 (b + i) (by decide) (by omega) (by omega), hf.1 31 (b + i) (by decide) (by omega) (by omega)]
  exact h i c hi
theorem wRep.app {M : fmM} {b : Nat} {ss ts : tS} (h : wRep M b ss) (h' : wRep M (b + ss.length) ts) : wRep M b (ss ++ ts) := fun i c hi => by
  by_cases e : i < ss.length
  · rw [List.getElem?_append_left e] at hi
    exact h i c hi
  · rw [List.getElem?_append_right (by omega)] at hi
    have h9 := h' (i - ss.length) c hi
    rw [show b + ss.length + (i - ss.length) = b + i by omega] at h9
    exact h9
theorem wOk.trans {M M1 M2 : fmM} {tx : tX} {n q1 q2 b : Nat} {ss ts : tS} (h : wOk M M1 tx n q1 b ss) (h' : wOk M1 M2 tx n q2 (b + ss.length) ts) : wOk M M2 tx n q2 b (ss ++ ts) := ⟨h'.1, h'.2.1, h'.2.2.1, by rw [List.length_append, ← Nat.add_assoc]; exact h'.2.2.2.1, (h.2.2.2.2.1.fr h'.2.2.2.2.2 (Nat.le_refl _)).app h'.2.2.2.2.1, h.2.2.2.2.2.trans h'.2.2.2.2.2 (by omega)⟩
theorem wOk.xd {M M1 M2 : fmM} {tx : tX} {n q1 q2 b : Nat} {ss : tS} (h : wOk M M1 tx n q1 b ss) (h' : xdOk M1 M2 tx n q2) : wOk M M2 tx n q2 b ss := ⟨h'.1, h'.2.1, h'.2.2.2, by rw [(h'.2.2.1.1 28 3 (by decide)).1]; exact h.2.2.2.1, h.2.2.2.2.1.fr (h'.2.2.1.w (b + ss.length)) (Nat.le_refl _), h.2.2.2.2.2.trans (h'.2.2.1.w b) (Nat.le_refl _)⟩
theorem wOk.pre {M0 M M1 : fmM} {tx : tX} {n q b : Nat} {ss : tS} (h : xdFr M0 M) (h' : wOk M M1 tx n q b ss) : wOk M0 M1 tx n q b ss := ⟨h'.1, h'.2.1, h'.2.2.1, h'.2.2.2.1, h'.2.2.2.2.1, (h.w b).trans h'.2.2.2.2.2 (Nat.le_refl _)⟩
theorem wOk.xdb {M M1 M2 : fmM} {tx : tX} {n q1 b k a : Nat} {ss : tS} (h : wOk M M1 tx n q1 b ss) (h' : xdBad M1 M2 k a) : wBad M M2 k a := ⟨h'.1, h'.2.1, h'.2.2.1, h'.2.2.2.2, h.2.2.2.2.2.tr0 (h'.2.2.2.1.w b)⟩
theorem wOk.bad {M M1 M2 : fmM} {tx : tX} {n q1 b k a : Nat} {ss : tS} (h : wOk M M1 tx n q1 b ss) (h' : wBad M1 M2 k a) : wBad M M2 k a := ⟨h'.1, h'.2.1, h'.2.2.1, h'.2.2.2.1, h.2.2.2.2.2.tr0 h'.2.2.2.2⟩
theorem wBad.pre {M0 M M1 : fmM} {k a b : Nat} (h : wFr b M0 M) (h' : wBad M M1 k a) : wBad M0 M1 k a := ⟨h'.1, h'.2.1, h'.2.2.1, h'.2.2.2.1, h.tr0 h'.2.2.2.2⟩
theorem xdBad.wb {M0 M M1 : fmM} {k a b : Nat} (h : wFr b M0 M) (h' : xdBad M M1 k a) : wBad M0 M1 k a := ⟨h'.1, h'.2.1, h'.2.2.1, h'.2.2.2.2, h.tr0 (h'.2.2.2.1.w b)⟩
theorem wPre.xd {M M1 : fmM} {tx : tX} {n p q b : Nat} (h : wPre M tx n p b) (k : xdOk M M1 tx n q) (hq : p ≤ q) : wPre M1 tx n q b := ⟨k.1, k.2.1, k.2.2.2, by rw [(k.2.2.1.1 28 3 (by decide)).1]; exact h.2.2.2.1, by have := h.2.2.2.2.1; omega, h.2.2.2.2.2⟩
theorem wPre.next {M M1 : fmM} {tx : tX} {n p q b : Nat} {ss : tS} (h : wPre M tx n p b) (k : wOk M M1 tx n q b ss) (hq : p + 2 * ss.length ≤ q) : wPre M1 tx n q (b + ss.length) := ⟨k.1, k.2.1, k.2.2.1, k.2.2.2.1, by have := h.2.2.2.2.1; omega, h.2.2.2.2.2⟩
theorem wPre.nil {M : fmM} {tx : tX} {n p b : Nat} (h : wPre M tx n p b) : wOk M M tx n p b [] := ⟨h.1, h.2.1, h.2.2.1, h.2.2.2.1, fun i c hi => (by cases hi), wFr.refl b M⟩
theorem wBad.nz {M M' : fmM} {k a : Nat} (h : wBad M M' k a) : ¬ M'.1 1 4 = 0 := by
  intro e
  have h1 := h.1
  rw [e] at h1
  have e0 : (0 : Int32).toInt = 0 := by decide
  have := h.2.2.1
  omega
theorem stK_of {w : List Int} {j : Nat} (h : wdI wsWork w 0 = some j) : stK w = some j ∧ j < 5 := by
  simp only [wdI, wsWork] at h
  repeat' split at h
  all_goals first | (injection h with h; subst h; rename_i h9; subst h9; exact ⟨by decide, by decide⟩) | cases h
theorem stK_no {w : List Int} (h : wdI wsWork w 0 = none) : stK w = none := by
  simp only [wdI, wsWork] at h
  repeat' split at h
  all_goals first | (cases h; done) | skip
  rename_i h0 h1 h2 h3 h4
  unfold stK
  rw [if_neg h0, if_neg h1, if_neg h2, if_neg h3, if_neg h4]
def sgS (tx : tX) (ss : tS) (q : Nat) : tR tS := spBind (spSign tx 59 q) fun _ q => .inr (ss, q)
def bSi (tx : tX) (l k b q : Nat) : tR tS := spBind (spNum tx 0 ((l : Int) - 1) q) fun v q => .inr ([(k, v, b + 1)], q)
def bAg (tx : tX) (rc : Nat → tR tS) (b q : Nat) : tR tS := spBind (spNum tx 0 20 q) fun v q => spBind (spSign tx 91 q) fun _ q => spBind (rc (sk tx q)) fun ss q => spBind (spSign tx 93 q) fun _ q => .inr ((4, v, b + 1 + ss.length) :: ss, q)
def bOne (tx : tX) (l : Nat) (rc : Nat → tR tS) (o b p : Nat) : tR tS := match stK (wd tx (sk tx p)) with
  | none => .inl (1, sk tx p)
  | some k => if k = 4 then (if o = 6 then .inl (3, sk tx p) else bAg tx rc b (sp tW tx (sk tx p))) else if k = 3 then .inr ([(3, 0, b + 1)], sp tW tx (sk tx p)) else bSi tx l k b (sp tW tx (sk tx p))
theorem one_B (tx : tX) (l : Nat) (rc : Nat → tR tS) (o b p : Nat) : spOneS tx l rc o b p = spBind (bOne tx l rc o b p) (sgS tx) := by
  unfold spOneS bOne
  cases stK (wd tx (sk tx p)) with
  | none => rfl
  | some k =>
    by_cases h4 : k = 4
    · simp only [if_pos h4]
      by_cases h6 : o = 6
      · simp only [if_pos h6]
        rfl
      · simp only [if_neg h6]
        unfold spAg bAg
        simp only [spBind_a]
        rfl
    · simp only [if_neg h4]
      by_cases h3 : k = 3
      · simp only [if_pos h3]
        rfl
      · simp only [if_neg h3]
        unfold spSi bSi
        simp only [spBind_a]
        rfl
theorem bo_n {tx : tX} {l o b p : Nat} {rc : Nat → tR tS} (h : stK (wd tx (sk tx p)) = none) : bOne tx l rc o b p = .inl (1, sk tx p) := by
  unfold bOne
  rw [h]
theorem bo_6 {tx : tX} {l b p : Nat} {rc : Nat → tR tS} (h : stK (wd tx (sk tx p)) = some 4) : bOne tx l rc 6 b p = .inl (3, sk tx p) := by
  unfold bOne
  rw [h]
  rfl
theorem bo_4 {tx : tX} {l o b p : Nat} {rc : Nat → tR tS} (h : stK (wd tx (sk tx p)) = some 4) (ho : ¬ o = 6) : bOne tx l rc o b p = bAg tx rc b (sp tW tx (sk tx p)) := by
  unfold bOne
  rw [h]
  simp only [if_true, if_neg ho]
theorem bo_3 {tx : tX} {l o b p : Nat} {rc : Nat → tR tS} (h : stK (wd tx (sk tx p)) = some 3) : bOne tx l rc o b p = .inr ([(3, 0, b + 1)], sp tW tx (sk tx p)) := by
  unfold bOne
  rw [h]
  rfl
theorem bo_s {tx : tX} {l o b p k : Nat} {rc : Nat → tR tS} (h : stK (wd tx (sk tx p)) = some k) (h4 : ¬ k = 4) (h3 : ¬ k = 3) : bOne tx l rc o b p = bSi tx l k b (sp tW tx (sk tx p)) := by
  unfold bOne
  rw [h]
  simp only [if_neg h4, if_neg h3]
def wE (Q : fmR → fmM → Prop) (M : fmM) (tx : tX) (n b : Nat) (r : tR tS) : Prop := (∀ (M' : fmM) (ss : tS) (q : Nat), r = .inr (ss, q) → wOk M M' tx n q b ss → Q (.inl (some (.int 1))) M') ∧ ∀ (M' : fmM) (k a : Nat), r = .inl (k, a) → wBad M M' k a → Q (.inl (some (.int 0))) M'
/-- steps up to a bracket -/
def wG1 (tx : tX) (n l f : Nat) : Prop := ∀ (o b p : Nat) (M : fmM) (Q : fmR → fmM → Prop) (lv op : Int32), 1 ≤ o → o ≤ 6 → wPre M tx n p b → lv.toInt = (l : Int) → l ≤ 8 → op.toInt = (o : Int) → ¬ spSt tx l f 1 o b (sk tx p) = .inl (9, 0) → wE Q M tx n b (spSt tx l f 1 o b (sk tx p)) → pvGood Tx (8 + 3 * (6 - o)) qX9_readSteps [.ref 28, .ref 1, .int lv, .int op] M Q
/-- one step, without its sign -/
def wG0 (tx : tX) (n l f : Nat) : Prop := ∀ (o b p : Nat) (M : fmM) (Q : fmR → fmM → Prop) (lv op : Int32), o ≤ 6 → wPre M tx n p b → lv.toInt = (l : Int) → l ≤ 8 → op.toInt = (o : Int) → ¬ bOne tx l (fun q => spSt tx l f 1 (o + 1) (b + 1) q) o b p = .inl (9, 0) → wE Q M tx n b (bOne tx l (fun q => spSt tx l f 1 (o + 1) (b + 1) q) o b p) → pvGood Tx (7 + 3 * (6 - o)) qX9_readStep [.ref 28, .ref 1, .int lv, .int op] M Q
theorem st_fr {M0 M : fmM} {w : Int32} {b : Nat} (h : wFr b M0 M) : wFr b M0 (stpM M w b) := (h.put (Or.inl ⟨rfl, rfl⟩)).put (Or.inr ⟨by decide, by decide, Nat.le_refl _⟩)
theorem st_S {M : fmM} {tx : tX} {n q b : Nat} {w : Int32} (h : xS2 M tx n q) : xS2 (stpM M w b) tx n q := h.of rfl rfl rfl
theorem nu_S {M : fmM} {tx : tX} {n q k b : Nat} {w : Int32} (h : xS2 M tx n q) (hk : k = 30 ∨ k = 31) : xS2 (fmI M k b w) tx n q := by
  rcases hk with rfl | rfl <;> exact h.of rfl rfl rfl
/-- one step that is no again -/
theorem w_one {M0 M2 : fmM} {tx : tX} {n q b k v : Nat} {w x : Int32} (hS : xS2 M2 tx n q) (hf : M2.1 1 4 = 0) (hI : scInv Tx invX (fmI M2 30 b x)) (hz : (M2.1 28 3).toInt = ((b + 1 : Nat) : Int)) (hk : (M2.1 29 b).toInt = (k : Int)) (hx : x.toInt = (v : Int)) (h4 : ¬ k = 4) (hF : wFr b M0 M2) : wOk M0 (fmI M2 30 b x) tx n q b [(k, v, b + 1)] := by
  refine ⟨nu_S hS (Or.inl rfl), hf, hI, ?_, fun i c hi => ?_, hF.put (Or.inr ⟨by decide, by decide, Nat.le_refl _⟩)⟩
  · rw [fmI_k _ _ (by decide)]
    exact hz
  · cases i with
    | succ i => cases hi
    | zero =>
      cases hi
      refine ⟨?_, ?_, fun h => absurd h h4⟩
      · rw [fmI_k _ _ (by decide), Nat.add_zero]
        exact hk
      · rw [Nat.add_zero, fmI_s]
        exact hx
/-- an again, closed -/
theorem w_ag {M0 M2 M3 M4 : fmM} {tx : tX} {n q q' b v : Nat} {ss : tS} {x : Int32} (hF : wFr b M0 M2) (hk : (M2.1 29 b).toInt = ((4 : Nat) : Int)) (hv : (M2.1 30 b).toInt = (v : Int)) (h3 : wOk M2 M3 tx n q (b + 1) ss) (h4 : xdOk M3 M4 tx n q') (hI : scInv Tx invX (fmI M4 31 b x)) (hx : x = M4.1 28 3) : wOk M0 (fmI M4 31 b x) tx n q' b ((4, v, b + 1 + ss.length) :: ss) := by
  have h3 := h3.xd h4
  have e28 : (M4.1 28 3).toInt = ((b + 1 + ss.length : Nat) : Int) := h3.2.2.2.1
  refine ⟨nu_S h3.1 (Or.inr rfl), h3.2.1, hI, ?_, fun i c hi => ?_, ?_⟩
  · rw [fmI_k _ _ (by decide), e28, List.length_cons]
    congr 1
    omega
  · cases i with
    | zero =>
      cases hi
      rw [Nat.add_zero, fmI_k _ _ (by decide), fmI_k _ _ (by decide), fmI_s]
      refine ⟨?_, ?_, fun _ => ?_⟩
      · rw [h3.2.2.2.2.2.1 29 b (by decide) (by omega) (by omega)]
        exact hk
      · rw [h3.2.2.2.2.2.1 30 b (by decide) (by omega) (by omega)]
        exact hv
      · rw [hx]
        exact e28
    | succ i =>
      have h9 := h3.2.2.2.2.1 i c hi
      rw [show b + (i + 1) = b + 1 + i by omega, fmI_k _ _ (by decide), fmI_k _ _ (by decide), fmI_at, if_neg (by omega)]
      exact h9
  · exact (hF.trans h3.2.2.2.2.2 (Nat.le_succ _)).put (Or.inr ⟨by decide, by decide, Nat.le_refl _⟩)
theorem wOk.frm {M0 M M1 : fmM} {tx : tX} {n q b : Nat} {ss : tS} (h : wFr b M0 M) (h' : wOk M M1 tx n q b ss) : wOk M0 M1 tx n q b ss := ⟨h'.1, h'.2.1, h'.2.2.1, h'.2.2.2.1, h'.2.2.2.2.1, h.trans h'.2.2.2.2.2 (Nat.le_refl _)⟩
theorem stK_4 {w : List Int} (h : stK w = some 4) : w.length = 5 := by
  unfold stK at h
  repeat' split at h
  all_goals first | (rename_i e; subst e; rfl) | (injection h with h; exact absurd h (by decide)) | cases h
theorem ss_e {tx : tX} {l f o b a : Nat} (ht : tx a = 93) : spSt tx l (f + 1) 1 o b a = .inr ([], a) := if_pos ht
theorem ss_b {tx : tX} {l f o b a : Nat} {e : Nat × Nat} (ht : ¬ tx a = 93) (h : spSt tx l f 0 o b a = .inl e) : spSt tx l (f + 1) 1 o b a = .inl e := by
  show (if tx a = 93 then _ else spBind (spSt tx l f 0 o b a) _) = _
  rw [if_neg ht, h]
  rfl
theorem ss_s {tx : tX} {l f o b a q : Nat} {ss : tS} (ht : ¬ tx a = 93) (h : spSt tx l f 0 o b a = .inr (ss, q)) : spSt tx l (f + 1) 1 o b a = spBind (spSt tx l f 1 o (b + ss.length) (sk tx q)) fun ts q => .inr (ss ++ ts, q) := by
  show (if tx a = 93 then _ else spBind (spSt tx l f 0 o b a) _) = _
  rw [if_neg ht, h]
  rfl
theorem o_ok {tx : tX} {l f o b a q q2 : Nat} {ss : tS} (h : bOne tx l (fun q => spSt tx l f 1 (o + 1) (b + 1) q) o b a = .inr (ss, q)) (h2 : spSign tx 59 q = .inr ((), q2)) : spSt tx l (f + 1) 0 o b a = .inr (ss, q2) := by
  refine (one_B tx l _ o b a).trans ?_
  rw [h]
  show spBind (spSign tx 59 q) _ = _
  rw [h2]
  rfl
theorem o_b1 {tx : tX} {l f o b a : Nat} {e : Nat × Nat} (h : bOne tx l (fun q => spSt tx l f 1 (o + 1) (b + 1) q) o b a = .inl e) : spSt tx l (f + 1) 0 o b a = .inl e := by
  refine (one_B tx l _ o b a).trans ?_
  rw [h]
  rfl
theorem o_b2 {tx : tX} {l f o b a q : Nat} {ss : tS} {e : Nat × Nat} (h : bOne tx l (fun q => spSt tx l f 1 (o + 1) (b + 1) q) o b a = .inr (ss, q)) (h2 : spSign tx 59 q = .inl e) : spSt tx l (f + 1) 0 o b a = .inl e := by
  refine (one_B tx l _ o b a).trans ?_
  rw [h]
  show spBind (spSign tx 59 q) _ = _
  rw [h2]
  rfl
/-- the inside of an again, behind its word -/
def wAg (tx : tX) (n l f : Nat) : Prop := ∀ (o b q : Nat) (M : fmM) (Q : fmR → fmM → Prop) (lv op a : Int32), 1 ≤ o → o ≤ 6 → xS2 M tx n q → M.1 1 4 = 0 → scInv Tx invX M → (M.1 28 3).toInt = ((b + 1 : Nat) : Int) → (M.1 29 b).toInt = ((4 : Nat) : Int) → 2 * (b + 1) ≤ q → n ≤ 150 → lv.toInt = (l : Int) → l ≤ 8 → op.toInt = (o : Int) → a.toInt = (b : Int) → ¬ bAg tx (fun q => spSt tx l f 1 o (b + 1) q) b q = .inl (9, 0) → wE Q M tx n b (bAg tx (fun q => spSt tx l f 1 o (b + 1) q) b q) → pvGood Tx (9 + 3 * (6 - o)) qX9_readAgain [.ref 28, .ref 1, .int lv, .int op, .int a] M Q
set_option maxRecDepth 20000 in
theorem wa_G {tx : tX} {n l f : Nat} (h1 : wG1 tx n l f) : wAg tx n l f := by
  intro o b q M Q lv op a ho1 ho6 hS hf hI hz hk hbq hn hlv hl8 hop ha hne hE
  have hqn := hS.2.2.1
  have hb9 : b < 150 := (by omega)
  refine pvGood_of (Nat.le_of_ble_eq_true rfl) ?_
  show pvEv Tx (9 + 3 * (6 - o)) qX9_readAgain 0 [some (.ref 28), some (.ref 1), some (.int lv), some (.int op), some (.int a)] [] M Q
  refine pv_aloadn (pc := 0) (n := 0) 0 rfl rfl (fm_dec dtX9_readAgain 0 rfl) ?_
  refine pv_getR (k := 28) (j := 1) (ci := 9) (pc := 1) 30 rfl (by decide) pfl_X9_15 (by decide) rfl (by decide) (fm_dec dtX9_readAgain 1 rfl) ?_
  refine pv_iload (pc := 4) (i := 4) rfl (fm_dec dtX9_readAgain 2 rfl) ?_
  refine pv_aloadn (pc := 6) (n := 1) 1 rfl rfl (fm_dec dtX9_readAgain 3 rfl) ?_
  refine pv_iconst (pc := 7) (v := 0) (by decide) (fm_dec dtX9_readAgain 4 rfl) ?_
  refine pv_bipush (pc := 8) (v := 20) (by decide) (fm_dec dtX9_readAgain 5 rfl) ?_
  refine pv_invV2 (k := 1) (d' := 2) (pc := 10) pcv_X9_68 (by decide) rfl (Nat.le_of_ble_eq_true rfl) (by omega) (fm_dec dtX9_readAgain 6 rfl) ?_
  refine x_numC 0 20 (by decide) (by decide) (by decide) hS hf hI (fun M10 v10 q10 w10 e10 hw10 k10 => ?_) (fun M10 kb ab e10 b10 => ?_)
  · refine pv_then1 ?_
    refine pv_iast (k := 30) (n := 150) (pc := 13) (by decide) rfl rfl (ix_in ha hb9) (fm_dec dtX9_readAgain 7 rfl) ?_
    rw [i32_cl ha]
    have n10 := spNum_ok hS.2.2.2.1 hS.2.2.1 e10
    have hI13 : scInv Tx invX (fmI M10 30 b w10) := xInv.put k10.2.2.2 (by rw [xi_30]; omega)
    have FA : wFr b M (fmI M10 30 b w10) := (k10.2.2.1.w b).put (Or.inr ⟨by decide, by decide, Nat.le_refl _⟩)
    refine pv_aloadn (pc := 14) (n := 1) 1 rfl rfl (fm_dec dtX9_readAgain 8 rfl) ?_
    refine pv_invV0 (k := 1) (d' := 0) (pc := 15) pcv_X9_72 (by decide) rfl (Nat.le_of_ble_eq_true rfl) (by omega) (fm_dec dtX9_readAgain 9 rfl) ?_
    refine c_xfailed (fun _ => ?_) (fun h9 => absurd k10.2.1 h9) 
    refine pv_then1 ?_
    refine pv_if_ne (pc := 18) 49 (by decide) (fm_dec dtX9_readAgain 10 rfl) (fun hc18 => by exfalso; revert hc18; decide) (fun _ => ?_)
    refine pv_aloadn (pc := 21) (n := 1) 1 rfl rfl (fm_dec dtX9_readAgain 11 rfl) ?_
    refine pv_bipush (pc := 22) (v := 91) (by decide) (fm_dec dtX9_readAgain 12 rfl) ?_
    refine pv_invV1 (k := 1) (d' := 1) (pc := 24) pcv_X9_47 (by decide) rfl (Nat.le_of_ble_eq_true rfl) (by omega) (fm_dec dtX9_readAgain 13 rfl) ?_
    refine x_signC 91 (by decide) (by decide) (nu_S k10.1 (Or.inl rfl)) k10.2.1 hI13 (fun M24 q24 e24 k24 => ?_) (fun M24 kb ab e24 b24 => ?_)
    · refine pv_then1 ?_
      have n24 := spSign_ok hS.2.2.2.1 k10.1.2.2.1 (by decide) e24
      have FB : wFr b M M24 := FA.trans (k24.2.2.1.w b) (Nat.le_refl _)
      have hP24 : wPre M24 tx n q24 (b + 1) := ⟨k24.1, k24.2.1, k24.2.2.2, (by rw [(k24.2.2.1.1 28 3 (by decide)).1, fmI_k _ _ (by decide), (k10.2.2.1.1 28 3 (by decide)).1]; exact hz), (by omega), hn⟩
      refine pv_if_eq (pc := 27) 49 (by decide) (fm_dec dtX9_readAgain 14 rfl) (fun hc27 => by exfalso; revert hc27; decide) (fun _ => ?_)
      refine pv_aloadn (pc := 30) (n := 0) 0 rfl rfl (fm_dec dtX9_readAgain 15 rfl) ?_
      refine pv_aloadn (pc := 31) (n := 1) 1 rfl rfl (fm_dec dtX9_readAgain 16 rfl) ?_
      refine pv_iloadn (pc := 32) (n := 2) 2 rfl rfl (fm_dec dtX9_readAgain 17 rfl) ?_
      refine pv_iloadn (pc := 33) (n := 3) 3 rfl rfl (fm_dec dtX9_readAgain 18 rfl) ?_
      refine pv_invV3 (k := 28) (d' := (8 + 3 * (6 - o))) (pc := 34) pcv_X9_34 (by decide) rfl (Nat.le_of_ble_eq_true rfl) (by omega) (fm_dec dtX9_readAgain 19 rfl) ?_
      refine h1 o (b + 1) q24 M24 _ lv op ho1 ho6 hP24 hlv hl8 hop (fun h9 => hne (by unfold bAg; simp only [spBind, e10, e24, h9])) ⟨fun M34 s34 q34 e34 k34 => ?_, fun M34 kb ab e34 b34 => ?_⟩  
      · refine pv_then1 ?_
        have FC : wFr b M M34 := FB.trans k34.2.2.2.2.2 (Nat.le_succ _)
        refine pv_if_eq (pc := 37) 49 (by decide) (fm_dec dtX9_readAgain 20 rfl) (fun hc37 => by exfalso; revert hc37; decide) (fun _ => ?_)
        refine pv_aloadn (pc := 40) (n := 1) 1 rfl rfl (fm_dec dtX9_readAgain 21 rfl) ?_
        refine pv_bipush (pc := 41) (v := 93) (by decide) (fm_dec dtX9_readAgain 22 rfl) ?_
        refine pv_invV1 (k := 1) (d' := 1) (pc := 43) pcv_X9_47 (by decide) rfl (Nat.le_of_ble_eq_true rfl) (by omega) (fm_dec dtX9_readAgain 23 rfl) ?_
        refine x_signC 93 (by decide) (by decide) k34.1 k34.2.1 k34.2.2.1 (fun M43 q43 e43 k43 => ?_) (fun M43 kb ab e43 b43 => ?_)
        · refine pv_then1 ?_
          refine pv_if_ne (pc := 46) 51 (by decide) (fm_dec dtX9_readAgain 24 rfl) (fun _ => ?_) (fun hc46 => by exfalso; revert hc46; decide)
          refine pv_aloadn (pc := 51) (n := 0) 0 rfl rfl (fm_dec dtX9_readAgain 27 rfl) ?_
          refine pv_getR (k := 28) (j := 2) (ci := 9) (pc := 52) 31 rfl (by decide) pfl_X9_18 (by decide) rfl (by decide) (fm_dec dtX9_readAgain 28 rfl) ?_
          refine pv_iload (pc := 55) (i := 4) rfl (fm_dec dtX9_readAgain 29 rfl) ?_
          refine pv_aloadn (pc := 57) (n := 0) 0 rfl rfl (fm_dec dtX9_readAgain 30 rfl) ?_
          refine pv_getI (k := 28) (j := 3) (ci := 9) (pc := 58) pfl_X9_21 (by decide) rfl (by decide) (fm_dec dtX9_readAgain 31 rfl) ?_
          refine pv_iast (k := 31) (n := 150) (pc := 61) (by decide) rfl rfl (ix_in ha hb9) (fm_dec dtX9_readAgain 32 rfl) ?_
          rw [i32_cl ha]
          refine pv_iconst (pc := 62) (v := 1) (by decide) (fm_dec dtX9_readAgain 33 rfl) ?_
          exact pv_zreturn (pc := 63) rfl (by first | exact Or.inr rfl | exact Or.inl rfl) (fm_dec dtX9_readAgain 34 rfl) (hE.1 _ ((4, v10, b + 1 + s34.length) :: s34) q43 (by unfold bAg; simp only [spBind, e10, e24, e34, e43]) (w_ag FB (by rw [(k24.2.2.1.1 29 b (by decide)).1, fmI_k _ _ (by decide), (k10.2.2.1.1 29 b (by decide)).1]; exact hk) (by rw [(k24.2.2.1.1 30 b (by decide)).1, fmI_s]; exact hw10) k34 k43 (xInv.put k43.2.2.2 (by rw [xi_31]; exact k43.2.2.2.1 28 3 (by decide))) rfl))
        · refine pv_then1 ?_
          refine pv_if_ne (pc := 46) 51 (by decide) (fm_dec dtX9_readAgain 24 rfl) (fun hc46 => by exfalso; revert hc46; decide) (fun _ => ?_)
          refine pv_iconst (pc := 49) (v := 0) (by decide) (fm_dec dtX9_readAgain 25 rfl) ?_
          exact pv_zreturn (pc := 50) rfl (by first | exact Or.inr rfl | exact Or.inl rfl) (fm_dec dtX9_readAgain 26 rfl) (hE.2 M43 kb ab (by unfold bAg; simp only [spBind, e10, e24, e34, e43]) (xdBad.wb FC b43))
      · refine pv_then1 ?_
        refine pv_if_eq (pc := 37) 49 (by decide) (fm_dec dtX9_readAgain 20 rfl) (fun _ => ?_) (fun hc37 => by exfalso; revert hc37; decide)
        refine pv_iconst (pc := 49) (v := 0) (by decide) (fm_dec dtX9_readAgain 25 rfl) ?_
        exact pv_zreturn (pc := 50) rfl (by first | exact Or.inr rfl | exact Or.inl rfl) (fm_dec dtX9_readAgain 26 rfl) (hE.2 M34 kb ab (by unfold bAg; simp only [spBind, e10, e24, e34]) (wBad.pre FB b34))
    · refine pv_then1 ?_
      refine pv_if_eq (pc := 27) 49 (by decide) (fm_dec dtX9_readAgain 14 rfl) (fun _ => ?_) (fun hc27 => by exfalso; revert hc27; decide)
      refine pv_iconst (pc := 49) (v := 0) (by decide) (fm_dec dtX9_readAgain 25 rfl) ?_
      exact pv_zreturn (pc := 50) rfl (by first | exact Or.inr rfl | exact Or.inl rfl) (fm_dec dtX9_readAgain 26 rfl) (hE.2 M24 kb ab (by unfold bAg; simp only [spBind, e10, e24]) (xdBad.wb FA b24))
  · refine pv_then1 ?_
    refine pv_iast (k := 30) (n := 150) (pc := 13) (by decide) rfl rfl (ix_in ha hb9) (fm_dec dtX9_readAgain 7 rfl) ?_
    rw [i32_cl ha]
    refine pv_aloadn (pc := 14) (n := 1) 1 rfl rfl (fm_dec dtX9_readAgain 8 rfl) ?_
    refine pv_invV0 (k := 1) (d' := 0) (pc := 15) pcv_X9_72 (by decide) rfl (Nat.le_of_ble_eq_true rfl) (by omega) (fm_dec dtX9_readAgain 9 rfl) ?_
    refine c_xfailed (fun h9 => absurd h9 b10.nz) (fun _ => ?_) 
    refine pv_then1 ?_
    refine pv_if_ne (pc := 18) 49 (by decide) (fm_dec dtX9_readAgain 10 rfl) (fun _ => ?_) (fun hc18 => by exfalso; revert hc18; decide)
    refine pv_iconst (pc := 49) (v := 0) (by decide) (fm_dec dtX9_readAgain 25 rfl) ?_
    exact pv_zreturn (pc := 50) rfl (by first | exact Or.inr rfl | exact Or.inl rfl) (fm_dec dtX9_readAgain 26 rfl) (hE.2 _ kb ab (by unfold bAg; simp only [spBind, e10]) ⟨b10.1, b10.2.1, b10.2.2.1, xInv.put b10.2.2.2.2 (by rw [xi_30]; decide), (b10.2.2.2.1.w 0).put (Or.inr ⟨by decide, by decide, Nat.zero_le _⟩)⟩)
set_option maxRecDepth 20000 in
theorem w0_G {tx : tX} {n l f : Nat} (hA : wAg tx n l f) : wG0 tx n l f := by
  intro o b p M Q lv op ho6 hP hlv hl8 hop hne hE
  have hpn := hP.1.2.2.1
  have hbp := hP.2.2.2.2.1
  have hn := hP.2.2.2.2.2
  have hb9 : b < 150 := (by omega)
  refine pvGood_of (Nat.le_of_ble_eq_true rfl) ?_
  show pvEv Tx (7 + 3 * (6 - o)) qX9_readStep 0 [some (.ref 28), some (.ref 1), some (.int lv), some (.int op), none, none, none] [] M Q
  refine pv_aloadn (pc := 0) (n := 1) 1 rfl rfl (fm_dec dtX9_readStep 0 rfl) ?_
  refine pv_invV0 (k := 1) (d' := 1) (pc := 1) pcv_X9_51 (by decide) rfl (Nat.le_of_ble_eq_true rfl) (by omega) (fm_dec dtX9_readStep 1 rfl) ?_
  refine x_next hP.1 hP.2.1 hP.2.2.1 (fun M1 x1 hx1 k1 => ?_)
  refine pv_then1 ?_
  refine pv_istore (pc := 4) (i := 4) (by decide) rfl (fm_dec dtX9_readStep 2 rfl) ?_
  dsimp only [List.set_cons_zero, List.set_cons_succ]
  refine pv_aloadn (pc := 6) (n := 1) 1 rfl rfl (fm_dec dtX9_readStep 3 rfl) ?_
  refine pv_ldcT (i := 4) (pc := 7) pkn_X9_54 ptx_X9_54 (fm_dec dtX9_readStep 4 rfl) ?_
  refine pv_invV1 (k := 1) (d' := 5) (pc := 9) pcv_X9_56 (by decide) rfl (Nat.le_of_ble_eq_true rfl) (by omega) (fm_dec dtX9_readStep 5 rfl) ?_
  refine x_word (i5 := 4) (by decide) chs_4 wsWork_ok (by decide) k1.1 k1.2.1 k1.2.2.2 (fun M9 j9 w9 e9 hw9 k9 => ?_) (fun e9 M9 b9 => ?_)  
  · refine pv_then1 ?_
    refine pv_istore (pc := 12) (i := 5) (by decide) rfl (fm_dec dtX9_readStep 6 rfl) ?_
    dsimp only [List.set_cons_zero, List.set_cons_succ]
    rw [sk_sk hP.1.2.2.2.1 hP.1.2.2.1] at e9
    rw [sk_sk hP.1.2.2.2.1 hP.1.2.2.1] at k9
    have hst := stK_of e9
    have hz9 : (M9.1 28 3).toInt = (b : Int) := (by rw [(k9.2.2.1.1 28 3 (by decide)).1, (k1.2.2.1.1 28 3 (by decide)).1]; exact hP.2.2.2.1)
    refine pv_iload (pc := 14) (i := 5) rfl (fm_dec dtX9_readStep 7 rfl) ?_
    refine pv_iconst (pc := 16) (v := (-1)) (by decide) (fm_dec dtX9_readStep 8 rfl) ?_
    refine pv_icmp_eq (pc := 17) 30 (by decide) (fm_dec dtX9_readStep 9 rfl) (fun hc17 => by exfalso; have h9 := congrArg Int32.toInt hc17; have h8 : (-1 : Int32).toInt = -1 := (by decide); omega) (fun _ => ?_)
    refine pv_aloadn (pc := 20) (n := 0) 0 rfl rfl (fm_dec dtX9_readStep 10 rfl) ?_
    refine pv_getI (k := 28) (j := 3) (ci := 9) (pc := 21) pfl_X9_21 (by decide) rfl (by decide) (fm_dec dtX9_readStep 11 rfl) ?_
    refine pv_sipush (pc := 24) (v := 150) (by decide) (fm_dec dtX9_readStep 12 rfl) ?_
    refine pv_icmp_lt (pc := 27) 32 (by decide) (fm_dec dtX9_readStep 13 rfl) (fun _ => ?_) (fun hc27 => by exfalso; apply hc27; rw [sc_lt]; have h9 : (150 : Int32).toInt = 150 := (by decide); omega)
    refine pv_aloadn (pc := 32) (n := 0) 0 rfl rfl (fm_dec dtX9_readStep 16 rfl) ?_
    refine pv_getI (k := 28) (j := 3) (ci := 9) (pc := 33) pfl_X9_21 (by decide) rfl (by decide) (fm_dec dtX9_readStep 17 rfl) ?_
    refine pv_istore (pc := 36) (i := 6) (by decide) rfl (fm_dec dtX9_readStep 18 rfl) ?_
    dsimp only [List.set_cons_zero, List.set_cons_succ]
    refine pv_aloadn (pc := 38) (n := 0) 0 rfl rfl (fm_dec dtX9_readStep 19 rfl) ?_
    refine pv_dup (pc := 39) rfl (fm_dec dtX9_readStep 20 rfl) ?_
    refine pv_getI (k := 28) (j := 3) (ci := 9) (pc := 40) pfl_X9_21 (by decide) rfl (by decide) (fm_dec dtX9_readStep 21 rfl) ?_
    refine pv_iconst (pc := 43) (v := 1) (by decide) (fm_dec dtX9_readStep 22 rfl) ?_
    refine pv_iadd (pc := 44) (fm_dec dtX9_readStep 23 rfl) ?_
    refine pv_putI (k := 28) (j := 3) (ci := 9) (pc := 45) pfl_X9_21 (by decide) rfl (by decide) (fm_dec dtX9_readStep 24 rfl) ?_
    refine pv_aloadn (pc := 48) (n := 0) 0 rfl rfl (fm_dec dtX9_readStep 25 rfl) ?_
    refine pv_getR (k := 28) (j := 0) (ci := 9) (pc := 49) 29 rfl (by decide) pfl_X9_9 (by decide) rfl (by decide) (fm_dec dtX9_readStep 26 rfl) ?_
    refine pv_iload (pc := 52) (i := 6) rfl (fm_dec dtX9_readStep 27 rfl) ?_
    refine pv_iload (pc := 54) (i := 5) rfl (fm_dec dtX9_readStep 28 rfl) ?_
    refine pv_iast (k := 29) (n := 150) (pc := 56) (by decide) rfl rfl (ix_in hz9 hb9) (fm_dec dtX9_readStep 29 rfl) ?_
    rw [i32_cl hz9]
    have hIS : scInv Tx invX (stpM M9 w9 b) := stpM_inv k9.2.2.2 hz9 hb9 ⟨by omega, by have := hst.2; omega⟩
    have FS : wFr b M (stpM M9 w9 b) := st_fr ((k1.2.2.1.trans k9.2.2.1).w b)
    refine pv_iload (pc := 57) (i := 5) rfl (fm_dec dtX9_readStep 30 rfl) ?_
    refine pv_iconst (pc := 59) (v := 4) (by decide) (fm_dec dtX9_readStep 31 rfl) ?_
    refine pv_icmp_ne (pc := 60) 91 (by decide) (fm_dec dtX9_readStep 32 rfl) (fun hc60 => ?_) (fun hc60 => ?_)
    · refine pv_aloadn (pc := 91) (n := 0) 0 rfl rfl (fm_dec dtX9_readStep 50 rfl) ?_
      refine pv_getR (k := 28) (j := 1) (ci := 9) (pc := 92) 30 rfl (by decide) pfl_X9_15 (by decide) rfl (by decide) (fm_dec dtX9_readStep 51 rfl) ?_
      refine pv_iload (pc := 95) (i := 6) rfl (fm_dec dtX9_readStep 52 rfl) ?_
      refine pv_iload (pc := 97) (i := 5) rfl (fm_dec dtX9_readStep 53 rfl) ?_
      refine pv_iconst (pc := 99) (v := 3) (by decide) (fm_dec dtX9_readStep 54 rfl) ?_
      refine pv_icmp_ne (pc := 100) 107 (by decide) (fm_dec dtX9_readStep 55 rfl) (fun hc100 => ?_) (fun hc100 => ?_)
      · refine pv_aloadn (pc := 107) (n := 1) 1 rfl rfl (fm_dec dtX9_readStep 58 rfl) ?_
        refine pv_iconst (pc := 108) (v := 0) (by decide) (fm_dec dtX9_readStep 59 rfl) ?_
        refine pv_iloadn (pc := 109) (n := 2) 2 rfl rfl (fm_dec dtX9_readStep 60 rfl) ?_
        refine pv_iconst (pc := 110) (v := 1) (by decide) (fm_dec dtX9_readStep 61 rfl) ?_
        refine pv_isub (pc := 111) (fm_dec dtX9_readStep 62 rfl) ?_
        refine pv_invV2 (k := 1) (d' := 2) (pc := 112) pcv_X9_68 (by decide) rfl (Nat.le_of_ble_eq_true rfl) (by omega) (fm_dec dtX9_readStep 63 rfl) ?_
        refine x_numC 0 ((l : Int) - 1) (by decide) (by have z1 : (1 : Int32).toInt = 1 := (by decide); rw [sc_sub (by omega) (by omega)]; omega) (by omega) (st_S k9.1) k9.2.1 hIS (fun M112 v112 q112 w112 e112 hw112 k112 => ?_) (fun M112 kb ab e112 b112 => ?_)
        · refine pv_then1 ?_
          refine pv_iast (k := 30) (n := 150) (pc := 115) (by decide) rfl rfl (ix_in hz9 hb9) (fm_dec dtX9_readStep 64 rfl) ?_
          rw [i32_cl hz9]
          have n112 := spNum_ok hP.1.2.2.2.1 k9.1.2.2.1 e112
          have hI115 : scInv Tx invX (fmI M112 30 b w112) := xInv.put k112.2.2.2 (by rw [xi_30]; omega)
          refine pv_aloadn (pc := 116) (n := 1) 1 rfl rfl (fm_dec dtX9_readStep 65 rfl) ?_
          refine pv_invV0 (k := 1) (d' := 0) (pc := 117) pcv_X9_72 (by decide) rfl (Nat.le_of_ble_eq_true rfl) (by omega) (fm_dec dtX9_readStep 66 rfl) ?_
          refine c_xfailed (fun _ => ?_) (fun h9 => absurd k112.2.1 h9) 
          refine pv_then1 ?_
          refine pv_if_ne (pc := 120) 127 (by decide) (fm_dec dtX9_readStep 67 rfl) (fun hc120 => by exfalso; revert hc120; decide) (fun _ => ?_)
          refine pv_iconst (pc := 123) (v := 1) (by decide) (fm_dec dtX9_readStep 68 rfl) ?_
          refine pv_goto (pc := 124) 128 (by decide) (fm_dec dtX9_readStep 69 rfl) ?_
          exact pv_zreturn (pc := 128) rfl (by first | exact Or.inr rfl | exact Or.inl rfl) (fm_dec dtX9_readStep 71 rfl) (hE.1 _ [(j9, v112, b + 1)] q112 (by rw [bo_s hst.1 (by intro h9; apply hc60; exact i32_ext (by have z4 : (4 : Int32).toInt = 4 := (by decide); omega)) (by intro h9; apply hc100; exact i32_ext (by have z3 : (3 : Int32).toInt = 3 := (by decide); omega))]; unfold bSi; simp only [spBind, e112]) (w_one (w := w9) k112.1 k112.2.1 hI115 (by rw [(k112.2.2.1.1 28 3 (by decide)).1]; show (M9.1 28 3 + 1).toInt = _; exact i32_p1 hz9 (by omega)) (by rw [(k112.2.2.1.1 29 b (by decide)).1]; (try unfold stpM); rw [fmI_s]; exact hw9) hw112 (by intro h9; apply hc60; exact i32_ext (by have z4 : (4 : Int32).toInt = 4 := (by decide); omega)) (FS.trans (k112.2.2.1.w b) (Nat.le_refl _))))
        · refine pv_then1 ?_
          refine pv_iast (k := 30) (n := 150) (pc := 115) (by decide) rfl rfl (ix_in hz9 hb9) (fm_dec dtX9_readStep 64 rfl) ?_
          rw [i32_cl hz9]
          refine pv_aloadn (pc := 116) (n := 1) 1 rfl rfl (fm_dec dtX9_readStep 65 rfl) ?_
          refine pv_invV0 (k := 1) (d' := 0) (pc := 117) pcv_X9_72 (by decide) rfl (Nat.le_of_ble_eq_true rfl) (by omega) (fm_dec dtX9_readStep 66 rfl) ?_
          refine c_xfailed (fun h9 => absurd h9 b112.nz) (fun _ => ?_) 
          refine pv_then1 ?_
          refine pv_if_ne (pc := 120) 127 (by decide) (fm_dec dtX9_readStep 67 rfl) (fun _ => ?_) (fun hc120 => by exfalso; revert hc120; decide)
          refine pv_iconst (pc := 127) (v := 0) (by decide) (fm_dec dtX9_readStep 70 rfl) ?_
          exact pv_zreturn (pc := 128) rfl (by first | exact Or.inr rfl | exact Or.inl rfl) (fm_dec dtX9_readStep 71 rfl) (hE.2 _ kb ab (by rw [bo_s hst.1 (by intro h9; apply hc60; exact i32_ext (by have z4 : (4 : Int32).toInt = 4 := (by decide); omega)) (by intro h9; apply hc100; exact i32_ext (by have z3 : (3 : Int32).toInt = 3 := (by decide); omega))]; unfold bSi; simp only [spBind, e112]) ⟨b112.1, b112.2.1, b112.2.2.1, xInv.put b112.2.2.2.2 (by rw [xi_30]; decide), (FS.tr0 (b112.2.2.2.1.w b)).put (Or.inr ⟨by decide, by decide, Nat.zero_le _⟩)⟩)
      · refine pv_iconst (pc := 103) (v := 0) (by decide) (fm_dec dtX9_readStep 56 rfl) ?_
        refine pv_goto (pc := 104) 115 (by decide) (fm_dec dtX9_readStep 57 rfl) ?_
        refine pv_iast (k := 30) (n := 150) (pc := 115) (by decide) rfl rfl (ix_in hz9 hb9) (fm_dec dtX9_readStep 64 rfl) ?_
        rw [i32_cl hz9]
        have hj3 : j9 = 3 := (by have h9 := congrArg Int32.toInt hc100; have z3 : (3 : Int32).toInt = 3 := (by decide); omega)
        refine pv_aloadn (pc := 116) (n := 1) 1 rfl rfl (fm_dec dtX9_readStep 65 rfl) ?_
        refine pv_invV0 (k := 1) (d' := 0) (pc := 117) pcv_X9_72 (by decide) rfl (Nat.le_of_ble_eq_true rfl) (by omega) (fm_dec dtX9_readStep 66 rfl) ?_
        refine c_xfailed (fun _ => ?_) (fun h9 => absurd k9.2.1 h9) 
        refine pv_then1 ?_
        refine pv_if_ne (pc := 120) 127 (by decide) (fm_dec dtX9_readStep 67 rfl) (fun hc120 => by exfalso; revert hc120; decide) (fun _ => ?_)
        refine pv_iconst (pc := 123) (v := 1) (by decide) (fm_dec dtX9_readStep 68 rfl) ?_
        refine pv_goto (pc := 124) 128 (by decide) (fm_dec dtX9_readStep 69 rfl) ?_
        exact pv_zreturn (pc := 128) rfl (by first | exact Or.inr rfl | exact Or.inl rfl) (fm_dec dtX9_readStep 71 rfl) (hE.1 _ [(3, 0, b + 1)] _ (bo_3 (by rw [hst.1, hj3])) (w_one (w := w9) (st_S k9.1) k9.2.1 (xInv.put hIS (by rw [xi_30]; decide)) (by show (M9.1 28 3 + 1).toInt = _; exact i32_p1 hz9 (by omega)) (by (try unfold stpM); rw [fmI_s, hw9, hj3]) (show (0 : Int32).toInt = ((0 : Nat) : Int) by decide) (by decide) FS))
    · have hj4 : j9 = 4 := (by have h9 := congrArg Int32.toInt hc60; have z4 : (4 : Int32).toInt = 4 := (by decide); omega)
      have hst4 : stK (wd tx (sk tx p)) = some 4 := (by rw [hst.1, hj4])
      refine pv_iloadn (pc := 63) (n := 3) 3 rfl rfl (fm_dec dtX9_readStep 33 rfl) ?_
      refine pv_bipush (pc := 64) (v := 6) (by decide) (fm_dec dtX9_readStep 34 rfl) ?_
      refine pv_icmp_lt (pc := 66) 79 (by decide) (fm_dec dtX9_readStep 35 rfl) (fun hc66 => ?_) (fun hc66 => ?_)
      · have ho9 : ¬ o = 6 := (by rw [sc_lt] at hc66; have z6 : (6 : Int32).toInt = 6 := (by decide); omega)
        refine pv_aloadn (pc := 79) (n := 0) 0 rfl rfl (fm_dec dtX9_readStep 41 rfl) ?_
        refine pv_aloadn (pc := 80) (n := 1) 1 rfl rfl (fm_dec dtX9_readStep 42 rfl) ?_
        refine pv_iloadn (pc := 81) (n := 2) 2 rfl rfl (fm_dec dtX9_readStep 43 rfl) ?_
        refine pv_iloadn (pc := 82) (n := 3) 3 rfl rfl (fm_dec dtX9_readStep 44 rfl) ?_
        refine pv_iconst (pc := 83) (v := 1) (by decide) (fm_dec dtX9_readStep 45 rfl) ?_
        refine pv_iadd (pc := 84) (fm_dec dtX9_readStep 46 rfl) ?_
        refine pv_iload (pc := 85) (i := 6) rfl (fm_dec dtX9_readStep 47 rfl) ?_
        refine pv_invV4 (k := 28) (d' := (9 + 3 * (6 - (o + 1)))) (pc := 87) pcv_X9_64 (by decide) rfl (Nat.le_of_ble_eq_true rfl) (by omega) (fm_dec dtX9_readStep 48 rfl) ?_
        refine hA (o + 1) b (sp tW tx (sk tx p)) (stpM M9 w9 b) _ lv (op + 1) _ (by omega) (by omega) (st_S k9.1) k9.2.1 hIS (by show (M9.1 28 3 + 1).toInt = _; exact i32_p1 hz9 (by omega)) (by (try unfold stpM); rw [fmI_s, hw9, hj4]) (by have h5 := stK_4 hst4; rw [wd_len] at h5; have h6 := hP.2.2.2.2.1; have h7 : p ≤ sk tx p := sp_ge p; omega) hP.2.2.2.2.2 hlv hl8 (i32_p1 hop (by omega)) hz9 (fun h9 => hne (by rw [bo_4 hst4 ho9]; exact h9)) ⟨fun M87 s87 q87 e87 k87 => ?_, fun M87 kb ab e87 b87 => ?_⟩  
        · refine pv_then1 ?_
          exact pv_zreturn (pc := 90) rfl (by first | exact Or.inr rfl | exact Or.inl rfl) (fm_dec dtX9_readStep 49 rfl) (hE.1 M87 s87 q87 (by rw [bo_4 hst4 ho9]; exact e87) (wOk.frm FS k87))
        · refine pv_then1 ?_
          exact pv_zreturn (pc := 90) rfl (by first | exact Or.inr rfl | exact Or.inl rfl) (fm_dec dtX9_readStep 49 rfl) (hE.2 M87 kb ab (by rw [bo_4 hst4 ho9]; exact e87) (wBad.pre FS b87))
      · refine pv_aloadn (pc := 69) (n := 1) 1 rfl rfl (fm_dec dtX9_readStep 36 rfl) ?_
        refine pv_iconst (pc := 70) (v := 3) (by decide) (fm_dec dtX9_readStep 37 rfl) ?_
        refine pv_iload (pc := 71) (i := 4) rfl (fm_dec dtX9_readStep 38 rfl) ?_
        refine pv_invV2 (k := 1) (d' := 0) (pc := 73) pcv_X9_60 (by decide) rfl (Nat.le_of_ble_eq_true rfl) (by omega) (fm_dec dtX9_readStep 39 rfl) ?_
        refine c_xfail0 k9.2.1 ?_
        refine pv_then1 ?_
        refine pv_goto (pc := 76) 90 (by decide) (fm_dec dtX9_readStep 40 rfl) ?_
        exact pv_zreturn (pc := 90) rfl (by first | exact Or.inr rfl | exact Or.inl rfl) (fm_dec dtX9_readStep 49 rfl) (by have ho9 : o = 6 := (by rw [sc_lt] at hc66; have z6 : (6 : Int32).toInt = 6 := (by decide); omega); subst ho9; exact hE.2 _ 3 (sk tx p) (bo_6 hst4) (xdBad.wb FS (xdBad.of3 (M := stpM M9 w9 b) ⟨st_S k9.1, k9.2.1, xdFr.refl _, hIS⟩ hx1 (sp_le tB_1 hP.1.2.2.2.1 hP.1.2.2.1))))
  · refine pv_then1 ?_
    refine pv_istore (pc := 12) (i := 5) (by decide) rfl (fm_dec dtX9_readStep 6 rfl) ?_
    dsimp only [List.set_cons_zero, List.set_cons_succ]
    rw [sk_sk hP.1.2.2.2.1 hP.1.2.2.1] at e9 b9
    refine pv_iload (pc := 14) (i := 5) rfl (fm_dec dtX9_readStep 7 rfl) ?_
    refine pv_iconst (pc := 16) (v := (-1)) (by decide) (fm_dec dtX9_readStep 8 rfl) ?_
    refine pv_icmp_eq (pc := 17) 30 (by decide) (fm_dec dtX9_readStep 9 rfl) (fun _ => ?_) (fun hc17 => by exfalso; revert hc17; decide)
    refine pv_iconst (pc := 30) (v := 0) (by decide) (fm_dec dtX9_readStep 14 rfl) ?_
    exact pv_zreturn (pc := 31) rfl (by first | exact Or.inr rfl | exact Or.inl rfl) (fm_dec dtX9_readStep 15 rfl) (hE.2 M9 1 (sk tx p) (bo_n (stK_no e9)) (xdBad.wb (k1.2.2.1.w b) b9))
set_option maxRecDepth 20000 in
theorem ws_loop {tx : tX} {n l F o : Nat} {lv op : Int32} (h0 : ∀ g, g + 1 < F → wG0 tx n l g) (ho6 : o ≤ 6) (hlv : lv.toInt = (l : Int)) (hl8 : l ≤ 8) (hop : op.toInt = (o : Int)) : ∀ (m i b p : Nat) (M : fmM) (Q : fmR → fmM → Prop) (ii : Int32), m ≤ F → ii.toInt = (i : Int) → 2 * i ≤ p → wPre M tx n p b → ¬ spSt tx l m 1 o b (sk tx p) = .inl (9, 0) → wE Q M tx n b (spSt tx l m 1 o b (sk tx p)) → pvEv Tx (8 + 3 * (6 - o)) qX9_readSteps 15 [some (.ref 28), some (.ref 1), some (.int lv), some (.int op), some (.int 93), some (.int ii)] [] M Q := by
  intro m
  induction m using Nat.strongRecOn with
  | _ m ih =>
    intro i b p M Q ii hmF hi hip hP hne hE
    have hpn := hP.1.2.2.1
    have hn := hP.2.2.2.2.2
    obtain ⟨f, rfl⟩ : ∃ f, m = f + 1 := (by cases m with | zero => exact absurd rfl hne | succ f => exact ⟨f, rfl⟩)
    refine pv_iload (pc := 15) (i := 5) rfl (fm_dec dtX9_readSteps 8 rfl) ?_
    refine pv_sipush (pc := 17) (v := 150) (by decide) (fm_dec dtX9_readSteps 9 rfl) ?_
    refine pv_icmp_ge (pc := 20) 61 (by decide) (fm_dec dtX9_readSteps 10 rfl) (fun hc20 => by exfalso; rw [sc_le] at hc20; have h9 : (150 : Int32).toInt = 150 := (by decide); omega) (fun _ => ?_)
    refine pv_aloadn (pc := 23) (n := 1) 1 rfl rfl (fm_dec dtX9_readSteps 11 rfl) ?_
    refine pv_invV0 (k := 1) (d' := 0) (pc := 24) pcv_X9_38 (by decide) rfl (Nat.le_of_ble_eq_true rfl) (by omega) (fm_dec dtX9_readSteps 12 rfl) ?_
    refine x_peek hP.1 hP.2.1 hP.2.2.1 (fun M24 v24 hv24 k24 => ?_)
    refine pv_then1 ?_
    refine pv_iload (pc := 27) (i := 4) rfl (fm_dec dtX9_readSteps 13 rfl) ?_
    refine pv_icmp_ne (pc := 29) 34 (by decide) (fm_dec dtX9_readSteps 14 rfl) (fun hc29 => ?_) (fun hc29 => ?_)
    · have ht : ¬ tx (sk tx p) = 93 := (fun h9 => hc29 (i32_ext (hv24.trans (h9.trans (by decide)))))
      obtain ⟨g, rfl⟩ : ∃ g, f = g + 1 := (by cases f with | zero => exact absurd (ss_b ht rfl) hne | succ g => exact ⟨g, rfl⟩)
      have ne38 : ¬ bOne tx l (fun q => spSt tx l g 1 (o + 1) (b + 1) q) o b (sk tx p) = .inl (9, 0) := (fun h9 => hne (ss_b ht (o_b1 h9)))
      refine pv_aloadn (pc := 34) (n := 0) 0 rfl rfl (fm_dec dtX9_readSteps 17 rfl) ?_
      refine pv_aloadn (pc := 35) (n := 1) 1 rfl rfl (fm_dec dtX9_readSteps 18 rfl) ?_
      refine pv_iloadn (pc := 36) (n := 2) 2 rfl rfl (fm_dec dtX9_readSteps 19 rfl) ?_
      refine pv_iloadn (pc := 37) (n := 3) 3 rfl rfl (fm_dec dtX9_readSteps 20 rfl) ?_
      refine pv_invV3 (k := 28) (d' := (7 + 3 * (6 - o))) (pc := 38) pcv_X9_44 (by decide) rfl (Nat.le_of_ble_eq_true rfl) (by omega) (fm_dec dtX9_readSteps 21 rfl) ?_
      refine h0 g (by omega) o b (sk tx p) M24 _ lv op ho6 (hP.xd k24 (sp_ge p)) hlv hl8 hop ne38 ⟨fun M38 s38 q38 e38 k38 => ?_, fun M38 kb ab e38 b38 => ?_⟩  
      · refine pv_then1 ?_
        refine pv_if_eq (pc := 41) 53 (by decide) (fm_dec dtX9_readSteps 22 rfl) (fun hc41 => by exfalso; revert hc41; decide) (fun _ => ?_)
        refine pv_aloadn (pc := 44) (n := 1) 1 rfl rfl (fm_dec dtX9_readSteps 23 rfl) ?_
        refine pv_bipush (pc := 45) (v := 59) (by decide) (fm_dec dtX9_readSteps 24 rfl) ?_
        refine pv_invV1 (k := 1) (d' := 1) (pc := 47) pcv_X9_47 (by decide) rfl (Nat.le_of_ble_eq_true rfl) (by omega) (fm_dec dtX9_readSteps 25 rfl) ?_
        refine x_signC 59 (by decide) (by decide) k38.1 k38.2.1 k38.2.2.1 (fun M47 q47 e47 k47 => ?_) (fun M47 kb ab e47 b47 => ?_)
        · refine pv_then1 ?_
          refine pv_if_ne (pc := 50) 55 (by decide) (fm_dec dtX9_readSteps 26 rfl) (fun _ => ?_) (fun hc50 => by exfalso; revert hc50; decide)
          refine pv_iincc (pc := 55) 5 1 (by decide) rfl (by decide) rfl (fm_dec dtX9_readSteps 29 rfl) ?_
          dsimp only [List.set_cons_zero, List.set_cons_succ]
          refine pv_goto (pc := 58) 15 (by decide) (fm_dec dtX9_readSteps 30 rfl) ?_
          have e0 := o_ok e38 e47
          have hsp : sk tx p ≤ n := sp_le tB_1 hP.1.2.2.2.1 hP.1.2.2.1
          have hge : p ≤ sk tx p := sp_ge p
          have l38 := spSt_len hP.1.2.2.2.1 _ _ _ _ _ _ _ hsp e0
          have l1 := l38.2.2 rfl
          have kS : wOk M M47 tx n q47 b s38 := (k38.pre k24.2.2.1).xd k47
          have eS := ss_s ht e0
          rw [eS] at hne
          exact ih (g + 1) (by omega) (i + 1) (b + s38.length) q47 M47 Q _ (by omega) (i32_p1 hi (by omega)) (by omega) (hP.next kS (by omega)) (spBind_ne hne) ⟨fun M2 ts q2 e2 k2 => hE.1 M2 _ q2 (by rw [eS, e2]; rfl) (kS.trans k2), fun M2 k a e2 k2 => hE.2 M2 k a (by rw [eS, e2]; rfl) (kS.bad k2)⟩
        · refine pv_then1 ?_
          refine pv_if_ne (pc := 50) 55 (by decide) (fm_dec dtX9_readSteps 26 rfl) (fun hc50 => by exfalso; revert hc50; decide) (fun _ => ?_)
          refine pv_iconst (pc := 53) (v := 0) (by decide) (fm_dec dtX9_readSteps 27 rfl) ?_
          exact pv_zreturn (pc := 54) rfl (by first | exact Or.inr rfl | exact Or.inl rfl) (fm_dec dtX9_readSteps 28 rfl) (hE.2 M47 kb ab (ss_b ht (o_b2 e38 e47)) ((k38.pre k24.2.2.1).xdb b47))
      · refine pv_then1 ?_
        refine pv_if_eq (pc := 41) 53 (by decide) (fm_dec dtX9_readSteps 22 rfl) (fun _ => ?_) (fun hc41 => by exfalso; revert hc41; decide)
        refine pv_iconst (pc := 53) (v := 0) (by decide) (fm_dec dtX9_readSteps 27 rfl) ?_
        exact pv_zreturn (pc := 54) rfl (by first | exact Or.inr rfl | exact Or.inl rfl) (fm_dec dtX9_readSteps 28 rfl) (hE.2 M38 kb ab (ss_b ht (o_b1 e38)) (wBad.pre (k24.2.2.1.w b) b38))
    · refine pv_iconst (pc := 32) (v := 1) (by decide) (fm_dec dtX9_readSteps 15 rfl) ?_
      exact pv_zreturn (pc := 33) rfl (by first | exact Or.inr rfl | exact Or.inl rfl) (fm_dec dtX9_readSteps 16 rfl) (hE.1 M24 [] (sk tx p) (ss_e (by rw [← hv24, hc29]; decide)) (hP.nil.xd k24))
set_option maxRecDepth 20000 in
theorem w1_G {tx : tX} {n l f : Nat} (h0 : ∀ g, g + 1 < f → wG0 tx n l g) : wG1 tx n l f := by
  intro o b p M Q lv op ho1 ho6 hP hlv hl8 hop hne hE
  refine pvGood_of (Nat.le_of_ble_eq_true rfl) ?_
  show pvEv Tx (8 + 3 * (6 - o)) qX9_readSteps 0 [some (.ref 28), some (.ref 1), some (.int lv), some (.int op), none, none] [] M Q
  refine pv_iloadn (pc := 0) (n := 3) 3 rfl rfl (fm_dec dtX9_readSteps 0 rfl) ?_
  refine pv_if_ne (pc := 1) 8 (by decide) (fm_dec dtX9_readSteps 1 rfl) (fun _ => ?_) (fun hc1 => by exfalso; have h9 := congrArg Int32.toInt hc1; have z0 : (0 : Int32).toInt = 0 := (by decide); omega)
  refine pv_bipush (pc := 8) (v := 93) (by decide) (fm_dec dtX9_readSteps 4 rfl) ?_
  refine pv_istore (pc := 10) (i := 4) (by decide) rfl (fm_dec dtX9_readSteps 5 rfl) ?_
  dsimp only [List.set_cons_zero, List.set_cons_succ]
  refine pv_iconst (pc := 12) (v := 0) (by decide) (fm_dec dtX9_readSteps 6 rfl) ?_
  refine pv_istore (pc := 13) (i := 5) (by decide) rfl (fm_dec dtX9_readSteps 7 rfl) ?_
  dsimp only [List.set_cons_zero, List.set_cons_succ]
  exact ws_loop h0 ho6 hlv hl8 hop f 0 b p M Q 0 (Nat.le_refl _) (by decide) (Nat.zero_le _) hP hne hE
theorem w_all {tx : tX} {n l : Nat} : ∀ f, wG0 tx n l f := by
  intro f
  induction f using Nat.strongRecOn with
  | _ f ih => exact w0_G (wa_G (w1_G (fun g hg => ih g (by omega))))
theorem wkl_0 {tx : tX} {n l f b p : Nat} (h : n ≤ p) : wkL tx n l (f + 1) b p = .inr [] := if_pos h
theorem wkl_b {tx : tX} {n l f b p : Nat} {e : Nat × Nat} (h : ¬ n ≤ p) (h1 : spSt tx l 400 0 0 b p = .inl e) : wkL tx n l (f + 1) b p = .inl e := by
  simp only [wkL]
  rw [if_neg h, h1]
theorem wkl_s {tx : tX} {n l f b p q : Nat} {ss ts : tS} (h : ¬ n ≤ p) (h1 : spSt tx l 400 0 0 b p = .inr (ss, q)) (h2 : wkL tx n l f (b + ss.length) (sk tx q) = .inr ts) : wkL tx n l (f + 1) b p = .inr (ss ++ ts) := by
  simp only [wkL]
  rw [if_neg h, h1]
  simp only
  rw [h2]
theorem wkl_t {tx : tX} {n l f b p q : Nat} {ss : tS} {e : Nat × Nat} (h : ¬ n ≤ p) (h1 : spSt tx l 400 0 0 b p = .inr (ss, q)) (h2 : wkL tx n l f (b + ss.length) (sk tx q) = .inl e) : wkL tx n l (f + 1) b p = .inl e := by
  simp only [wkL]
  rw [if_neg h, h1]
  simp only
  rw [h2]
def wEL (Q : fmR → fmM → Prop) (M : fmM) (tx : tX) (n b : Nat) (r : (Nat × Nat) ⊕ tS) : Prop := (∀ (M' : fmM) (ss : tS) (q : Nat), r = .inr ss → wOk M M' tx n q b ss → Q (.inl (some (.int 1))) M') ∧ ∀ (M' : fmM) (k a : Nat), r = .inl (k, a) → wBad M M' k a → Q (.inl (some (.int 0))) M'
set_option maxRecDepth 20000 in
theorem wt_loop {tx : tX} {n l : Nat} {lv : Int32} (hlv : lv.toInt = (l : Int)) (hl8 : l ≤ 8) : ∀ (m i b p : Nat) (M : fmM) (Q : fmR → fmM → Prop) (ii : Int32), ii.toInt = (i : Int) → 2 * i ≤ p → wPre M tx n p b → ¬ wkL tx n l m b (sk tx p) = .inl (9, 0) → wEL Q M tx n b (wkL tx n l m b (sk tx p)) → pvEv Tx (8 + 3 * (6 - 0)) qX9_readSteps 15 [some (.ref 28), some (.ref 1), some (.int lv), some (.int 0), some (.int (-1)), some (.int ii)] [] M Q := by
  intro m
  induction m with
  | zero => intro i b p M Q ii hi hip hP hne hE; exact absurd rfl hne
  | succ m ih =>
    intro i b p M Q ii hi hip hP hne hE
    have hpn := hP.1.2.2.1
    have hn := hP.2.2.2.2.2
    refine pv_iload (pc := 15) (i := 5) rfl (fm_dec dtX9_readSteps 8 rfl) ?_
    refine pv_sipush (pc := 17) (v := 150) (by decide) (fm_dec dtX9_readSteps 9 rfl) ?_
    refine pv_icmp_ge (pc := 20) 61 (by decide) (fm_dec dtX9_readSteps 10 rfl) (fun hc20 => by exfalso; rw [sc_le] at hc20; have h9 : (150 : Int32).toInt = 150 := (by decide); omega) (fun _ => ?_)
    refine pv_aloadn (pc := 23) (n := 1) 1 rfl rfl (fm_dec dtX9_readSteps 11 rfl) ?_
    refine pv_invV0 (k := 1) (d' := 0) (pc := 24) pcv_X9_38 (by decide) rfl (Nat.le_of_ble_eq_true rfl) (by decide) (fm_dec dtX9_readSteps 12 rfl) ?_
    refine x_peek hP.1 hP.2.1 hP.2.2.1 (fun M24 v24 hv24 k24 => ?_)
    refine pv_then1 ?_
    refine pv_iload (pc := 27) (i := 4) rfl (fm_dec dtX9_readSteps 13 rfl) ?_
    refine pv_icmp_ne (pc := 29) 34 (by decide) (fm_dec dtX9_readSteps 14 rfl) (fun hc29 => ?_) (fun hc29 => ?_)
    · have hnp : ¬ n ≤ sk tx p := (fun h9 => hc29 (i32_ext (by rw [hv24, hP.1.2.2.2.1.2.1 _ h9]; decide)))
      have ne38 : ¬ bOne tx l (fun q => spSt tx l 399 1 (0 + 1) (b + 1) q) 0 b (sk tx p) = .inl (9, 0) := (fun h9 => hne (wkl_b hnp (o_b1 h9)))
      refine pv_aloadn (pc := 34) (n := 0) 0 rfl rfl (fm_dec dtX9_readSteps 17 rfl) ?_
      refine pv_aloadn (pc := 35) (n := 1) 1 rfl rfl (fm_dec dtX9_readSteps 18 rfl) ?_
      refine pv_iloadn (pc := 36) (n := 2) 2 rfl rfl (fm_dec dtX9_readSteps 19 rfl) ?_
      refine pv_iloadn (pc := 37) (n := 3) 3 rfl rfl (fm_dec dtX9_readSteps 20 rfl) ?_
      refine pv_invV3 (k := 28) (d' := (7 + 3 * (6 - 0))) (pc := 38) pcv_X9_44 (by decide) rfl (Nat.le_of_ble_eq_true rfl) (by decide) (fm_dec dtX9_readSteps 21 rfl) ?_
      refine w_all 399 0 b (sk tx p) M24 _ lv 0 (by decide) (hP.xd k24 (sp_ge p)) hlv hl8 (by decide) ne38 ⟨fun M38 s38 q38 e38 k38 => ?_, fun M38 kb ab e38 b38 => ?_⟩  
      · refine pv_then1 ?_
        refine pv_if_eq (pc := 41) 53 (by decide) (fm_dec dtX9_readSteps 22 rfl) (fun hc41 => by exfalso; revert hc41; decide) (fun _ => ?_)
        refine pv_aloadn (pc := 44) (n := 1) 1 rfl rfl (fm_dec dtX9_readSteps 23 rfl) ?_
        refine pv_bipush (pc := 45) (v := 59) (by decide) (fm_dec dtX9_readSteps 24 rfl) ?_
        refine pv_invV1 (k := 1) (d' := 1) (pc := 47) pcv_X9_47 (by decide) rfl (Nat.le_of_ble_eq_true rfl) (by decide) (fm_dec dtX9_readSteps 25 rfl) ?_
        refine x_signC 59 (by decide) (by decide) k38.1 k38.2.1 k38.2.2.1 (fun M47 q47 e47 k47 => ?_) (fun M47 kb ab e47 b47 => ?_)
        · refine pv_then1 ?_
          refine pv_if_ne (pc := 50) 55 (by decide) (fm_dec dtX9_readSteps 26 rfl) (fun _ => ?_) (fun hc50 => by exfalso; revert hc50; decide)
          refine pv_iincc (pc := 55) 5 1 (by decide) rfl (by decide) rfl (fm_dec dtX9_readSteps 29 rfl) ?_
          dsimp only [List.set_cons_zero, List.set_cons_succ]
          refine pv_goto (pc := 58) 15 (by decide) (fm_dec dtX9_readSteps 30 rfl) ?_
          have e0 := o_ok e38 e47
          have hsp : sk tx p ≤ n := sp_le tB_1 hP.1.2.2.2.1 hP.1.2.2.1
          have hge : p ≤ sk tx p := sp_ge p
          have l38 := spSt_len hP.1.2.2.2.1 _ _ _ _ _ _ _ hsp e0
          have l1 := l38.2.2 rfl
          have kS : wOk M M47 tx n q47 b s38 := (k38.pre k24.2.2.1).xd k47
          exact ih (i + 1) (b + s38.length) q47 M47 Q _ (i32_p1 hi (by omega)) (by omega) (hP.next kS (by omega)) (fun h9 => hne (wkl_t hnp e0 h9)) ⟨fun M2 ts q2 e2 k2 => hE.1 M2 _ q2 (wkl_s hnp e0 e2) (kS.trans k2), fun M2 k a e2 k2 => hE.2 M2 k a (wkl_t hnp e0 e2) (kS.bad k2)⟩
        · refine pv_then1 ?_
          refine pv_if_ne (pc := 50) 55 (by decide) (fm_dec dtX9_readSteps 26 rfl) (fun hc50 => by exfalso; revert hc50; decide) (fun _ => ?_)
          refine pv_iconst (pc := 53) (v := 0) (by decide) (fm_dec dtX9_readSteps 27 rfl) ?_
          exact pv_zreturn (pc := 54) rfl (by first | exact Or.inr rfl | exact Or.inl rfl) (fm_dec dtX9_readSteps 28 rfl) (hE.2 M47 kb ab (wkl_b hnp (o_b2 e38 e47)) ((k38.pre k24.2.2.1).xdb b47))
      · refine pv_then1 ?_
        refine pv_if_eq (pc := 41) 53 (by decide) (fm_dec dtX9_readSteps 22 rfl) (fun _ => ?_) (fun hc41 => by exfalso; revert hc41; decide)
        refine pv_iconst (pc := 53) (v := 0) (by decide) (fm_dec dtX9_readSteps 27 rfl) ?_
        exact pv_zreturn (pc := 54) rfl (by first | exact Or.inr rfl | exact Or.inl rfl) (fm_dec dtX9_readSteps 28 rfl) (hE.2 M38 kb ab (wkl_b hnp (o_b1 e38)) (wBad.pre (k24.2.2.1.w b) b38))
    · refine pv_iconst (pc := 32) (v := 1) (by decide) (fm_dec dtX9_readSteps 15 rfl) ?_
      exact pv_zreturn (pc := 33) rfl (by first | exact Or.inr rfl | exact Or.inl rfl) (fm_dec dtX9_readSteps 16 rfl) (hE.1 M24 [] (sk tx p) (wkl_0 (by by_cases h9 : n ≤ sk tx p; exact h9; exfalso; have h8 := hP.1.2.2.2.1.2.2 (sk tx p) (by omega); rw [hc29] at hv24; have h7 : (-1 : Int32).toInt = -1 := (by decide); omega)) (hP.nil.xd k24))
set_option maxRecDepth 20000 in
theorem c_wsteps {M : fmM} {Q : fmR → fmM → Prop} {tx : tX} {n l : Nat} {lv : Int32} (hlv : lv.toInt = (l : Int)) (hl8 : l ≤ 8) (hP : wPre M tx n 0 0) (hE : wEL Q M tx n 0 (spWork tx n l)) : pvGood Tx (8 + 3 * (6 - 0)) qX9_readSteps [.ref 28, .ref 1, .int lv, .int 0] M Q := by
  refine pvGood_of (Nat.le_of_ble_eq_true rfl) ?_
  show pvEv Tx (8 + 3 * (6 - 0)) qX9_readSteps 0 [some (.ref 28), some (.ref 1), some (.int lv), some (.int 0), none, none] [] M Q
  refine pv_iloadn (pc := 0) (n := 3) 3 rfl rfl (fm_dec dtX9_readSteps 0 rfl) ?_
  refine pv_if_ne (pc := 1) 8 (by decide) (fm_dec dtX9_readSteps 1 rfl) (fun hc1 => by exfalso; revert hc1; decide) (fun _ => ?_)
  refine pv_iconst (pc := 4) (v := (-1)) (by decide) (fm_dec dtX9_readSteps 2 rfl) ?_
  refine pv_goto (pc := 5) 10 (by decide) (fm_dec dtX9_readSteps 3 rfl) ?_
  refine pv_istore (pc := 10) (i := 4) (by decide) rfl (fm_dec dtX9_readSteps 5 rfl) ?_
  dsimp only [List.set_cons_zero, List.set_cons_succ]
  refine pv_iconst (pc := 12) (v := 0) (by decide) (fm_dec dtX9_readSteps 6 rfl) ?_
  refine pv_istore (pc := 13) (i := 5) (by decide) rfl (fm_dec dtX9_readSteps 7 rfl) ?_
  dsimp only [List.set_cons_zero, List.set_cons_succ]
  have hs0 : sk tx 0 ≤ n := sp_le tB_1 hP.1.2.2.2.1 (Nat.zero_le _)
  exact wt_loop hlv hl8 700 0 0 0 M Q 0 (by decide) (Nat.zero_le _) hP (fun h9 => by have h8 := (wkL_bad (l := l) hP.1.2.2.2.1 hP.2.2.2.2.2 700 0 (sk tx 0) (9, 0) hs0 (by have := hP.2.2.2.2.2; omega) h9).1.2; exact absurd h8 (show ¬ 9 ≤ 3 by decide)) hE
set_option maxRecDepth 20000 in
theorem c_wread {M : fmM} {Q : fmR → fmM → Prop} {tx : tX} {n l : Nat} {lv : Int32} (hlv : lv.toInt = (l : Int)) (hl8 : l ≤ 8) (hS : xS2 M tx n 0) (hf : M.1 1 4 = 0) (hI : scInv Tx invX M) (hn : n ≤ 150) (hok : ∀ (M' : fmM) (ss : tS) (q : Nat), spWork tx n l = .inr ss → wOk (rdM M) M' tx n q 0 ss → Q (.inl (some (.int 1))) M') (hbad : ∀ (M' : fmM) (k a : Nat), spWork tx n l = .inl (k, a) → wBad (rdM M) M' k a → Q (.inl (some (.int 0))) M') : pvGood Tx 27 qX9_read [.ref 28, .ref 1, .int lv] M Q := by
  refine pvGood_of (Nat.le_of_ble_eq_true rfl) ?_
  show pvEv Tx 27 qX9_read 0 [some (.ref 28), some (.ref 1), some (.int lv)] [] M Q
  refine pv_aloadn (pc := 0) (n := 0) 0 rfl rfl (fm_dec dtX9_read 0 rfl) ?_
  refine pv_iconst (pc := 1) (v := 0) (by decide) (fm_dec dtX9_read 1 rfl) ?_
  refine pv_putI (k := 28) (j := 3) (ci := 9) (pc := 2) pfl_X9_21 (by decide) rfl (by decide) (fm_dec dtX9_read 2 rfl) ?_
  refine pv_aloadn (pc := 5) (n := 0) 0 rfl rfl (fm_dec dtX9_read 3 rfl) ?_
  refine pv_iconst (pc := 6) (v := 0) (by decide) (fm_dec dtX9_read 4 rfl) ?_
  refine pv_putI (k := 28) (j := 4) (ci := 9) (pc := 7) pfl_X9_25 (by decide) rfl (by decide) (fm_dec dtX9_read 5 rfl) ?_
  refine pv_aloadn (pc := 10) (n := 0) 0 rfl rfl (fm_dec dtX9_read 6 rfl) ?_
  refine pv_iconst (pc := 11) (v := 0) (by decide) (fm_dec dtX9_read 7 rfl) ?_
  refine pv_putI (k := 28) (j := 5) (ci := 9) (pc := 12) pfl_X9_28 (by decide) rfl (by decide) (fm_dec dtX9_read 8 rfl) ?_
  refine pv_aloadn (pc := 15) (n := 0) 0 rfl rfl (fm_dec dtX9_read 9 rfl) ?_
  refine pv_iconst (pc := 16) (v := 0) (by decide) (fm_dec dtX9_read 10 rfl) ?_
  refine pv_putI (k := 28) (j := 6) (ci := 9) (pc := 17) pfl_X9_31 (by decide) rfl (by decide) (fm_dec dtX9_read 11 rfl) ?_
  have hI2 : scInv Tx invX (rdM M) := inv_28 (inv_28 (xInv.put (xInv.put hI (by decide)) (by decide)) (Or.inl rfl)) (Or.inr rfl)
  have hP2 : wPre (rdM M) tx n 0 0 := ⟨hS.of rfl rfl rfl, hf, hI2, (show (0 : Int32).toInt = ((0 : Nat) : Int) by decide), Nat.le_refl _, hn⟩
  refine pv_aloadn (pc := 20) (n := 0) 0 rfl rfl (fm_dec dtX9_read 12 rfl) ?_
  refine pv_aloadn (pc := 21) (n := 1) 1 rfl rfl (fm_dec dtX9_read 13 rfl) ?_
  refine pv_iloadn (pc := 22) (n := 2) 2 rfl rfl (fm_dec dtX9_read 14 rfl) ?_
  refine pv_iconst (pc := 23) (v := 0) (by decide) (fm_dec dtX9_read 15 rfl) ?_
  refine pv_invV3 (k := 28) (d' := (8 + 3 * (6 - 0))) (pc := 24) pcv_X9_34 (by decide) rfl (Nat.le_of_ble_eq_true rfl) (by decide) (fm_dec dtX9_read 16 rfl) ?_
  refine c_wsteps (M := rdM M) hlv hl8 hP2 ⟨fun M24 s24 q24 e24 k24 => ?_, fun M24 kb ab e24 b24 => ?_⟩  
  · refine pv_then1 ?_
    exact pv_zreturn (pc := 27) rfl (by first | exact Or.inr rfl | exact Or.inl rfl) (fm_dec dtX9_read 17 rfl) (hok M24 s24 q24 e24 k24)
  · refine pv_then1 ?_
    exact pv_zreturn (pc := 27) rfl (by first | exact Or.inr rfl | exact Or.inl rfl) (fm_dec dtX9_read 17 rfl) (hbad M24 kb ab e24 b24)
