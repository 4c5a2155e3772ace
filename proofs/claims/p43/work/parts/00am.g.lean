-- P 10gg
section
-- THE CHECKER: one instruction is right
def scXk (X : scX) : Prop := pvLn (pvK X.2.2.2.2.1.1.cls) = X.2.2.1 ∧ ∀ q ∈ X.2.2.2.1, scClk X.1 X.2.1 X.2.2.2.2.1.1.cls q
abbrev scGoal (X : scX) (M0 : fmM) (ρ0 : List Int) (pc : Nat) (L : List (Option Value)) (st : List Value) (M : fmM) : Prop := pvEv X.1 X.2.2.2.2.2.1 X.2.2.2.2.1 pc L st M (scEnd X.1 X.2.1 X.2.2.2.2 ρ0 M0)
abbrev scHold (X : scX) (M0 : fmM) (s : scS) (σ : List Int) (L : List (Option Value)) (st : List Value) (M : fmM) : Prop := scOf X.1 X.2.1 (scW X) M0 s σ L st M
def scGoes (X : scX) (M0 : fmM) (ρ0 σ : List Int) (q : Nat × scS) : Prop := ∀ (τ : List Int) (L : List (Option Value)) (st : List Value) (M : fmM), scHold X M0 q.2 (σ ++ τ) L st M → scGoal X M0 ρ0 q.1 L st M
section ScInv
variable {σ : List Int} {S : List scV} {st : List Value}
theorem scSk_i {a : scA} (h : scSk σ (.inl a :: S) st) : ∃ (n : Int32) (st' : List Value), st = .int n :: st' ∧ scEv σ a n.toInt ∧ scSk σ S st' := by
  cases st with
  | nil => exact h.elim
  | cons w st =>
    obtain ⟨⟨n, e, h1⟩, h2⟩ := h
    exact ⟨n, st, by rw [e], h1, h2⟩
theorem scSk_j {o : scI} (h : scSk σ (.inr (.inl o) :: S) st) : ∃ (n : Int64) (st' : List Value), st = .long n :: st' ∧ (o.1 ≤ n.toInt ∧ n.toInt ≤ o.2) ∧ scSk σ S st' := by
  cases st with
  | nil => exact h.elim
  | cons w st =>
    obtain ⟨⟨n, e, h1⟩, h2⟩ := h
    exact ⟨n, st, by rw [e], h1, h2⟩
theorem scSk_r {ks : List Nat} (h : scSk σ (.inr (.inr (.inl ks)) :: S) st) : ∃ (k : Nat) (st' : List Value), k ∈ ks ∧ st = .ref k :: st' ∧ scSk σ S st' := by
  cases st with
  | nil => exact h.elim
  | cons w st =>
    obtain ⟨⟨k, hk, e⟩, h2⟩ := h
    exact ⟨k, st, hk, by rw [e], h2⟩
theorem scSk_q {r : List Nat ⊕ Nat} (h : scSk σ (.inr (.inr r) :: S) st) : ∃ (w : Nat) (st' : List Value), st = .ref w :: st' ∧ scVk σ (.inr (.inr r)) (.ref w) ∧ scSk σ S st' := by
  cases st with
  | nil => exact h.elim
  | cons w st =>
    obtain ⟨h1, h2⟩ := h
    cases r with
    | inl ks =>
      obtain ⟨k, hk, e⟩ := h1
      subst e
      exact ⟨_, st, rfl, ⟨k, hk, rfl⟩, h2⟩
    | inr i =>
      have e : w = .ref (1000 + i) := h1
      subst e
      exact ⟨_, st, rfl, rfl, h2⟩
theorem scSk_0 (h : scSk σ [] st) : st = [] := by
  cases st with
  | nil => rfl
  | cons => exact h.elim
theorem scSk_cat : ∀ {S : List scV} {st : List Value}, scSk σ S st → (st.map fun v => v.category).sum = scCat S
  | [], [], _ => rfl
  | .inl a :: S, w :: st, h => by
    obtain ⟨⟨n, e, _⟩, h2⟩ := h
    subst e
    have := scSk_cat h2
    simp only [List.map_cons, List.sum_cons, scCat, this]
    rfl
  | .inr (.inl a) :: S, w :: st, h => by
    obtain ⟨⟨n, e, _⟩, h2⟩ := h
    subst e
    have := scSk_cat h2
    simp only [List.map_cons, List.sum_cons, scCat, this]
    rfl
  | .inr (.inr (.inl a)) :: S, w :: st, h => by
    obtain ⟨⟨n, _, e⟩, h2⟩ := h
    subst e
    have := scSk_cat h2
    simp only [List.map_cons, List.sum_cons, scCat, this]
    rfl
  | .inr (.inr (.inr a)) :: S, w :: st, h => by
    obtain ⟨e, h2⟩ := h
    have e : w = .ref (1000 + a) := e
    subst e
    have := scSk_cat h2
    simp only [List.map_cons, List.sum_cons, scCat, this]
    rfl
  | [], _ :: _, h => h.elim
  | _ :: _, [], h => h.elim
theorem scLk.set {Λ : List (Option scV)} {L : List (Option Value)} {v : Option scV} {w : Option Value} (i : Nat) (h : scLk σ Λ L) (hv : scOk σ v w) : scLk σ (Λ.set i v) (L.set i w) := by
  refine ⟨by simp [h.1], fun j => ?_⟩
  simp only [List.getD, List.getElem?_set]
  by_cases e : i = j
  · subst e
    simp only [if_true]
    by_cases hl : i < Λ.length
    · have hl2 : i < L.length := by rw [← h.1]; exact hl
      simp only [hl, hl2, if_true, Option.getD_some]
      exact hv
    · have hl2 : ¬ i < L.length := by rw [← h.1]; exact hl
      simp [hl, hl2, scOk]
  · simp only [e, if_false]
    exact h.2 j
theorem sc_getD {L : List (Option Value)} {i : Nat} {w : Value} (h : L.getD i none = some w) : L[i]? = some (some w) := by
  simp only [List.getD] at h
  cases hL : L[i]? with
  | none => rw [hL] at h; simp at h
  | some q => rw [hL] at h; simp at h; rw [h]
theorem scLk.kill {Λ : List (Option scV)} {L : List (Option Value)} {i : Nat} (h : scLk σ Λ L) (hn : scNo2 Λ i = true) : scLk σ Λ (pvKill L i) := by
  cases i with
  | zero => exact h
  | succ j =>
    simp only [pvKill]
    split
    · exact h
    · rename_i hk
      refine ⟨by simp [h.1], fun i => ?_⟩
      simp only [List.getD, List.getElem?_set]
      by_cases e : j = i
      · subst e
        simp only [if_true]
        have hj := h.2 j
        simp only [scNo2] at hn
        cases hΛ : Λ.getD j none with
        | none =>
          simp only [List.getD] at hΛ
          rw [hΛ]
          exact trivial
        | some u =>
          exfalso
          apply hk
          simp only [fmNo2]
          split
          · rename_i v hv
            have ev : L.getD j none = some v := by simp [List.getD, hv]
            rw [hΛ, ev] at hj
            rw [hΛ] at hn
            match u, hj with
            | .inl a, ⟨n, e, _⟩ => subst e; rfl
            | .inr (.inl o), _ => cases hn
            | .inr (.inr (.inl ks)), ⟨k, _, e⟩ => subst e; rfl
            | .inr (.inr (.inr q)), e => have e : v = .ref (1000 + q) := e; subst e; rfl
          · rfl
      · simp only [e, if_false]
        have := h.2 i
        simp only [List.getD] at this
        exact this
end ScInv
theorem scCutL_ok {c : scCo} {env : List scI} {σ : List Int} {a b : scA} {x z : Int} (h : scEk env σ) (ha : scEv σ a x) (hb : scEv σ b z) (hr : scRel c x z) : ∃ env' ∈ scCutL c env a b, scEk env' σ := by
  unfold scCutL
  split
  · rename_i hc
    simp only [Bool.and_eq_true, decide_eq_true_eq] at hc
    obtain ⟨⟨c1, c2⟩, c3⟩ := hc
    subst c1
    have ia := ha.iv h
    have ib := hb.iv h
    rw [c2] at ib
    rw [c3] at ia
    simp only [scTop] at ia ib
    have hr' : ¬ x = z := hr
    rcases (show x ≤ -1 ∨ 1 ≤ x by omega) with h1 | h1
    · obtain ⟨e, q1, q2⟩ := scCut_ok (lo := -2147483648) (hi := -1) h ha (by omega) h1
      exact ⟨e, List.mem_append_left _ (by rw [q1]; exact List.mem_cons_self), q2⟩
    · obtain ⟨e, q1, q2⟩ := scCut_ok (lo := 1) (hi := 2147483647) h ha h1 (by omega)
      exact ⟨e, List.mem_append_right _ (by rw [q1]; exact List.mem_cons_self), q2⟩
  · obtain ⟨e, q1, q2⟩ := scCutC_ok h ha hb hr
    exact ⟨e, by rw [q1]; exact List.mem_cons_self, q2⟩
section ScRows
variable {X : scX} {M0 : fmM} {ρ0 σ : List Int} {s : scS} {L : List (Option Value)} {st : List Value} {M : fmM} {pc pc' : Nat} {succs : List (Nat × scS)}
theorem scOne_ok {s' : scS} (h : scOne pc s' = some succs) (k : ∀ q ∈ succs, scGoes X M0 ρ0 σ q) {τ : List Int} {L' : List (Option Value)} {st' : List Value} {M' : fmM} (hs : scHold X M0 s' (σ ++ τ) L' st' M') : scGoal X M0 ρ0 pc L' st' M' := by
  cases h
  exact k (pc, s') List.mem_cons_self τ L' st' M' hs
theorem scVals_ok {S : List scV} {st' : List Value} (hs : scHold X M0 s σ L st M) (h : scVals pc s S = some succs) (k : ∀ q ∈ succs, scGoes X M0 ρ0 σ q) (hS : scSk σ S st') : scGoal X M0 ρ0 pc L st' M := by
  obtain ⟨h1, h2, h3, h4, h5, h6⟩ := hs
  refine scOne_ok (s' := (s.1, s.2.1, S, s.2.2.2)) h k (τ := []) ?_
  rw [List.append_nil]
  exact ⟨h1, h2, hS, h4, h5, h6⟩
theorem scPush_ok {S : List scV} {st' : List Value} {r : scR} {x : Int32} (hs : scHold X M0 s σ L st M) (h : scPush pc s S r = some succs) (k : ∀ q ∈ succs, scGoes X M0 ρ0 σ q) (hS : scSk σ S st') (hn : scNk s.1 σ r x.toInt) : scGoal X M0 ρ0 pc L (.int x :: st') M := by
  obtain ⟨h1, h2, h3, h4, h5, h6⟩ := hs
  obtain ⟨τ, hn1, hn2⟩ := hn
  exact scOne_ok (s' := (r.2, s.2.1, .inl r.1 :: S, s.2.2.2)) h k (τ := τ) ⟨hn1, h2.mono, ⟨⟨x, rfl, hn2⟩, hS.mono⟩, h4.mono, h5, h6⟩
theorem scBin_ok {f : List scI → scA → scA → scR} {op : Int32 → Int32 → Int32} (hs : scHold X M0 s σ L st M) (h : scBin pc' s f = some succs) (k : ∀ q ∈ succs, scGoes X M0 ρ0 σ q) (hf : ∀ {a b : scA} {x z : Int32}, scEv σ a x.toInt → scEv σ b z.toInt → scNk s.1 σ (f s.1 a b) (op x z).toInt) (row : ∀ (x z : Int32) (st : List Value), scGoal X M0 ρ0 pc' L (.int (op x z) :: st) M → scGoal X M0 ρ0 pc L (.int z :: .int x :: st) M) : scGoal X M0 ρ0 pc L st M := by
  unfold scBin at h
  split at h
  · rename_i b a S e
    have h3 := hs.2.2.1
    rw [e] at h3
    obtain ⟨z, st1, e1, hz, q1⟩ := scSk_i h3
    obtain ⟨x, st2, e2, hx, q2⟩ := scSk_i q1
    subst e2
    subst e1
    exact row x z st2 (scPush_ok hs h k q2 (hf hx hz))
  · cases h
theorem scBinT_ok {op : Int32 → Int32 → Int32} (hs : scHold X M0 s σ L st M) (h : scBinT pc' s = some succs) (k : ∀ q ∈ succs, scGoes X M0 ρ0 σ q) (row : ∀ (x z : Int32) (st : List Value), scGoal X M0 ρ0 pc' L (.int (op x z) :: st) M → scGoal X M0 ρ0 pc L (.int z :: .int x :: st) M) : scGoal X M0 ρ0 pc L st M := by
  unfold scBinT at h
  split at h
  · rename_i b a S e
    have h3 := hs.2.2.1
    rw [e] at h3
    obtain ⟨z, st1, e1, hz, q1⟩ := scSk_i h3
    obtain ⟨x, st2, e2, hx, q2⟩ := scSk_i q1
    subst e2
    subst e1
    exact row x z st2 (scPush_ok hs h k q2 (scNk.top _ hs.1))
  · cases h
theorem scLong2_ok {op : Int64 → Int64 → Int64} (hs : scHold X M0 s σ L st M) (h : scLong2 pc' s = some succs) (k : ∀ q ∈ succs, scGoes X M0 ρ0 σ q) (row : ∀ (x z : Int64) (st : List Value), scGoal X M0 ρ0 pc' L (.long (op x z) :: st) M → scGoal X M0 ρ0 pc L (.long z :: .long x :: st) M) : scGoal X M0 ρ0 pc L st M := by
  unfold scLong2 at h
  split at h
  · rename_i b a S e
    have h3 := hs.2.2.1
    rw [e] at h3
    obtain ⟨z, st1, e1, hz, q1⟩ := scSk_j h3
    obtain ⟨x, st2, e2, hx, q2⟩ := scSk_j q1
    subst e2
    subst e1
    exact row x z st2 (scVals_ok hs h k ⟨⟨_, rfl, scq_l _⟩, q2⟩)
  · cases h
theorem scLoad_ok {i t : Nat} (hs : scHold X M0 s σ L st M) (h : scLoad pc' s i t = some succs) (k : ∀ q ∈ succs, scGoes X M0 ρ0 σ q) (rI : t = 0 → ∀ x : Int32, L[i]? = some (some (.int x)) → scGoal X M0 ρ0 pc' L (.int x :: st) M → scGoal X M0 ρ0 pc L st M) (rJ : t = 1 → ∀ x : Int64, L[i]? = some (some (.long x)) → scGoal X M0 ρ0 pc' L (.long x :: st) M → scGoal X M0 ρ0 pc L st M) (rR : t = 2 → ∀ x : Nat, L[i]? = some (some (.ref x)) → scGoal X M0 ρ0 pc' L (.ref x :: st) M → scGoal X M0 ρ0 pc L st M) : scGoal X M0 ρ0 pc L st M := by
  have hl := hs.2.1.2 i
  unfold scLoad at h
  split at h
  · rename_i a e
    rw [e] at hl
    split at h
    · rename_i ht
      cases hL : L.getD i none with
      | none => rw [hL] at hl; exact hl.elim
      | some w =>
        rw [hL] at hl
        obtain ⟨n, e1, hn⟩ := hl
        subst e1
        exact rI (by simpa using ht) n (sc_getD hL) (scVals_ok hs h k ⟨⟨n, rfl, hn⟩, hs.2.2.1⟩)
    · cases h
  · rename_i a e
    rw [e] at hl
    split at h
    · rename_i ht
      cases hL : L.getD i none with
      | none => rw [hL] at hl; exact hl.elim
      | some w =>
        rw [hL] at hl
        obtain ⟨n, e1, hn⟩ := hl
        subst e1
        exact rJ (by simpa using ht) n (sc_getD hL) (scVals_ok hs h k ⟨⟨n, rfl, hn⟩, hs.2.2.1⟩)
    · cases h
  · rename_i a e
    rw [e] at hl
    split at h
    · rename_i ht
      cases hL : L.getD i none with
      | none => rw [hL] at hl; exact hl.elim
      | some w =>
        rw [hL] at hl
        have hl' : scSk σ (.inr (.inr a) :: s.2.2.1) (w :: st) := ⟨hl, hs.2.2.1⟩
        obtain ⟨v, st', e1, hv, h3⟩ := scSk_q hl'
        injection e1 with e1 e2
        subst e1
        exact rR (by simpa using ht) v (sc_getD hL) (scVals_ok hs h k hl')
    · cases h
  · cases h
theorem scStor_ok {n i t : Nat} (hs : scHold X M0 s σ L st M) (h : scStor n pc' s i t = some succs) (k : ∀ q ∈ succs, scGoes X M0 ρ0 σ q) (rI : t = 0 → i < n → ∀ (x : Int32) (st' : List Value), scGoal X M0 ρ0 pc' ((pvKill L i).set i (some (.int x))) st' M → scGoal X M0 ρ0 pc L (.int x :: st') M) (rJ : t = 1 → i + 1 < n → ∀ (x : Int64) (st' : List Value), scGoal X M0 ρ0 pc' (((pvKill L i).set i (some (.long x))).set (i + 1) none) st' M → scGoal X M0 ρ0 pc L (.long x :: st') M) (rR : t = 2 → i < n → ∀ (x : Nat) (st' : List Value), scGoal X M0 ρ0 pc' ((pvKill L i).set i (some (.ref x))) st' M → scGoal X M0 ρ0 pc L (.ref x :: st') M) : scGoal X M0 ρ0 pc L st M := by
  obtain ⟨h1, h2, h3, h4, h5, h6⟩ := id hs
  unfold scStor at h
  split at h
  · rename_i hn
    have h2 := h2.kill hn
    split at h
    · rename_i a S e
      rw [e] at h3
      obtain ⟨x, st1, e1, hx, q3⟩ := scSk_i h3
      subst e1
      split at h
      · rename_i ht
        simp only [Bool.and_eq_true, Nat.beq_eq, Nat.blt_eq] at ht
        refine rI ht.1 ht.2 x st1 (scOne_ok h k (τ := []) ?_)
        rw [List.append_nil]
        exact ⟨h1, h2.set i (v := some (.inl a)) (w := some (.int x)) ⟨x, rfl, hx⟩, q3, h4, h5, h6⟩
      · cases h
    · rename_i a S e
      rw [e] at h3
      obtain ⟨x, st1, e1, hx, q3⟩ := scSk_j h3
      subst e1
      split at h
      · rename_i ht
        simp only [Bool.and_eq_true, Nat.beq_eq, Nat.blt_eq] at ht
        refine rJ ht.1 ht.2 x st1 (scOne_ok h k (τ := []) ?_)
        rw [List.append_nil]
        exact ⟨h1, (h2.set i (v := some (.inr (.inl a))) (w := some (.long x)) ⟨x, rfl, hx⟩).set (i + 1) trivial, q3, h4, h5, h6⟩
      · cases h
    · rename_i a S e
      rw [e] at h3
      obtain ⟨x, st1, e1, hx, q3⟩ := scSk_q h3
      subst e1
      split at h
      · rename_i ht
        simp only [Bool.and_eq_true, Nat.beq_eq, Nat.blt_eq] at ht
        refine rR ht.1 ht.2 x st1 (scOne_ok h k (τ := []) ?_)
        rw [List.append_nil]
        exact ⟨h1, h2.set i (v := some (.inr (.inr a))) (w := some (.ref x)) hx, q3, h4, h5, h6⟩
      · cases h
    · cases h
  · cases h
theorem sc_br {c : scCo} {off : Int} {a b : scA} {S : List scV} {st' : List Value} {x z : Int} (hs : scHold X M0 s σ L st M) (h : scCond pc c off s S a b = some succs) (k : ∀ q ∈ succs, scGoes X M0 ρ0 σ q) (hS : scSk σ S st') (ha : scEv σ a x) (hb : scEv σ b z) : (∃ tgt : Nat, (pc : Int) + off = (tgt : Int) ∧ (scRel c x z → scGoal X M0 ρ0 tgt L st' M)) ∧ (scRel (scNeg c) x z → scGoal X M0 ρ0 (pc + 3) L st' M) := by
  obtain ⟨h1, h2, h3, h4, h5, h6⟩ := hs
  unfold scCond at h
  split at h
  · rename_i ho
    simp only [decide_eq_true_eq] at ho
    cases h
    refine ⟨⟨((pc : Int) + off).toNat, by omega, fun hr => ?_⟩, fun hr => ?_⟩
    · obtain ⟨e, q1, q2⟩ := scCutL_ok h1 ha hb hr
      refine k (((pc : Int) + off).toNat, (e, s.2.1, S, s.2.2.2)) (List.mem_append_left _ (List.mem_map.mpr ⟨e, q1, rfl⟩)) [] L st' M ?_
      rw [List.append_nil]
      exact ⟨q2, h2, hS, h4, h5, h6⟩
    · obtain ⟨e, q1, q2⟩ := scCutL_ok h1 ha hb hr
      refine k (pc + 3, (e, s.2.1, S, s.2.2.2)) (List.mem_append_right _ (List.mem_map.mpr ⟨e, q1, rfl⟩)) [] L st' M ?_
      rw [List.append_nil]
      exact ⟨q2, h2, hS, h4, h5, h6⟩
  · cases h
end ScRows
end
