-- P 10gg
section
-- THE CHECKER: one instruction is right
def scXk (X : scX) : Prop := pvLn (pvK X.2.2.2.2.1.1.cls) = X.2.2.1 ∧ ∀ q ∈ X.2.2.2.1, scClk X.1 X.2.1 X.2.2.2.2.1.1.cls q
abbrev scGoal (X : scX) (M0 : fmM) (ρ0 : List Int) (pc : Nat) (L : List (Option Value)) (st : List Value) (M : fmM) : Prop := pvEv X.1 X.2.2.2.2.2.1 X.2.2.2.2.1 pc L st M (scEnd X.1 X.2.1 X.2.2.2.2 ρ0 M0)
abbrev scHold (X : scX) (M0 : fmM) (s : scS) (σ : List Int) (L : List (Option Value)) (st : List Value) (M : fmM) : Prop := scOf X.1 X.2.1 (scW X) M0 s σ L st M
def scGoes (X : scX) (M0 : fmM) (ρ0 σ : List Int) (q : Nat × scS) : Prop := ∀ (τ : List Int) (L : List (Option Value)) (st : List Value) (M : fmM), scHold X M0 q.2 (σ ++ τ) L st M → scGoal X M0 ρ0 q.1 L st M
section ScInv
variable {σ : List Int} {S : List scV} {st : List Value}
theorem scSk_i {a : scA} (h : scSk σ (.inl a :: S) st) : ∃ (n : Int32) (st' : List Value), st = .int n :: st' ∧ scEv σ a n.toInt ∧ scSk σ S st' := by
  cases st with
  | nil => exact h.elim
  | cons w st =>
    obtain ⟨⟨n, e, h1⟩, h2⟩ := h
    exact ⟨n, st, by rw [e], h1, h2⟩
theorem scSk_j {o : scI} (h : scSk σ (.inr (.inl o) :: S) st) : ∃ (n : Int64) (st' : List Value), st = .long n :: st' ∧ (o.1 ≤ n.toInt ∧ n.toInt ≤ o.2) ∧ scSk σ S st' := by
  cases st with
  | nil => exact h.elim
  | cons w st =>
    obtain ⟨⟨n, e, h1⟩, h2⟩ := h
    exact ⟨n, st, by rw [e], h1, h2⟩
theorem scSk_r {ks : List Nat} (h : scSk σ (.inr (.inr (.inl ks)) :: S) st) : ∃ (k : Nat) (st' : List Value), k ∈ ks ∧ st = .ref k :: st' ∧ scSk σ S st' := by
  cases st with
  | nil => exact h.elim
  | cons w st =>
    obtain ⟨⟨k, hk, e⟩, h2⟩ := h
    exact ⟨k, st, hk, by rw [e], h2⟩
theorem scSk_q {r : List Nat ⊕ Nat} (h : scSk σ (.inr (.inr r) :: S) st) : ∃ (w : Nat) (st' : List Value), st = .ref w :: st' ∧ scVk σ (.inr (.inr r)) (.ref w) ∧ scSk σ S st' := by
  cases st with
  | nil => exact h.elim
  | cons w st =>
    obtain ⟨h1, h2⟩ := h
    cases r with
    | inl ks =>
      obtain ⟨k, hk, e⟩ := h1
      subst e
      exact ⟨_, st, rfl, ⟨k, hk, rfl⟩, h2⟩
    | inr i =>
      have e : w = .ref (1000 + i) := h1
      subst e
      exact ⟨_, st, rfl, rfl, h2⟩
theorem scSk_0 (h : scSk σ [] st) : st = [] := by
  cases st with
  | nil => rfl
  | cons => exact h.elim
theorem scSk_cat : ∀ {S : List scV} {st : List Value}, scSk σ S st → (st.map fun v => v.category).sum = scCat S
  | [], [], _ => rfl
  | .inl a :: S, w :: st, h => by
    obtain ⟨⟨n, e, _⟩, h2⟩ := h
    subst e
    have := scSk_cat h2
    simp only [List.map_cons, List.sum_cons, scCat, this]
    rfl
  | .inr (.inl a) :: S, w :: st, h => by
    obtain ⟨⟨n, e, _⟩, h2⟩ := h
    subst e
    have := scSk_cat h2
    simp only [List.map_cons, List.sum_cons, scCat, this]
    rfl
  | .inr (.inr (.inl a)) :: S, w :: st, h => by
    obtain ⟨⟨n, _, e⟩, h2⟩ := h
    subst e
    have := scSk_cat h2
    simp only [List.map_cons, List.sum_cons, scCat, this]
    rfl
  | .inr (.inr (.inr a)) :: S, w :: st, h => by
    obtain ⟨e, h2⟩ := h
    have e : w = .ref (1000 + a) := e
    subst e
    have := scSk_cat h2
    simp only [List.map_cons, List.sum_cons, scCat, this]
    rfl
  | [], _ :: _, h => h.elim
  | _ :: _, [], h => h.elim
theorem scLk.set {Λ : List (Option scV)} {L : List (Option Value)} {v : Option scV} {w : Option Value} (i : Nat) (h : scLk σ Λ L) (hv : scOk σ v w) : scLk σ (Λ.set i v) (L.set i w) := by
  refine ⟨by simp [h.1], fun j => ?_⟩
  simp only [List.getD, List.getElem?_set]
  by_cases e : i = j
  · subst e
    simp only [if_true]
    by_cases hl : i < Λ.length
    · have hl2 : i < L.length := by rw [← h.1]; exact hl
      simp only [hl, hl2, if_true, Option.getD_some]
      exact hv
    · have hl2 : ¬ i < L.length := by rw [← h.1]; exact hl
      simp [hl, hl2, scOk]
  · simp only [e, if_false]
    exact h.2 j
theorem sc_getD {L : List (Option Value)} {i : Nat} {w : Value} (h : L.getD i none = some w) : L[i]? = some (some w) := by
  simp only [List.getD] at h
  cases hL : L[i]? with
  | none => rw [hL] at h; simp at h
  | some q => rw [hL] at h; simp at h; rw [h]
theorem scLk.kill {Λ : List (Option scV)} {L : List (Option Value)} {i : Nat} (h : scLk σ Λ L) (hn : scNo2 Λ i = true) : scLk σ Λ (pvKill L i) := by
  cases i with
  | zero => exact h
  | succ j =>
    simp only [pvKill]
    split
    · exact h
    · rename_i hk
      refine ⟨by simp [h.1], fun i => ?_⟩
      simp only [List.getD, List.getElem?_set]
      by_cases e : j = i
      · subst e
        simp only [if_true]
        have hj := h.2 j
        simp only [scNo2] at hn
        cases hΛ : Λ.getD j none with
        | none =>
          simp only [List.getD] at hΛ
          rw [hΛ]
          exact trivial
        | some u =>
          exfalso
          apply hk
          simp only [fmNo2]
          split
          · rename_i v hv
            have ev : L.getD j none = some v := by simp [List.getD, hv]
            rw [hΛ, ev] at hj
            rw [hΛ] at hn
            match u, hj with
            | .inl a, ⟨n, e, _⟩ => subst e; rfl
            | .inr (.inl o), _ => cases hn
            | .inr (.inr (.inl ks)), ⟨k, _, e⟩ => subst e; rfl
            | .inr (.inr (.inr q)), e => have e : v = .ref (1000 + q) := e; subst e; rfl
          · rfl
      · simp only [e, if_false]
        have := h.2 i
        simp only [List.getD] at this
        exact this
end ScInv
theorem scCutL_ok {c : scCo} {env : List scI} {σ : List Int} {a b : scA} {x z : Int} (h : scEk env σ) (ha : scEv σ a x) (hb : scEv σ b z) (hr : scRel c x z) : ∃ env' ∈ scCutL c env a b, scEk env' σ := by
  unfold scCutL
  split
  · rename_i hc
    simp only [Bool.and_eq_true, decide_eq_true_eq] at hc
    obtain ⟨⟨c1, c2⟩, c3⟩ := hc
    subst c1
    have ia := ha.iv h
    have ib := hb.iv h
    rw [c2] at ib
    rw [c3] at ia
    simp only [scTop] at ia ib
    have hr' : ¬ x = z := hr
    rcases (show x ≤ -1 ∨ 1 ≤ x by omega) with h1 | h1
    · obtain ⟨e, q1, q2⟩ := scCut_ok (lo := -2147483648) (hi := -1) h ha (by omega) h1
      exact ⟨e, List.mem_append_left _ (by rw [q1]; exact List.mem_cons_self), q2⟩
    · obtain ⟨e, q1, q2⟩ := scCut_ok (lo := 1) (hi := 2147483647) h ha h1 (by omega)
      exact ⟨e, List.mem_append_right _ (by rw [q1]; exact List.mem_cons_self), q2⟩
  · obtain ⟨e, q1, q2⟩ := scCutC_ok h ha hb hr
    exact ⟨e, by rw [q1]; exact List.mem_cons_self, q2⟩
section ScRows
variable {X : scX} {M0 : fmM} {ρ0 σ : List Int} {s : scS} {L : List (Option Value)} {st : List Value} {M : fmM} {pc pc' : Nat} {succs : List (Nat × scS)}
theorem scOne_ok {s' : scS} (h : scOne pc s' = some succs) (k : ∀ q ∈ succs, scGoes X M0 ρ0 σ q) {τ : List Int} {L' : List (Option Value)} {st' : List Value} {M' : fmM} (hs : scHold X M0 s' (σ ++ τ) L' st' M') : scGoal X M0 ρ0 pc L' st' M' := by
  cases h
  exact k (pc, s') List.mem_cons_self τ L' st' M' hs
theorem scVals_ok {S : List scV} {st' : List Value} (hs : scHold X M0 s σ L st M) (h : scVals pc s S = some succs) (k : ∀ q ∈ succs, scGoes X M0 ρ0 σ q) (hS : scSk σ S st') : scGoal X M0 ρ0 pc L st' M := by
  obtain ⟨h1, h2, h3, h4, h5, h6⟩ := hs
  refine scOne_ok (s' := (s.1, s.2.1, S, s.2.2.2)) h k (τ := []) ?_
  rw [List.append_nil]
  exact ⟨h1, h2, hS, h4, h5, h6⟩
theorem scPush_ok {S : List scV} {st' : List Value} {r : scR} {x : Int32} (hs : scHold X M0 s σ L st M) (h : scPush pc s S r = some succs) (k : ∀ q ∈ succs, scGoes X M0 ρ0 σ q) (hS : scSk σ S st') (hn : scNk s.1 σ r x.toInt) : scGoal X M0 ρ0 pc L (.int x :: st') M := by
  obtain ⟨h1, h2, h3, h4, h5, h6⟩ := hs
  obtain ⟨τ, hn1, hn2⟩ := hn
  exact scOne_ok (s' := (r.2, s.2.1, .inl r.1 :: S, s.2.2.2)) h k (τ := τ) ⟨hn1, h2.mono, ⟨⟨x, rfl, hn2⟩, hS.mono⟩, h4.mono, h5, h6⟩
theorem scBin_ok {f : List scI → scA → scA → scR} {op : Int32 → Int32 → Int32} (hs : scHold X M0 s σ L st M) (h : scBin pc' s f = some succs) (k : ∀ q ∈ succs, scGoes X M0 ρ0 σ q) (hf : ∀ {a b : scA} {x z : Int32}, scEv σ a x.toInt → scEv σ b z.toInt → scNk s.1 σ (f s.1 a b) (op x z).toInt) (row : ∀ (x z : Int32) (st : List Value), scGoal X M0 ρ0 pc' L (.int (op x z) :: st) M → scGoal X M0 ρ0 pc L (.int z :: .int x :: st) M) : scGoal X M0 ρ0 pc L st M := by
  unfold scBin at h
  split at h
  · rename_i b a S e
    have h3 := hs.2.2.1
    rw [e] at h3
    obtain ⟨z, st1, e1, hz, q1⟩ := scSk_i h3
    obtain ⟨x, st2, e2, hx, q2⟩ := scSk_i q1
    subst e2
    subst e1
    exact row x z st2 (scPush_ok hs h k q2 (hf hx hz))
  · cases h
theorem scBinT_ok {op : Int32 → Int32 → Int32} (hs : scHold X M0 s σ L st M) (h : scBinT pc' s = some succs) (k : ∀ q ∈ succs, scGoes X M0 ρ0 σ q) (row : ∀ (x z : Int32) (st : List Value), scGoal X M0 ρ0 pc' L (.int (op x z) :: st) M → scGoal X M0 ρ0 pc L (.int z :: .int x :: st) M) : scGoal X M0 ρ0 pc L st M := by
  unfold scBinT at h
  split at h
  · rename_i b a S e
    have h3 := hs.2.2.1
    rw [e] at h3
    obtain ⟨z, st1, e1, hz, q1⟩ := scSk_i h3
    obtain ⟨x, st2, e2, hx, q2⟩ := scSk_i q1
    subst e2
    subst e1
    exact row x z st2 (scPush_ok hs h k q2 (scNk.top _ hs.1))
  · cases h
theorem scLong2_ok {op : Int64 → Int64 → Int64} (hs : scHold X M0 s σ L st M) (h : scLong2 pc' s = some succs) (k : ∀ q ∈ succs, scGoes X M0 ρ0 σ q) (row : ∀ (x z : Int64) (st : List Value), scGoal X M0 ρ0 pc' L (.long (op x z) :: st) M → scGoal X M0 ρ0 pc L (.long z :: .long x :: st) M) : scGoal X M0 ρ0 pc L st M := by
  unfold scLong2 at h
  split at h
  · rename_i b a S e
    have h3 := hs.2.2.1
    rw [e] at h3
    obtain ⟨z, st1, e1, hz, q1⟩ := scSk_j h3
    obtain ⟨x, st2, e2, hx, q2⟩ := scSk_j q1
    subst e2
    subst e1
    exact row x z st2 (scVals_ok hs h k ⟨⟨_, rfl, scq_l _⟩, q2⟩)
  · cases h
theorem scLoad_ok {i t : Nat} (hs : scHold X M0 s σ L st M) (h : scLoad pc' s i t = some succs) (k : ∀ q ∈ succs, scGoes X M0 ρ0 σ q) (rI : t = 0 → ∀ x : Int32, L[i]? = some (some (.int x)) → scGoal X M0 ρ0 pc' L (.int x :: st) M → scGoal X M0 ρ0 pc L st M) (rJ : t = 1 → ∀ x : Int64, L[i]? = some (some (.long x)) → scGoal X M0 ρ0 pc' L (.long x :: st) M → scGoal X M0 ρ0 pc L st M) (rR : t = 2 → ∀ x : Nat, L[i]? = some (some (.ref x)) → scGoal X M0 ρ0 pc' L (.ref x :: st) M → scGoal X M0 ρ0 pc L st M) : scGoal X M0 ρ0 pc L st M := by
  have hl := hs.2.1.2 i
  unfold scLoad at h
  split at h
  · rename_i a e
    rw [e] at hl
    split at h
    · rename_i ht
      cases hL : L.getD i none with
      | none => rw [hL] at hl; exact hl.elim
      | some w =>
        rw [hL] at hl
        obtain ⟨n, e1, hn⟩ := hl
        subst e1
        exact rI (by simpa using ht) n (sc_getD hL) (scVals_ok hs h k ⟨⟨n, rfl, hn⟩, hs.2.2.1⟩)
    · cases h
  · rename_i a e
    rw [e] at hl
    split at h
    · rename_i ht
      cases hL : L.getD i none with
      | none => rw [hL] at hl; exact hl.elim
      | some w =>
        rw [hL] at hl
        obtain ⟨n, e1, hn⟩ := hl
        subst e1
        exact rJ (by simpa using ht) n (sc_getD hL) (scVals_ok hs h k ⟨⟨n, rfl, hn⟩, hs.2.2.1⟩)
    · cases h
  · rename_i a e
    rw [e] at hl
    split at h
    · rename_i ht
      cases hL : L.getD i none with
      | none => rw [hL] at hl; exact hl.elim
      | some w =>
        rw [hL] at hl
        have hl' : scSk σ (.inr (.inr a) :: s.2.2.1) (w :: st) := ⟨hl, hs.2.2.1⟩
        obtain ⟨v, st', e1, hv, h3⟩ := scSk_q hl'
        injection e1 with e1 e2
        subst e1
        exact rR (by simpa using ht) v (sc_getD hL) (scVals_ok hs h k hl')
    · cases h
  · cases h
theorem scStor_ok {n i t : Nat} (hs : scHold X M0 s σ L st M) (h : scStor n pc' s i t = some succs) (k : ∀ q ∈ succs, scGoes X M0 ρ0 σ q) (rI : t = 0 → i < n → ∀ (x : Int32) (st' : List Value), scGoal X M0 ρ0 pc' ((pvKill L i).set i (some (.int x))) st' M → scGoal X M0 ρ0 pc L (.int x :: st') M) (rJ : t = 1 → i + 1 < n → ∀ (x : Int64) (st' : List Value), scGoal X M0 ρ0 pc' (((pvKill L i).set i (some (.long x))).set (i + 1) none) st' M → scGoal X M0 ρ0 pc L (.long x :: st') M) (rR : t = 2 → i < n → ∀ (x : Nat) (st' : List Value), scGoal X M0 ρ0 pc' ((pvKill L i).set i (some (.ref x))) st' M → scGoal X M0 ρ0 pc L (.ref x :: st') M) : scGoal X M0 ρ0 pc L st M := by
  obtain ⟨h1, h2, h3, h4, h5, h6⟩ := id hs
  unfold scStor at h
  split at h
  · rename_i hn
    have h2 := h2.kill hn
    split at h
    · rename_i a S e
      rw [e] at h3
      obtain ⟨x, st1, e1, hx, q3⟩ := scSk_i h3
      subst e1
      split at h
      · rename_i ht
        simp only [Bool.and_eq_true, Nat.beq_eq, Nat.blt_eq] at ht
        refine rI ht.1 ht.2 x st1 (scOne_ok h k (τ := []) ?_)
        rw [List.append_nil]
        exact ⟨h1, h2.set i (v := some (.inl a)) (w := some (.int x)) ⟨x, rfl, hx⟩, q3, h4, h5, h6⟩
      · cases h
    · rename_i a S e
      rw [e] at h3
      obtain ⟨x, st1, e1, hx, q3⟩ := scSk_j h3
      subst e1
      split at h
      · rename_i ht
        simp only [Bool.and_eq_true, Nat.beq_eq, Nat.blt_eq] at ht
        refine rJ ht.1 ht.2 x st1 (scOne_ok h k (τ := []) ?_)
        rw [List.append_nil]
        exact ⟨h1, (h2.set i (v := some (.inr (.inl a))) (w := some (.long x)) ⟨x, rfl, hx⟩).set (i + 1) trivial, q3, h4, h5, h6⟩
      · cases h
    · rename_i a S e
      rw [e] at h3
      obtain ⟨x, st1, e1, hx, q3⟩ := scSk_q h3
      subst e1
      split at h
      · rename_i ht
        simp only [Bool.and_eq_true, Nat.beq_eq, Nat.blt_eq] at ht
        refine rR ht.1 ht.2 x st1 (scOne_ok h k (τ := []) ?_)
        rw [List.append_nil]
        exact ⟨h1, h2.set i (v := some (.inr (.inr a))) (w := some (.ref x)) hx, q3, h4, h5, h6⟩
      · cases h
    · cases h
  · cases h
theorem sc_br {c : scCo} {off : Int} {a b : scA} {S : List scV} {st' : List Value} {x z : Int} (hs : scHold X M0 s σ L st M) (h : scCond pc c off s S a b = some succs) (k : ∀ q ∈ succs, scGoes X M0 ρ0 σ q) (hS : scSk σ S st') (ha : scEv σ a x) (hb : scEv σ b z) : (∃ tgt : Nat, (pc : Int) + off = (tgt : Int) ∧ (scRel c x z → scGoal X M0 ρ0 tgt L st' M)) ∧ (scRel (scNeg c) x z → scGoal X M0 ρ0 (pc + 3) L st' M) := by
  obtain ⟨h1, h2, h3, h4, h5, h6⟩ := hs
  unfold scCond at h
  split at h
  · rename_i ho
    simp only [decide_eq_true_eq] at ho
    cases h
    refine ⟨⟨((pc : Int) + off).toNat, by omega, fun hr => ?_⟩, fun hr => ?_⟩
    · obtain ⟨e, q1, q2⟩ := scCutL_ok h1 ha hb hr
      refine k (((pc : Int) + off).toNat, (e, s.2.1, S, s.2.2.2)) (List.mem_append_left _ (List.mem_map.mpr ⟨e, q1, rfl⟩)) [] L st' M ?_
      rw [List.append_nil]
      exact ⟨q2, h2, hS, h4, h5, h6⟩
    · obtain ⟨e, q1, q2⟩ := scCutL_ok h1 ha hb hr
      refine k (pc + 3, (e, s.2.1, S, s.2.2.2)) (List.mem_append_right _ (List.mem_map.mpr ⟨e, q1, rfl⟩)) [] L st' M ?_
      rw [List.append_nil]
      exact ⟨q2, h2, hS, h4, h5, h6⟩
  · cases h
end ScRows
end
-- P 10gh
section
-- THE CHECKER: memory, ends, calls are right
section ScMem
variable {X : scX} {M0 : fmM} {ρ0 σ : List Int} {s : scS} {L : List (Option Value)} {st : List Value} {M : fmM} {pc pc' : Nat} {succs : List (Nat × scS)}
theorem scCells_ok {T : fmT} {ks : List Nat} {kd n k : Nat} (h : scCells T ks kd n = true) (hk : k ∈ ks) : k < T.1 ∧ T.2.1 k = kd ∧ n < T.2.2.1 k := by
  have := List.all_eq_true.mp h k hk
  simp only [Bool.and_eq_true, Nat.blt_eq, Nat.beq_eq] at this
  exact ⟨this.1.1, this.1.2, this.2⟩
theorem scRd_ok {S : List scV} {st' : List Value} {ks : List Nat} {a n k j : Nat} (hs : scHold X M0 s σ L st M) (h : scRd X pc s S ks a n = some succs) (kk : ∀ q ∈ succs, scGoes X M0 ρ0 σ q) (hS : scSk σ S st') (hk : k ∈ ks) (h1 : a ≤ j) (h2 : j ≤ a + n) (hj : j < X.1.2.2.1 k) : scGoal X M0 ρ0 pc L (.int (M.1 k j) :: st') M := by
  obtain ⟨g1, g2, g3, g4, g5, g6⟩ := id hs
  unfold scRd at h
  split at h
  · rename_i k'
    have e : k = k' := by simpa using hk
    subst e
    have e : j = a := by omega
    subst e
    obtain ⟨τ, q1, q2, q3⟩ := scRead_ok (T := X.1) (k := k) (j := j) g1 g4 g5 hj
    exact scOne_ok (s' := ((scRead X.2.1 s.1 s.2.2.2 k j).1.2, s.2.1, .inl (scRead X.2.1 s.1 s.2.2.2 k j).1.1 :: S, (scRead X.2.1 s.1 s.2.2.2 k j).2)) h kk (τ := τ) ⟨q1, g2.mono, ⟨⟨_, rfl, q2⟩, hS.mono⟩, q3, g5, g6⟩
  · have := scRgs_ok g5 hj h1 h2 hk
    exact scPush_ok hs h kk hS (scNk.new g1 this.1 this.2)
theorem scWt_ok {S : List scV} {st' : List Value} {ks : List Nat} {a n k j : Nat} {e : scI} {v : Option scA} {x : Int32} (hs : scHold X M0 s σ L st M) (h : scWt X pc s S ks a n e v = some succs) (kk : ∀ q ∈ succs, scGoes X M0 ρ0 σ q) (hS : scSk σ S st') (hk : k ∈ ks) (h1 : a ≤ j) (h2 : j ≤ a + n) (hx : e.1 ≤ x.toInt ∧ x.toInt ≤ e.2) (hv : ∀ q, v = some q → scEv σ q x.toInt) : scGoal X M0 ρ0 pc L st' (fmI M k j x) := by
  obtain ⟨g1, g2, g3, g4, g5, g6⟩ := id hs
  unfold scWt at h
  split at h
  · rename_i hw
    obtain ⟨w1, w2⟩ := scWr_ok hw hk h1 h2 hx g5 g6
    have w3 : scFk σ (scKl s.2.2.2 ks a n) (fmI M k j x) := scKl_ok hk h1 h2 g4
    refine scOne_ok h kk (τ := []) ?_
    rw [List.append_nil]
    refine ⟨g1, g2, hS, ?_, w1, w2⟩
    dsimp only
    split
    · rename_i k' q
      have e1 : k = k' := by simpa using hk
      subst e1
      have e2 : j = a := by omega
      subst e2
      intro f hf
      rcases List.mem_cons.mp hf with e3 | hf
      · subst e3
        show scEv σ q ((fmI M k j x).1 k j).toInt
        rw [fmI_s]
        exact hv q rfl
      · exact w3 f hf
    · exact w3
  · cases h
theorem scGet_ok {idx : Nat} (hX : scXk X) (hs : scHold X M0 s σ L st M) (hd : decode X.2.2.2.2.1.2.1 pc = .ok (.getfield idx, 3)) (h : scGet X (pc + 3) s idx = some succs) (kk : ∀ q ∈ succs, scGoes X M0 ρ0 σ q) : scGoal X M0 ρ0 pc L st M := by
  unfold scGet at h
  split at h
  · rename_i ks S e
    have h3 := hs.2.2.1
    rw [e] at h3
    obtain ⟨k, st1, hk, e1, q1⟩ := scSk_r h3
    subst e1
    split at h
    · rename_i f hf
      have hf1 : pvFd X.2.2.2.2.1.1.cls idx = some f := by
        unfold pvFd
        rw [hX.1]
        exact hf
      obtain ⟨f0, fc, fj, ft, fw⟩ := f
      simp only at h
      split at h
      · rename_i hc
        obtain ⟨c1, c2, c3⟩ := scCells_ok hc hk
        split at h
        · exact pv_getI hf1 c1 c2 c3 hd (scRd_ok hs h kk q1 hk (Nat.le_refl _) (Nat.le_refl _) c3)
        · exact pv_getJ hf1 c1 c2 c3 hd (scVals_ok hs h kk ⟨⟨_, rfl, scq_l _⟩, q1⟩)
        · split at h
          · rename_i hb
            have hb' := List.all_eq_true.mp hb k hk
            exact pv_getR _ rfl (by simpa using hb') hf1 c1 c2 c3 hd (scVals_ok hs h kk ⟨⟨_, List.mem_map.mpr ⟨k, hk, rfl⟩, rfl⟩, q1⟩)
          · cases h
        · cases h
      · cases h
    · cases h
  · cases h
theorem scPut_ok {idx : Nat} (hX : scXk X) (hs : scHold X M0 s σ L st M) (hd : decode X.2.2.2.2.1.2.1 pc = .ok (.putfield idx, 3)) (h : scPut X (pc + 3) s idx = some succs) (kk : ∀ q ∈ succs, scGoes X M0 ρ0 σ q) : scGoal X M0 ρ0 pc L st M := by
  obtain ⟨g1, g2, g3, g4, g5, g6⟩ := id hs
  unfold scPut at h
  split at h
  · rename_i v ks S e
    have h3 := hs.2.2.1
    rw [e] at h3
    split at h
    · rename_i f hf
      have hf1 : pvFd X.2.2.2.2.1.1.cls idx = some f := by
        unfold pvFd
        rw [hX.1]
        exact hf
      obtain ⟨f0, fc, fj, ft, fw⟩ := f
      simp only at h
      split at h
      · rename_i hc
        rw [Bool.and_eq_true] at hc
        split at h
        · rename_i a
          obtain ⟨x, st1, e1, hx, q1⟩ := scSk_i h3
          obtain ⟨k, st2, hk, e2, q2⟩ := scSk_r q1
          subst e2
          subst e1
          obtain ⟨c1, c2, c3⟩ := scCells_ok hc.1 hk
          exact pv_putI (by have h9 := hc.2; subst h9; exact hf1) c1 c2 c3 hd (scWt_ok hs h kk q2 hk (Nat.le_refl _) (Nat.le_refl _) (hx.iv g1) (fun q hq => by cases hq; exact hx))
        · rename_i o
          split at h
          · rename_i hw
            obtain ⟨x, st1, e1, hx, q1⟩ := scSk_j h3
            obtain ⟨k, st2, hk, e2, q2⟩ := scSk_r q1
            subst e2
            subst e1
            obtain ⟨c1, c2, c3⟩ := scCells_ok hc.1 hk
            refine pv_putJ (by have h9 := hc.2; subst h9; exact hf1) c1 c2 c3 hd ?_
            have hw' := scWin_in (j := fj) (List.all_eq_true.mp hw k hk) (Nat.le_refl _) (Nat.le_refl _)
            exact scVals_ok (M := fmJ M k fj x) (st := .long x :: .ref k :: st2) ⟨g1, g2, g3, g4, g5, g6.toJ hw'⟩ h kk q2
          · cases h
        · cases h
      · cases h
    · cases h
  · cases h
theorem sc_vin {x : Int32} {e : scI} {n : Nat} (hx : e.1 ≤ x.toInt ∧ x.toInt ≤ e.2) (h0 : 0 ≤ e.1) (h1 : e.2 < n) : vp_in x n ∧ (scIx e).1 ≤ x.toNatClampNeg ∧ x.toNatClampNeg ≤ (scIx e).1 + (scIx e).2 ∧ x.toNatClampNeg < n := by
  have e1 : x.toNatClampNeg = x.toInt.toNat := rfl
  refine ⟨vp_in_iff.mpr ⟨by omega, by omega⟩, ?_⟩
  rw [e1]
  simp only [scIx]
  omega
theorem scInx_ok {T : fmT} {ks : List Nat} {kd k : Nat} {e : scI} (h : scInx T ks kd e = true) (hk : k ∈ ks) : 0 ≤ e.1 ∧ k < T.1 ∧ T.2.1 k = kd ∧ e.2 < T.2.2.1 k := by
  simp only [scInx, Bool.and_eq_true, decide_eq_true_eq] at h
  have := List.all_eq_true.mp h.2 k hk
  simp only [Bool.and_eq_true, Nat.blt_eq, Nat.beq_eq, decide_eq_true_eq] at this
  exact ⟨h.1, this.1.1, this.1.2, this.2⟩
theorem scAldI_ok (hs : scHold X M0 s σ L st M) (hd : decode X.2.2.2.2.1.2.1 pc = .ok (.iaload, 1)) (h : scAld X (pc + 1) s 0 = some succs) (kk : ∀ q ∈ succs, scGoes X M0 ρ0 σ q) : scGoal X M0 ρ0 pc L st M := by
  unfold scAld at h
  split at h
  · rename_i a ks S e
    have h3 := hs.2.2.1
    rw [e] at h3
    obtain ⟨x, st1, e1, hx, q1⟩ := scSk_i h3
    obtain ⟨k, st2, hk, e2, q2⟩ := scSk_r q1
    subst e2
    subst e1
    split at h
    · rename_i hi
      obtain ⟨i0, i1, i2, i3⟩ := scInx_ok hi hk
      obtain ⟨v1, v2, v3, v4⟩ := sc_vin (hx.iv hs.1) i0 i3
      exact pv_iald i1 i2 rfl v1 hd (scRd_ok hs h kk q2 hk v2 v3 v4)
    · cases h
  · cases h
theorem scAldB_ok (hs : scHold X M0 s σ L st M) (hd : decode X.2.2.2.2.1.2.1 pc = .ok (.baload, 1)) (h : scAld X (pc + 1) s 2 = some succs) (kk : ∀ q ∈ succs, scGoes X M0 ρ0 σ q) : scGoal X M0 ρ0 pc L st M := by
  unfold scAld at h
  split at h
  · rename_i a ks S e
    have h3 := hs.2.2.1
    rw [e] at h3
    obtain ⟨x, st1, e1, hx, q1⟩ := scSk_i h3
    obtain ⟨k, st2, hk, e2, q2⟩ := scSk_r q1
    subst e2
    subst e1
    split at h
    · rename_i hi
      obtain ⟨i0, i1, i2, i3⟩ := scInx_ok hi hk
      obtain ⟨v1, v2, v3, v4⟩ := sc_vin (hx.iv hs.1) i0 i3
      exact pv_bald i1 i2 rfl v1 hd (scRd_ok hs h kk q2 hk v2 v3 v4)
    · cases h
  · cases h
theorem scAldJ_ok (hs : scHold X M0 s σ L st M) (hd : decode X.2.2.2.2.1.2.1 pc = .ok (.laload, 1)) (h : scAld X (pc + 1) s 1 = some succs) (kk : ∀ q ∈ succs, scGoes X M0 ρ0 σ q) : scGoal X M0 ρ0 pc L st M := by
  unfold scAld at h
  split at h
  · rename_i a ks S e
    have h3 := hs.2.2.1
    rw [e] at h3
    obtain ⟨x, st1, e1, hx, q1⟩ := scSk_i h3
    obtain ⟨k, st2, hk, e2, q2⟩ := scSk_r q1
    subst e2
    subst e1
    split at h
    · rename_i hi
      obtain ⟨i0, i1, i2, i3⟩ := scInx_ok hi hk
      obtain ⟨v1, v2, v3, v4⟩ := sc_vin (hx.iv hs.1) i0 i3
      exact pv_lald i1 i2 rfl v1 hd (scVals_ok hs h kk ⟨⟨_, rfl, scq_l _⟩, q2⟩)
    · cases h
  · cases h
theorem scAstI_ok (hs : scHold X M0 s σ L st M) (hd : decode X.2.2.2.2.1.2.1 pc = .ok (.iastore, 1)) (h : scAst X (pc + 1) s 0 = some succs) (kk : ∀ q ∈ succs, scGoes X M0 ρ0 σ q) : scGoal X M0 ρ0 pc L st M := by
  unfold scAst at h
  split at h
  · rename_i v a ks S e
    have h3 := hs.2.2.1
    rw [e] at h3
    split at h
    · rename_i hi
      split at h
      · rename_i v' _
        obtain ⟨w, st0, e0, hw, q0⟩ := scSk_i h3
        obtain ⟨x, st1, e1, hx, q1⟩ := scSk_i q0
        obtain ⟨k, st2, hk, e2, q2⟩ := scSk_r q1
        subst e2
        subst e1
        subst e0
        obtain ⟨i0, i1, i2, i3⟩ := scInx_ok hi hk
        obtain ⟨v1, v2, v3, v4⟩ := sc_vin (hx.iv hs.1) i0 i3
        exact pv_iast i1 i2 rfl v1 hd (scWt_ok hs h kk q2 hk v2 v3 (hw.iv hs.1) (fun q hq => by cases hq; exact hw))
      · omega
      · omega
      · cases h
    · cases h
  · cases h
theorem scq_nar (x : Int32) : -128 ≤ (vp_nar .byte x).toInt ∧ (vp_nar .byte x).toInt ≤ 127 := by
  have e : vp_nar .byte x = x.toInt8.toInt32 := rfl
  rw [e, Int8.toInt_toInt32]
  have h1 := x.toInt8.le_toInt
  have h2 := x.toInt8.toInt_lt
  omega
theorem scAstB_ok (hs : scHold X M0 s σ L st M) (hd : decode X.2.2.2.2.1.2.1 pc = .ok (.bastore, 1)) (h : scAst X (pc + 1) s 2 = some succs) (kk : ∀ q ∈ succs, scGoes X M0 ρ0 σ q) : scGoal X M0 ρ0 pc L st M := by
  unfold scAst at h
  split at h
  · rename_i v a ks S e
    have h3 := hs.2.2.1
    rw [e] at h3
    split at h
    · rename_i hi
      split at h
      · omega
      · obtain ⟨w, st0, e0, hw, q0⟩ := scSk_i h3
        obtain ⟨x, st1, e1, hx, q1⟩ := scSk_i q0
        obtain ⟨k, st2, hk, e2, q2⟩ := scSk_r q1
        subst e2
        subst e1
        subst e0
        obtain ⟨i0, i1, i2, i3⟩ := scInx_ok hi hk
        obtain ⟨v1, v2, v3, v4⟩ := sc_vin (hx.iv hs.1) i0 i3
        exact pv_bast i1 i2 rfl v1 hd (scWt_ok hs h kk q2 hk v2 v3 (scq_nar w) (fun q hq => by cases hq))
      · omega
      · cases h
    · cases h
  · cases h
theorem scAstJ_ok (hs : scHold X M0 s σ L st M) (hd : decode X.2.2.2.2.1.2.1 pc = .ok (.lastore, 1)) (h : scAst X (pc + 1) s 1 = some succs) (kk : ∀ q ∈ succs, scGoes X M0 ρ0 σ q) : scGoal X M0 ρ0 pc L st M := by
  obtain ⟨g1, g2, g3, g4, g5, g6⟩ := id hs
  unfold scAst at h
  split at h
  · rename_i v a ks S e
    have h3 := hs.2.2.1
    rw [e] at h3
    split at h
    · rename_i hi
      split at h
      · omega
      · omega
      · split at h
        · rename_i hwn
          obtain ⟨w, st0, e0, hw, q0⟩ := scSk_j h3
          obtain ⟨x, st1, e1, hx, q1⟩ := scSk_i q0
          obtain ⟨k, st2, hk, e2, q2⟩ := scSk_r q1
          subst e2
          subst e1
          subst e0
          obtain ⟨i0, i1, i2, i3⟩ := scInx_ok hi hk
          obtain ⟨v1, v2, v3, v4⟩ := sc_vin (hx.iv hs.1) i0 i3
          refine pv_last i1 i2 rfl v1 hd ?_
          have hw' := scWin_in (List.all_eq_true.mp hwn k hk) v2 v3
          exact scVals_ok (M := fmJ M k x.toNatClampNeg w) (st := .long w :: .int x :: .ref k :: st2) ⟨g1, g2, g3, g4, g5, g6.toJ hw'⟩ h kk q2
        · cases h
      · cases h
    · cases h
  · cases h
theorem scAald_ok (hs : scHold X M0 s σ L st M) (hd : decode X.2.2.2.2.1.2.1 pc = .ok (.aaload, 1)) (h : scAald X (pc + 1) s = some succs) (kk : ∀ q ∈ succs, scGoes X M0 ρ0 σ q) : scGoal X M0 ρ0 pc L st M := by
  unfold scAald at h
  split at h
  · rename_i a ks S e
    have h3 := hs.2.2.1
    rw [e] at h3
    obtain ⟨x, st1, e1, hx, q1⟩ := scSk_i h3
    obtain ⟨k, st2, hk, e2, q2⟩ := scSk_r q1
    subst e2
    subst e1
    split at h
    · rename_i hi
      simp only [Bool.and_eq_true, decide_eq_true_eq] at hi
      obtain ⟨hi, hb⟩ := hi
      have hi2 := List.all_eq_true.mp hi.2 k hk
      simp only [Bool.and_eq_true, decide_eq_true_eq, Nat.blt_eq, Nat.ble_eq] at hi2
      obtain ⟨⟨⟨i1, i2⟩, i3⟩, i4⟩ := hi2
      obtain ⟨v1, v2, v3, v4⟩ := sc_vin (hx.iv hs.1) hi.1 i4
      have hb' : X.1.2.2.2 k x.toNatClampNeg < 1000 := by
        have := List.all_eq_true.mp hb k hk
        have := List.all_eq_true.mp this (x.toNatClampNeg - (scIx (scIv s.1 a)).1) (List.mem_range.mpr (by omega))
        rw [Nat.add_sub_cancel' v2] at this
        simpa using this
      refine pv_aald i1 (by omega) rfl v1 rfl hb' hd (scVals_ok hs h kk ⟨⟨_, List.mem_flatMap.mpr ⟨k, hk, List.mem_map.mpr ⟨x.toNatClampNeg - (scIx (scIv s.1 a)).1, List.mem_range.mpr (by omega), ?_⟩⟩, rfl⟩, q2⟩)
      rw [Nat.add_sub_cancel' v2]
    · cases h
  · cases h
theorem scAlen_ok (hs : scHold X M0 s σ L st M) (hd : decode X.2.2.2.2.1.2.1 pc = .ok (.arraylength, 1)) (h : scAlen X (pc + 1) s = some succs) (kk : ∀ q ∈ succs, scGoes X M0 ρ0 σ q) : scGoal X M0 ρ0 pc L st M := by
  unfold scAlen at h
  split at h
  · rename_i k' ks S e
    have h3 := hs.2.2.1
    rw [e] at h3
    obtain ⟨k, st1, hk, e1, q1⟩ := scSk_r h3
    subst e1
    split at h
    · rename_i hi
      rw [Bool.and_eq_true, Nat.blt_eq] at hi
      have hi2 := List.all_eq_true.mp hi.1 k hk
      simp only [Bool.and_eq_true, Nat.blt_eq, Nat.ble_eq, Nat.beq_eq] at hi2
      obtain ⟨⟨i1, i2⟩, i3⟩ := hi2
      have hv : (Int32.ofNat (X.1.2.2.1 k)).toInt = (X.1.2.2.1 k' : Int) := by
        rw [i3]
        exact Int32.toInt_ofNat_of_lt (by omega)
      have hS : scSk σ (.inl (none, (X.1.2.2.1 k' : Int)) :: S) (.int (Int32.ofNat (X.1.2.2.1 k)) :: st1) := ⟨⟨_, rfl, hv⟩, q1⟩
      rcases (show X.1.2.1 k = 0 ∨ X.1.2.1 k = 1 by omega) with e0 | e0
      · exact pv_alenI i1 e0 rfl rfl hd (scVals_ok hs h kk hS)
      · exact pv_alenJ i1 e0 rfl rfl hd (scVals_ok hs h kk hS)
    · cases h
  · cases h
theorem scMmx_ok {idx i0 : Nat} {b : Bool} (hm : pvMm X.2.2.2.2.1.1.cls idx = some (i0, b)) (hs : scHold X M0 s σ L st M) (hd : decode X.2.2.2.2.1.2.1 pc = .ok (.invokestatic idx, 3)) (h : scMmx X (pc + 3) s b = some succs) (kk : ∀ q ∈ succs, scGoes X M0 ρ0 σ q) : scGoal X M0 ρ0 pc L st M := by
  unfold scMmx at h
  split at h
  · rename_i z x S e
    have h3 := hs.2.2.1
    rw [e] at h3
    obtain ⟨vz, st1, e1, hz, q1⟩ := scSk_i h3
    obtain ⟨vx, st2, e2, hx, q2⟩ := scSk_i q1
    subst e2
    subst e1
    split at h
    · rename_i hc
      simp only [Bool.and_eq_true, Nat.ble_eq] at hc
      refine pv_mm hm hc.1 (by unfold pvCat; rw [scSk_cat q2]; exact hc.2) hd (scPush_ok hs h kk q2 ?_)
      have ix := hx.iv hs.1
      have iz := hz.iv hs.1
      have bd : (if b then scMax (scIv s.1 x) (scIv s.1 z) else scMin (scIv s.1 x) (scIv s.1 z)).1 ≤ (pvMx b vx vz).toInt ∧ (pvMx b vx vz).toInt ≤ (if b then scMax (scIv s.1 x) (scIv s.1 z) else scMin (scIv s.1 x) (scIv s.1 z)).2 := by
        cases b with
        | true =>
          simp only [if_true, pvMx, scMax]
          by_cases hle : vx.toInt ≤ vz.toInt
          · simp only [hle, if_true]
            constructor <;> split <;> omega
          · simp only [hle, if_false]
            constructor <;> split <;> omega
        | false =>
          simp only [Bool.false_eq_true, if_false, pvMx, scMin]
          by_cases hle : vx.toInt ≤ vz.toInt
          · simp only [hle, if_true]
            constructor <;> split <;> omega
          · simp only [hle, if_false]
            constructor <;> split <;> omega
      exact scNk.new hs.1 bd.1 bd.2
    · cases h
  · cases h
end ScMem
end
-- P 10gi
section
-- THE CHECKER: copies, constants, switches, ends, calls
section ScMore
variable {X : scX} {M0 : fmM} {ρ0 σ : List Int} {s : scS} {L : List (Option Value)} {st : List Value} {M : fmM} {pc pc' : Nat} {succs : List (Nat × scS)}
theorem scq_cpy (f g : Nat → Int32) (n j : Nat) : va_cpy f g 0 0 n j = if j < n then f j else g j := by
  simp [va_cpy]
theorem scCpy_ok {idx : Nat} (hm9 : pvMm X.2.2.2.2.1.1.cls idx = none) (hc9 : pvCp X.2.2.2.2.1.1.cls idx = true) (hs : scHold X M0 s σ L st M) (hd : decode X.2.2.2.2.1.2.1 pc = .ok (.invokestatic idx, 3)) (h : scCpy X (pc + 3) s = some succs) (kk : ∀ q ∈ succs, scGoes X M0 ρ0 σ q) : scGoal X M0 ρ0 pc L st M := by
  obtain ⟨g1, g2, g3, g4, g5, g6⟩ := id hs
  unfold scCpy at h
  split at h
  · rename_i n dp ks1 sp ks0 S e
    have h3 := g3
    rw [e] at h3
    obtain ⟨vn, st1, e1, hn, q1⟩ := scSk_i h3
    obtain ⟨vd, st2, e2, hdp, q2⟩ := scSk_i q1
    obtain ⟨k1, st3, hk1, e3, q3⟩ := scSk_r q2
    obtain ⟨vs, st4, e4, hsp, q4⟩ := scSk_i q3
    obtain ⟨k0, st5, hk0, e5, q5⟩ := scSk_r q4
    subst e5
    subst e4
    subst e3
    subst e2
    subst e1
    split at h
    · rename_i hc
      simp only [Bool.and_eq_true, decide_eq_true_eq, Nat.ble_eq] at hc
      obtain ⟨⟨⟨⟨⟨⟨c1, c2⟩, c3⟩, c4⟩, c5⟩, c6⟩, c7⟩ := hc
      have in1 := hn.iv g1
      have id1 := hdp.iv g1
      have is1 := hsp.iv g1
      rw [c1] at id1
      rw [c2] at is1
      simp only at id1 is1
      have c6' := List.all_eq_true.mp c6 k0 hk0
      simp only [Bool.and_eq_true, Nat.blt_eq, Nat.ble_eq, Nat.beq_eq] at c6'
      have c7' := List.all_eq_true.mp c7 k1 hk1
      simp only [Bool.and_eq_true, Nat.blt_eq, Nat.ble_eq, Nat.beq_eq] at c7'
      obtain ⟨⟨⟨⟨⟨a1, a2⟩, a3⟩, a4⟩, a6⟩, a5⟩ := c7'
      have a5' := List.all_eq_true.mp a5 k0 hk0
      have ed : vd.toNatClampNeg = 0 := by show vd.toInt.toNat = 0; omega
      have es : vs.toNatClampNeg = 0 := by show vs.toInt.toNat = 0; omega
      have en : vn.toNatClampNeg = (scIv s.1 n).1.toNat := by show vn.toInt.toNat = _; omega
      have z0 : (0 : Int32).toInt = 0 := by decide
      refine pv_copy (k0 := k0) (k1 := k1) hm9 hc9 c6'.1.1 c6'.1.2 rfl a1 a2 rfl (by omega) (by omega) (by omega) (by rw [es, en]; omega) (by rw [ed, en]; omega) (by unfold pvCat; rw [scSk_cat q5]; omega) hd ?_
      rw [ed, es, en]
      generalize hm : (scIv s.1 n).1.toNat = m at *
      have hm1 : 1 ≤ m := by omega
      refine scOne_ok h kk (τ := []) ?_
      rw [List.append_nil]
      refine ⟨g1, g2, q5, ?_, ?_, ?_⟩
      · intro f hf
        obtain ⟨hf, hnf⟩ := List.mem_filter.mp hf
        have hF := g4 f hf
        by_cases e1 : f.1.1 = k1
        · by_cases e2 : f.1.2 < m
          · exfalso
            have : (ks1.contains f.1.1 && Nat.ble 0 f.1.2 && Nat.ble f.1.2 (0 + (m - 1))) = true := by
              rw [e1]
              simp only [Bool.and_eq_true, Nat.ble_eq, List.contains_iff_mem]
              exact ⟨⟨hk1, Nat.zero_le _⟩, by omega⟩
            rw [this] at hnf
            cases hnf
          · rw [e1] at hF ⊢
            rw [fmA_s, scq_cpy, if_neg e2]
            exact hF
        · rw [fmA_k _ _ e1]
          exact hF
      · refine ⟨?_, scFree_ok a6 g5.2 (fun k' j' hn => ?_)⟩
        rotate_left
        · by_cases e1 : k' = k1
          · subst e1
            rw [fmA_s, scq_cpy, if_neg (fun h9 => hn ⟨rfl, Nat.zero_le _, by omega⟩)]
          · rw [fmA_k _ _ e1]
        intro k' j' hj'
        by_cases e1 : k' = k1
        · subst e1
          rw [fmA_s, scq_cpy]
          split
          · rename_i hjm
            exact scSub_ok (List.all_eq_true.mp a5' j' (List.mem_range.mpr hjm)) (g5.1 k0 j' (by omega))
          · exact g5.1 k' j' hj'
        · rw [fmA_k _ _ e1]
          exact g5.1 k' j' hj'
      · intro k' j' hn'
        have hF := g6 k' j' hn'
        refine ⟨?_, hF.2⟩
        rw [← hF.1]
        by_cases e1 : k' = k1
        · subst e1
          rw [fmA_s, scq_cpy]
          split
          · rename_i hjm
            rw [scWin_in a4 (Nat.zero_le _) (by omega)] at hn'
            cases hn'
          · rfl
        · rw [fmA_k _ _ e1]
    · cases h
  · cases h
theorem scKc_of {idx : Nat} {r : Option (Nat × (Int32 ⊕ Int64))} (hX : scXk X) (h : X.2.2.1.1.2.1.find? (fun q => Nat.beq q.1 idx) = r) : pvKc X.2.2.2.2.1.1.cls idx = r := by
  unfold pvKc
  rw [hX.1]
  exact h
theorem scLdcI_ok {idx : Nat} (hX : scXk X) (hs : scHold X M0 s σ L st M) (hd : decode X.2.2.2.2.1.2.1 pc = .ok (.ldc idx, 2)) (h : scLdc X (pc + 2) s idx 0 = some succs) (kk : ∀ q ∈ succs, scGoes X M0 ρ0 σ q) : scGoal X M0 ρ0 pc L st M := by
  unfold scLdc at h
  split at h
  · rename_i i v hf
    split at h
    · exact pv_ldc (scKc_of hX hf) hd (scVals_ok hs h kk ⟨⟨v, rfl, rfl⟩, hs.2.2.1⟩)
    · cases h
  · split at h
    · rename_i ht; cases ht
    · cases h
  · rename_i hf
    split at h
    · split at h
      · rename_i q hq
        have ht : pvTx X.2.2.2.2.1.1.cls idx = some q := by
          unfold pvTx
          rw [hX.1]
          exact hq
        exact pv_ldcT (scKc_of hX hf) ht hd (scVals_ok hs h kk ⟨rfl, hs.2.2.1⟩)
      · cases h
    · cases h
theorem scLdcJ_ok {idx : Nat} (hX : scXk X) (hs : scHold X M0 s σ L st M) (hd : decode X.2.2.2.2.1.2.1 pc = .ok (.ldc2_w idx, 3)) (h : scLdc X (pc + 3) s idx 1 = some succs) (kk : ∀ q ∈ succs, scGoes X M0 ρ0 σ q) : scGoal X M0 ρ0 pc L st M := by
  unfold scLdc at h
  split at h
  · split at h
    · rename_i ht; cases ht
    · cases h
  · rename_i i v hf
    split at h
    · exact pv_ldc2 (scKc_of hX hf) hd (scVals_ok hs h kk ⟨⟨v, rfl, Int.le_refl _, Int.le_refl _⟩, hs.2.2.1⟩)
    · cases h
  · split at h
    · rename_i ht; cases ht
    · cases h
theorem scStr_ok {idx : Nat} (hX : scXk X) (hs : scHold X M0 s σ L st M) (hd : decode X.2.2.2.2.1.2.1 pc = .ok (.invokevirtual idx, 3)) (h : scStr X (pc + 3) s idx = some succs) (kk : ∀ q ∈ succs, scGoes X M0 ρ0 σ q) : scGoal X M0 ρ0 pc L st M := by
  unfold scStr at h
  split at h
  · rename_i q hf
    have hm := hX.2 q (List.mem_of_find?_eq_some hf)
    have hi := List.find?_some hf
    simp only [Bool.and_eq_true, Nat.beq_eq] at hi
    have hi := hi.1
    obtain ⟨qi, qk, qc⟩ := q
    simp only at hi
    subst hi
    split at h
    · rename_i e2
      simp only at e2
      subst e2
      obtain ⟨i0, ci, y', hq⟩ := hm
      split at h
      · rename_i t S e
        have h3 := hs.2.2.1
        rw [e] at h3
        cases st with
        | nil => exact h3.elim
        | cons w st =>
          obtain ⟨hw, q1⟩ := h3
          have hw : w = .ref (1000 + t) := hw
          subst hw
          split at h
          · rename_i hc
            simp only [Bool.and_eq_true, Nat.ble_eq, Nat.blt_eq] at hc
            exact pv_strlen hq hc.1.1 hc.1.2 (by unfold pvCat; rw [scSk_cat q1]; exact hc.2) hd (scVals_ok hs h kk ⟨⟨_, rfl, rfl⟩, q1⟩)
          · cases h
      · cases h
    · rename_i e2
      simp only at e2
      subst e2
      obtain ⟨i0, ci, y', hq⟩ := hm
      split at h
      · rename_i a t S e
        have h3 := hs.2.2.1
        rw [e] at h3
        obtain ⟨x, st1, e1, hx, q0⟩ := scSk_i h3
        cases st1 with
        | nil => exact q0.elim
        | cons w st2 =>
          obtain ⟨hw, q1⟩ := q0
          have hw : w = .ref (1000 + t) := hw
          subst hw
          subst e1
          split at h
          · rename_i hc
            simp only [Bool.and_eq_true, Nat.ble_eq, Nat.blt_eq, decide_eq_true_eq] at hc
            obtain ⟨⟨⟨⟨⟨b1, b2⟩, b3⟩, b4⟩, b5⟩, b6⟩ := hc
            have ix := hx.iv hs.1
            have ex : x.toNatClampNeg = (scIv s.1 a).1.toNat := by show x.toInt.toNat = _; omega
            refine pv_charAt hq b1 (by omega) (by omega) b2 (by unfold pvCat; rw [scSk_cat q1]; exact b3) hd (scVals_ok hs h kk ⟨⟨_, rfl, ?_⟩, q1⟩)
            rw [ex]
            exact (rfl : (chE t (scIv s.1 a).1.toNat).toInt = _)
          · cases h
      · cases h
    · cases h
  · cases h
theorem scTab_ok {dflt lo hi : Int} {offs : Array Int} {len : Nat} (hs : scHold X M0 s σ L st M) (hd : decode X.2.2.2.2.1.2.1 pc = .ok (.tableswitch dflt lo hi offs, len)) (h : scTab pc s dflt lo hi offs = some succs) (kk : ∀ q ∈ succs, scGoes X M0 ρ0 σ q) : scGoal X M0 ρ0 pc L st M := by
  obtain ⟨g1, g2, g3, g4, g5, g6⟩ := id hs
  unfold scTab at h
  split at h
  · rename_i a S e
    have h3 := g3
    rw [e] at h3
    obtain ⟨x, st1, e1, hx, q1⟩ := scSk_i h3
    subst e1
    have ix := hx.iv g1
    split at h
    · rename_i hc
      simp only [Bool.and_eq_true, decide_eq_true_eq, Nat.beq_eq] at hc
      obtain ⟨⟨c1, c2⟩, c3⟩ := hc
      cases h
      by_cases hr : x.toInt < lo ∨ hi < x.toInt
      · refine pv_table ((pc : Int) + dflt).toNat c1 ?_ hd ?_
        · simp only [fmTsw, if_pos hr]
          omega
        · refine kk (((pc : Int) + dflt).toNat, (s.1, s.2.1, S, s.2.2.2)) (List.mem_append_left _ ?_) [] L st1 M (by rw [List.append_nil]; exact ⟨g1, g2, q1, g4, g5, g6⟩)
          rw [if_neg]
          · exact List.mem_cons_self
          · simp only [Bool.and_eq_true, decide_eq_true_eq]
            omega
      · have hq : (x.toInt - lo).toNat < (hi - lo + 1).toNat := by omega
        have c3' := List.all_eq_true.mp c3 _ (List.mem_range.mpr hq)
        simp only [decide_eq_true_eq] at c3'
        refine pv_table ((pc : Int) + offs.getD (x.toInt - lo).toNat 0).toNat c1 ?_ hd ?_
        · simp only [fmTsw, if_neg hr]
          omega
        · have el : lo + ((x.toInt - lo).toNat : Int) = x.toInt := by omega
          obtain ⟨env', k1, k2⟩ := scCut_ok (lo := lo + ((x.toInt - lo).toNat : Int)) (hi := lo + ((x.toInt - lo).toNat : Int)) g1 hx (by omega) (by omega)
          refine kk (_, (env', s.2.1, S, s.2.2.2)) (List.mem_append_right _ (List.mem_flatMap.mpr ⟨_, List.mem_range.mpr hq, ?_⟩)) [] L st1 M (by rw [List.append_nil]; exact ⟨k2, g2, q1, g4, g5, g6⟩)
          rw [k1]
          exact List.mem_cons_self
    · cases h
  · cases h
theorem scOut_ok {ent : Bool} {env : List scI} {F : List scF} {kind : Nat} {e : scI} {r : fmR} (hρ : ρ0.length = X.2.2.2.2.2.2.1.length) (he : ent = true → ∃ τ, σ = ρ0 ++ τ) (g1 : scEk env σ) (g4 : scFk σ F M) (g5 : scInv X.1 X.2.1 M) (g6 : scFr (scW X) M0 M) (h : scOut X ent env F kind e = true) (hr : ∀ o : scO, o.1 = kind → scSub e o.2.1 = true → scRk o r) : scEnd X.1 X.2.1 X.2.2.2.2 ρ0 M0 r M := by
  obtain ⟨o, ho, h⟩ := List.any_eq_true.mp h
  simp only [Bool.and_eq_true, Nat.beq_eq] at h
  obtain ⟨⟨⟨⟨h1, h2⟩, h3⟩, h4⟩, h5⟩ := h
  refine ⟨⟨o, ho, hr o h1 h2, fun q hq => ?_, fun q hq => ?_⟩, g5, g6⟩
  · have h4' := List.all_eq_true.mp h4 q hq
    simp only [Bool.and_eq_true, Nat.blt_eq] at h4'
    rw [Bool.or_eq_true] at h3
    rcases h3 with h3 | h3
    · obtain ⟨τ, et⟩ := he h3
      have hl : q.1 < ρ0.length := by rw [hρ]; exact h4'.1
      have hx : σ[q.1]? = some ρ0[q.1] := by rw [et, List.getElem?_append_left hl]; exact List.getElem?_eq_getElem hl
      refine ⟨ρ0[q.1], List.getElem?_eq_getElem hl, ?_⟩
      have hle : q.1 < env.length := by rw [g1.1]; exact (List.getElem?_eq_some_iff.mp hx).1
      have hb := g1.2 q.1 env[q.1] _ (List.getElem?_eq_getElem hle) hx
      have eg : env.getD q.1 scTop = env[q.1] := by simp [List.getD, List.getElem?_eq_getElem hle]
      rw [eg] at h4'
      exact scSub_ok h4'.2 hb
    · rw [List.isEmpty_iff] at h3
      rw [h3] at hq
      cases hq
  · have h5' := List.all_eq_true.mp h5 q hq
    simp only [Bool.and_eq_true, Nat.blt_eq] at h5'
    cases hf : scFact F q.1.1 q.1.2 with
    | none =>
      rw [hf] at h5'
      exact scSub_ok h5'.2 (g5.1 _ _ h5'.1)
    | some f =>
      rw [hf] at h5'
      have h6 := List.find?_some hf
      simp only [Bool.and_eq_true, beq_iff_eq] at h6
      have h7 := g4 f (List.mem_of_find?_eq_some hf)
      rw [h6.1, h6.2] at h7
      exact scSub_ok h5'.2 (h7.iv g1)
theorem scCutR_ok {B : scB} {ρ : List Int} (hB : scBk σ B ρ) : ∀ {qs : List (Nat × scI)} {env : List scI}, scEk env σ → (∀ q ∈ qs, ∃ x, ρ[q.1]? = some x ∧ q.2.1 ≤ x ∧ x ≤ q.2.2) → ∃ env', scCutR B qs env = some env' ∧ scEk env' σ
  | [], env, h, _ => ⟨env, rfl, h⟩
  | q :: qs, env, h, hq => by
    obtain ⟨x, hx, h1, h2⟩ := hq q List.mem_cons_self
    simp only [scCutR]
    split
    · rename_i b hb
      have hb' : B[q.1]? = some (some b) := by
        simp only [List.getD] at hb
        cases hL : B[q.1]? with
        | none => rw [hL] at hb; simp at hb
        | some w => rw [hL] at hb; simp at hb; rw [hb]
      obtain ⟨x', hx', hv⟩ := hB _ _ hb'
      rw [hx] at hx'
      cases hx'
      obtain ⟨e1, k1, k2⟩ := scCut_ok h hv h1 h2
      obtain ⟨e2, k3, k4⟩ := scCutR_ok hB (qs := qs) k2 (fun q' hq' => hq q' (List.mem_cons_of_mem _ hq'))
      exact ⟨e2, by rw [k1]; exact k3, k4⟩
    · exact scCutR_ok hB h (fun q' hq' => hq q' (List.mem_cons_of_mem _ hq'))
theorem scMem_ok {M' : fmM} : ∀ {qs : List ((Nat × Nat) × scI)} {env : List scI} {F : List scF} {σ : List Int}, scEk env σ → scFk σ F M' → (∀ q ∈ qs, q.2.1 ≤ (M'.1 q.1.1 q.1.2).toInt ∧ (M'.1 q.1.1 q.1.2).toInt ≤ q.2.2) → ∃ (r : List scI × List scF) (τ : List Int), scMem qs env F = some r ∧ scEk r.1 (σ ++ τ) ∧ scFk (σ ++ τ) r.2 M'
  | [], env, F, σ, h, hF, _ => ⟨(env, F), [], rfl, by simpa using h, by simpa using hF⟩
  | q :: qs, env, F, σ, h, hF, hq => by
    have h1 := hq q List.mem_cons_self
    simp only [scMem]
    split
    · rename_i f hf
      have h6 := List.find?_some hf
      simp only [Bool.and_eq_true, beq_iff_eq] at h6
      have h7 := hF f (List.mem_of_find?_eq_some hf)
      rw [h6.1, h6.2] at h7
      obtain ⟨e1, k1, k2⟩ := scCut_ok h h7 h1.1 h1.2
      obtain ⟨r, τ, k3, k4, k5⟩ := scMem_ok (qs := qs) k2 hF (fun q' hq' => hq q' (List.mem_cons_of_mem _ hq'))
      exact ⟨r, τ, by rw [k1]; exact k3, k4, k5⟩
    · have hF' : scFk (σ ++ [(M'.1 q.1.1 q.1.2).toInt]) ((q.1, (some env.length, 0)) :: F) M' := by
        intro f hf
        rcases List.mem_cons.mp hf with e | hf
        · subst e
          exact scEv.new h
        · exact (hF f hf).mono
      obtain ⟨r, τ, k3, k4, k5⟩ := scMem_ok (qs := qs) (h.push h1.1 h1.2) hF' (fun q' hq' => hq q' (List.mem_cons_of_mem _ hq'))
      exact ⟨r, _ ++ τ, k3, by rw [← List.append_assoc]; exact k4, by rw [← List.append_assoc]; exact k5⟩
end ScMore
end
-- P 10gj
section
-- THE CHECKER: calls, and all instructions
def scEndP (X : scX) (ent : Bool) (pc : Nat) (s : scS) (S : List scV) (o : scO) (q : List scI × List scF) (succs : List (Nat × scS)) : Prop := match o.1 with
  | 0 => (pc, ((q.1, s.2.1, S, q.2) : scS)) ∈ succs
  | 1 => (pc, ((q.1 ++ [o.2.1], s.2.1, .inl (some q.1.length, 0) :: S, q.2) : scS)) ∈ succs
  | 2 => (pc, ((q.1, s.2.1, .inr (.inl o.2.1) :: S, q.2) : scS)) ∈ succs
  | 4 => scOut X ent q.1 q.2 4 o.2.1 = true
  | 5 => scOut X ent q.1 q.2 5 o.2.1 = true
  | _ => False
theorem scEndP.more {X : scX} {ent : Bool} {pc : Nat} {s : scS} {S : List scV} {o : scO} {q : List scI × List scF} {a b : List (Nat × scS)} (h : scEndP X ent pc s S o q a) (hm : ∀ x ∈ a, x ∈ b) : scEndP X ent pc s S o q b := by
  unfold scEndP at h ⊢
  split at h
  · exact hm _ h
  · exact hm _ h
  · exact hm _ h
  · exact h
  · exact h
  · exact h
theorem scEnds_ok {X : scX} {ent : Bool} {pc : Nat} {s : scS} {S : List scV} {W : List (Nat × Nat × Nat)} {r : List scI × List scF × scB} {o : scO} {q : List scI × List scF} (hq : scAft W r o = some q) : ∀ {os : List scO} {succs : List (Nat × scS)}, o ∈ os → scEnds X ent pc s S W r os = some succs → scEndP X ent pc s S o q succs
  | o' :: os, succs, hm, h => by
    simp only [scEnds] at h
    rcases List.mem_cons.mp hm with e | hm
    · subst e
      rw [hq] at h
      simp only at h
      unfold scEndP
      split at h
      · rename_i e0
        obtain ⟨l, _, hl⟩ := Option.map_eq_some_iff.mp h
        subst hl
        rw [e0]
        exact List.mem_cons_self
      · rename_i e0
        obtain ⟨l, _, hl⟩ := Option.map_eq_some_iff.mp h
        subst hl
        rw [e0]
        exact List.mem_cons_self
      · rename_i e0
        obtain ⟨l, _, hl⟩ := Option.map_eq_some_iff.mp h
        subst hl
        rw [e0]
        exact List.mem_cons_self
      · rename_i e0
        rw [e0]
        split at h
        · rename_i hx
          exact hx
        · cases h
      · rename_i e0
        rw [e0]
        split at h
        · rename_i hx
          exact hx
        · cases h
      · cases h
    · split at h
      · exact scEnds_ok hq hm h
      · split at h
        · obtain ⟨l, h1, hl⟩ := Option.map_eq_some_iff.mp h
          subst hl
          exact (scEnds_ok hq hm h1).more (fun x hx => List.mem_cons_of_mem _ hx)
        · obtain ⟨l, h1, hl⟩ := Option.map_eq_some_iff.mp h
          subst hl
          exact (scEnds_ok hq hm h1).more (fun x hx => List.mem_cons_of_mem _ hx)
        · obtain ⟨l, h1, hl⟩ := Option.map_eq_some_iff.mp h
          subst hl
          exact (scEnds_ok hq hm h1).more (fun x hx => List.mem_cons_of_mem _ hx)
        · split at h
          · exact scEnds_ok hq hm h
          · cases h
        · split at h
          · exact scEnds_ok hq hm h
          · cases h
        · cases h
theorem scFr.trans {W W' : List (Nat × Nat × Nat)} {M0 M M' : fmM} (h : scFr W M0 M) (h' : scFr W' M M') (hw : W'.all (fun w => scWin W w.1 w.2.1 (w.2.2 - 1) && Nat.blt 0 w.2.2) = true) : scFr W M0 M' := by
  intro k j hn
  have hn' : scIn W' k j = false := by
    cases hb : scIn W' k j with
    | false => rfl
    | true =>
      obtain ⟨w, hw1, hw2⟩ := List.any_eq_true.mp hb
      have hw3 := List.all_eq_true.mp hw w hw1
      simp only [Bool.and_eq_true, beq_iff_eq, Nat.ble_eq, Nat.blt_eq] at hw2 hw3
      rw [hw2.1.1] at hw3
      rw [scWin_in (j := j) hw3.1 hw2.1.2 (by omega)] at hn
      cases hn
  have h1 := h k j hn
  have h2 := h' k j hn'
  exact ⟨h2.1.trans h1.1, h2.2.trans h1.2⟩
theorem scKlW_ok {W : List (Nat × Nat × Nat)} {σ : List Int} {F : List scF} {M M' : fmM} (hF : scFk σ F M) (h : scFr W M M') : scFk σ (scKlW W F) M' := by
  intro f hf
  obtain ⟨hf, hn⟩ := List.mem_filter.mp hf
  have hn' : scIn W f.1.1 f.1.2 = false := by simpa using hn
  rw [(h _ _ hn').1]
  exact hF f hf
theorem scSk_take {σ : List Int} : ∀ (n : Nat) {S : List scV} {st : List Value}, scSk σ S st → scSk σ (S.take n) (st.take n) ∧ scSk σ (S.drop n) (st.drop n)
  | 0, S, st, h => ⟨by simp [scSk], by simpa using h⟩
  | n + 1, [], [], _ => ⟨by simp [scSk], by simp [scSk]⟩
  | n + 1, v :: S, w :: st, h => by
    have := scSk_take n h.2
    exact ⟨⟨h.1, this.1⟩, this.2⟩
  | _ + 1, [], _ :: _, h => h.elim
  | _ + 1, _ :: _, [], h => h.elim
theorem scSk_app {σ : List Int} : ∀ {S : List scV} {st : List Value} {S' : List scV} {st' : List Value}, scSk σ S st → scSk σ S' st' → scSk σ (S ++ S') (st ++ st')
  | [], [], _, _, _, h => h
  | _ :: _, _ :: _, _, _, h, h' => ⟨h.1, scSk_app h.2 h'⟩
  | [], _ :: _, _, _, h, _ => h.elim
  | _ :: _, [], _, _, h, _ => h.elim
theorem scSk_rev {σ : List Int} : ∀ {S : List scV} {st : List Value}, scSk σ S st → scSk σ S.reverse st.reverse
  | [], [], _ => trivial
  | v :: S, w :: st, h => by
    rw [List.reverse_cons, List.reverse_cons]
    exact scSk_app (scSk_rev h.2) ⟨h.1, trivial⟩
  | [], _ :: _, h => h.elim
  | _ :: _, [], h => h.elim
theorem scSk_len {σ : List Int} : ∀ {S : List scV} {st : List Value}, scSk σ S st → S.length = st.length
  | [], [], _ => rfl
  | _ :: _, _ :: _, h => by simp [scSk_len h.2]
  | [], _ :: _, h => h.elim
  | _ :: _, [], h => h.elim
section ScCall
variable {X : scX} {M0 : fmM} {ρ0 σ : List Int} {s : scS} {L : List (Option Value)} {st : List Value} {M : fmM} {pc : Nat} {succs : List (Nat × scS)} {ent : Bool}
theorem scCall_one {q : scCl} {idx kind : Nat} {r : List scI × List scF × scB} (hX : scXk X) (hρ : ρ0.length = X.2.2.2.2.2.2.1.length) (he : ent = true → ∃ τ, σ = ρ0 ++ τ) (hs : scHold X M0 s σ L st M) (hd : decode X.2.2.2.2.1.2.1 pc = .ok (if kind = 1 then .invokestatic idx else .invokevirtual idx, 3)) (hq : q ∈ X.2.2.2.1) (hi : q.1 = idx) (hk : q.2.1 = kind) (hk2 : kind = 0 ∨ kind = 1) (ht : scTry X s q = some r) (h : scEnds X ent (pc + 3) s (s.2.2.1.drop q.2.2.2.2.2.2.1.length) q.2.2.2.2.2.2.2.2.2 r q.2.2.2.2.2.2.2.2.1 = some succs) (kk : ∀ q ∈ succs, scGoes X M0 ρ0 σ q) : scGoal X M0 ρ0 pc L st M := by
  obtain ⟨g1, g2, g3, g4, g5, g6⟩ := id hs
  have hcq := hX.2 q hq
  unfold scTry at ht
  split at ht
  · rename_i hb
    simp only [Bool.and_eq_true, Nat.ble_eq] at hb
    obtain ⟨⟨⟨⟨b1, b2⟩, b3⟩, b4⟩, b5⟩ := hb
    generalize hm : q.2.2.2.2.2.2.1.length = m at *
    obtain ⟨t1, t2⟩ := scSk_take m g3
    have t3 : scSk σ (scArgs s.2.2.1 m) (st.take m).reverse := scSk_rev t1
    obtain ⟨env, F, B⟩ := r
    obtain ⟨τ, i1, i2, i3, i4, i5, i6, i7⟩ := scInc_ok (s := (s.1, [], scArgs s.2.2.1 m, s.2.2.2)) (L := []) g1 scLk.nil t3 g4 g5 ht
    have hH : scH X.1 X.2.1 q.2.2.2 := by
      unfold scClk at hcq
      rw [hk] at hcq
      rcases hk2 with e | e <;> subst e <;> exact hcq.2
    have hG := hH M _ _ i4 i6 i7 g5
    have hB := scBk.of i3
    have after : pvGood X.1 q.2.2.2.2.1 q.2.2.2.1 (st.take m).reverse M (pvThen X.1 X.2.2.2.2.2.1 X.2.2.2.2.1 (pc + 3) L (st.drop m) (scEnd X.1 X.2.1 X.2.2.2.2 ρ0 M0)) := by
      refine hG.imp (fun o M' hE => ?_)
      obtain ⟨⟨o', ho, hr, hrf, hme⟩, hI', hF'⟩ := hE
      obtain ⟨env1, k1, k2⟩ := scCutR_ok hB (qs := o'.2.2.2.1) i1 hrf
      obtain ⟨p, τ2, k3, k4, k5⟩ := scMem_ok (qs := o'.2.2.2.2) k2 (scKlW_ok i2 hF') hme
      have hp : scAft q.2.2.2.2.2.2.2.2.2 (env, F, B) o' = some p := by
        simp only [scAft, k1, Option.bind_some]
        exact k3
      have hP := scEnds_ok (X := X) (ent := ent) (pc := pc + 3) (s := s) (S := s.2.2.1.drop m) hp ho h
      have hFr := g6.trans hF' b4
      unfold scEndP at hP
      unfold scRk at hr
      rw [List.append_assoc] at k4 k5
      split at hP
      · rename_i e0
        rw [e0] at hr
        simp only at hr
        subst hr
        exact kk _ hP (τ ++ τ2) L (st.drop m) M' ⟨k4, g2.mono, t2.mono, k5, hI', hFr⟩
      · rename_i e0
        rw [e0] at hr
        obtain ⟨n, en, n1, n2⟩ := hr
        subst en
        refine kk _ hP (τ ++ τ2 ++ [n.toInt]) L (.int n :: st.drop m) M' ?_
        have := k4.push n1 n2
        rw [← List.append_assoc]
        exact ⟨this, g2.mono.mono, ⟨⟨n, rfl, scEv.new k4⟩, t2.mono.mono⟩, k5.mono, hI', hFr⟩
      · rename_i e0
        rw [e0] at hr
        obtain ⟨n, en, n1, n2⟩ := hr
        subst en
        exact kk _ hP (τ ++ τ2) L (.long n :: st.drop m) M' ⟨k4, g2.mono, ⟨⟨n, rfl, n1, n2⟩, t2.mono⟩, k5, hI', hFr⟩
      · rename_i e0
        rw [e0] at hr
        simp only at hr
        subst hr
        refine scOut_ok (σ := σ ++ (τ ++ τ2)) hρ (fun h => ?_) k4 k5 hI' hFr hP (fun o2 h1 _ => ?_)
        · obtain ⟨τ3, e3⟩ := he h
          exact ⟨τ3 ++ (τ ++ τ2), by rw [e3, List.append_assoc]⟩
        · unfold scRk
          rw [h1]
          exact (rfl : (Sum.inr fmIAE : fmR) = Sum.inr fmIAE)
      · rename_i e0
        rw [e0] at hr
        simp only at hr
        subst hr
        refine scOut_ok (σ := σ ++ (τ ++ τ2)) hρ (fun h => ?_) k4 k5 hI' hFr hP (fun o2 h1 _ => ?_)
        · obtain ⟨τ3, e3⟩ := he h
          exact ⟨τ3 ++ (τ ++ τ2), by rw [e3, List.append_assoc]⟩
        · unfold scRk
          rw [h1]
          exact (rfl : (Sum.inr fmNSE : fmR) = Sum.inr fmNSE)
      · exact hP.elim
    have hcat : pvCat (st.drop m) ≤ 8 := by unfold pvCat; rw [scSk_cat t2]; exact b3
    have hlen : m ≤ st.length := by rw [← scSk_len g3]; exact b1
    have hstk : st = (st.take m).reverse.reverse ++ st.drop m := by rw [List.reverse_reverse, List.take_append_drop]
    have hal : (st.take m).reverse.length = m := by simp [hlen]
    subst hi
    rcases hk2 with e | e
    · subst e
      unfold scClk at hcq
      rw [hk] at hcq b5
      simp only [Nat.zero_ne_one, if_false] at hd
      obtain ⟨⟨n, i0, hc1, hc2⟩, -⟩ := hcq
      have hmn : m = n + 1 := by rw [← hm]; exact hc2
      simp only [scRecv] at b5
      cases hA : (st.take m).reverse with
      | nil => rw [hA] at hal; simp at hal; omega
      | cons w As =>
        rw [hA] at t3 after hstk hal
        split at b5
        · rename_i ks tl hS
          rw [hS] at t3
          obtain ⟨k, st', hk', e1, q1⟩ := scSk_r t3
          injection e1 with e1 e2
          subst e1
          subst e2
          have b6 := List.all_eq_true.mp b5 k hk'
          simp only [Bool.and_eq_true, Nat.blt_eq, Nat.beq_eq] at b6
          refine pv_invV (As := As) hc1 b6.1 b6.2 (by simp at hal; omega) rfl (hstk.trans (by simp)) hcat b2 hd after
        · cases b5
    · subst e
      unfold scClk at hcq
      rw [hk] at hcq
      simp only [if_true] at hd
      obtain ⟨⟨hm1, hm2, hm3, i0, ci, hc1⟩, -⟩ := hcq
      rw [hm] at hc1
      exact pv_invS hm1 hm2 hm3 hc1 hal hstk hcat b2 hd after
  · cases ht
theorem scCall_ok {idx kind : Nat} (hX : scXk X) (hρ : ρ0.length = X.2.2.2.2.2.2.1.length) (he : ent = true → ∃ τ, σ = ρ0 ++ τ) (hs : scHold X M0 s σ L st M) (hd : decode X.2.2.2.2.1.2.1 pc = .ok (if kind = 1 then .invokestatic idx else .invokevirtual idx, 3)) (hk2 : kind = 0 ∨ kind = 1) (kk : ∀ q ∈ succs, scGoes X M0 ρ0 σ q) : ∀ {qs : List scCl}, (∀ q ∈ qs, q ∈ X.2.2.2.1) → scCall X ent (pc + 3) s idx kind qs = some succs → scGoal X M0 ρ0 pc L st M
  | [], _, h => by cases h
  | q :: qs, hq, h => by
    simp only [scCall] at h
    split at h
    · rename_i hb
      simp only [Bool.and_eq_true, Nat.beq_eq] at hb
      split at h
      · rename_i r hr
        exact scCall_one hX hρ he hs hd (hq q List.mem_cons_self) hb.1 hb.2 hk2 hr h kk
      · exact scCall_ok hX hρ he hs hd hk2 kk (fun q' hq' => hq q' (List.mem_cons_of_mem _ hq')) h
    · exact scCall_ok hX hρ he hs hd hk2 kk (fun q' hq' => hq q' (List.mem_cons_of_mem _ hq')) h
end ScCall
end
-- P 10gk
section
-- THE CHECKER: any instruction
section ScAll
variable {X : scX} {M0 : fmM} {ρ0 σ : List Int} {s : scS} {L : List (Option Value)} {st : List Value} {M : fmM} {pc : Nat} {succs : List (Nat × scS)} {ent : Bool}
theorem scq_i32 {n : Int} (h1 : -2147483648 ≤ n) (h2 : n ≤ 2147483647) : (Int32.ofInt n).toInt = n := by
  rw [Int32.toInt_ofInt]
  show n.bmod 4294967296 = n
  exact Int.bmod_eq_of_le (by omega) (by omega)
theorem scq_i8 {n : Int} (h1 : -128 ≤ n) (h2 : n ≤ 127) : ((Int8.ofInt n).toInt32).toInt = n := by
  rw [Int8.toInt_toInt32, Int8.toInt_ofInt]
  show n.bmod 256 = n
  exact Int.bmod_eq_of_le (by omega) (by omega)
theorem scq_i16 {n : Int} (h1 : -32768 ≤ n) (h2 : n ≤ 32767) : ((Int16.ofInt n).toInt32).toInt = n := by
  rw [Int16.toInt_toInt32, Int16.toInt_ofInt]
  show n.bmod 65536 = n
  exact Int.bmod_eq_of_le (by omega) (by omega)
theorem scq_01 {v : Int32} (h : ((0, 1) : scI).1 ≤ v.toInt ∧ v.toInt ≤ ((0, 1) : scI).2) : v = 0 ∨ v = 1 := by
  have h1 : (0 : Int) ≤ v.toInt := h.1
  have h2 : v.toInt ≤ 1 := h.2
  rcases (show v.toInt = 0 ∨ v.toInt = 1 by omega) with h | h
  · exact Or.inl (Int32.toInt_inj.mp (by rw [h]; rfl))
  · exact Or.inr (Int32.toInt_inj.mp (by rw [h]; rfl))
theorem scq_fin2 (n : Fin 2) : ((n.val : Int), (n.val : Int)).1 ≤ (Int64.ofNat n.val).toInt ∧ (Int64.ofNat n.val).toInt ≤ ((n.val : Int), (n.val : Int)).2 := by
  match n with
  | 0 => decide
  | 1 => decide
theorem scLmul_ok {e f : scI} {x z : Int64} (hx : e.1 ≤ x.toInt ∧ x.toInt ≤ e.2) (hz : f.1 ≤ z.toInt ∧ z.toInt ≤ f.2) : (scLmul e f).1 ≤ (x * z).toInt ∧ (x * z).toInt ≤ (scLmul e f).2 := by
  unfold scLmul
  split
  · rename_i hf
    simp only [Bool.and_eq_true, decide_eq_true_eq] at hf
    obtain ⟨⟨h1, h2⟩, h3⟩ := hf
    have l1 : e.1 * f.1 ≤ x.toInt * z.toInt := Int.mul_le_mul hx.1 hz.1 h2 (by omega)
    have l2 : x.toInt * z.toInt ≤ e.2 * f.2 := Int.mul_le_mul hx.2 hz.2 (by omega) (by omega)
    have l0 : 0 ≤ e.1 * f.1 := Int.mul_nonneg h1 h2
    have eq : (x * z).toInt = x.toInt * z.toInt := by
      rw [Int64.toInt_mul]
      exact Int.bmod_eq_of_le (by omega) (by omega)
    rw [eq]
    exact ⟨l1, l2⟩
  · exact scq_l _
theorem scOff_in {k dflt : Int} : ∀ (ps : List (Int × Int)), Op.lookupswitch.offset ps dflt k ∈ dflt :: ps.map (fun q => q.2)
  | [] => List.mem_cons_self
  | (a, o) :: r => by
    rw [Op.lookupswitch.offset_cons]
    split
    · exact List.mem_cons_of_mem _ List.mem_cons_self
    · rcases List.mem_cons.mp (scOff_in (k := k) (dflt := dflt) r) with h | h
      · rw [h]
        exact List.mem_cons_self
      · exact List.mem_cons_of_mem _ (List.mem_cons_of_mem _ h)
theorem scLook_ok {dflt : Int} {ps : Array (Int × Int)} {len : Nat} (hs : scHold X M0 s σ L st M) (hd : decode X.2.2.2.2.1.2.1 pc = .ok (.lookupswitch dflt ps, len)) (h : scLook pc s dflt ps = some succs) (kk : ∀ q ∈ succs, scGoes X M0 ρ0 σ q) : scGoal X M0 ρ0 pc L st M := by
  obtain ⟨g1, g2, g3, g4, g5, g6⟩ := id hs
  unfold scLook at h
  split at h
  · rename_i a S e
    have h3 := g3
    rw [e] at h3
    obtain ⟨x, st1, e1, hx, q1⟩ := scSk_i h3
    subst e1
    split at h
    · rename_i hc
      rw [Bool.and_eq_true] at hc
      cases h
      have hm := scOff_in (k := x.toInt) (dflt := dflt) ps.toList
      have h0 := List.all_eq_true.mp hc.2 _ hm
      simp only [decide_eq_true_eq] at h0
      refine pv_lookup ((pc : Int) + Op.lookupswitch.offset ps.toList dflt x.toInt).toNat hc.1 (by omega) hd ?_
      refine kk (_, (s.1, s.2.1, S, s.2.2.2)) (List.mem_map.mpr ⟨_, hm, rfl⟩) [] L st1 M (by rw [List.append_nil]; exact ⟨g1, g2, q1, g4, g5, g6⟩)
    · cases h
  · cases h
theorem scThr_ok {idx : Nat} (hρ : ρ0.length = X.2.2.2.2.2.2.1.length) (he : ent = true → ∃ τ, σ = ρ0 ++ τ) (hs : scHold X M0 s σ L st M) (hd : decode X.2.2.2.2.1.2.1 pc = .ok (.new idx, 3)) (h : scThr X ent pc s idx = some succs) : scGoal X M0 ρ0 pc L st M := by
  obtain ⟨g1, g2, g3, g4, g5, g6⟩ := id hs
  unfold scThr at h
  split at h
  · rename_i e
    have h3 := g3
    rw [e] at h3
    have e2 := scSk_0 h3
    subst e2
    split at h
    · rename_i hb
      simp only [Bool.and_eq_true, Nat.beq_eq, decide_eq_true_eq] at hb
      obtain ⟨⟨b1, b2⟩, b3⟩ := hb
      split at h
      · rename_i hc
        simp only [Bool.and_eq_true, Nat.beq_eq, decide_eq_true_eq] at hc
        obtain ⟨⟨⟨c1, c2⟩, c3⟩, c4⟩ := hc
        subst c1
        refine pv_thrI b1 hd b2 c2 c3 b3 (scOut_ok hρ he g1 g4 g5 g6 c4 (fun o h1 _ => ?_))
        unfold scRk
        rw [h1]
        exact (rfl : (Sum.inr fmIAE : fmR) = Sum.inr fmIAE)
      · split at h
        · rename_i hc
          simp only [Bool.and_eq_true, Nat.beq_eq, decide_eq_true_eq] at hc
          obtain ⟨⟨⟨c1, c2⟩, c3⟩, c4⟩ := hc
          subst c1
          refine pv_thrN b1 hd b2 c2 c3 b3 (scOut_ok hρ he g1 g4 g5 g6 c4 (fun o h1 _ => ?_))
          unfold scRk
          rw [h1]
          exact (rfl : (Sum.inr fmNSE : fmR) = Sum.inr fmNSE)
        · cases h
    · cases h
  · cases h
theorem scStp_ok {i : Instr} {len : Nat} (hX : scXk X) (hρ : ρ0.length = X.2.2.2.2.2.2.1.length) (he : ent = true → ∃ τ, σ = ρ0 ++ τ) (hs : scHold X M0 s σ L st M) (hd0 : decode X.2.2.2.2.1.2.1 pc = .ok (i, len)) (hlen : (pvSw i || Nat.beq len (scLen i)) = true) (h : scStp X ent pc i s = some succs) (kk : ∀ q ∈ succs, scGoes X M0 ρ0 σ q) : scGoal X M0 ρ0 pc L st M := by
  obtain ⟨g1, g2, g3, g4, g5, g6⟩ := id hs
  cases hsw : pvSw i with
  | true =>
    cases i with
    | tableswitch a b c d => exact scTab_ok hs hd0 h kk
    | lookupswitch a b => exact scLook_ok hs hd0 h kk
    | _ => cases hsw
  | false =>
  have hlen : len = scLen i := by
    rw [hsw, Bool.false_or, Nat.beq_eq] at hlen
    exact hlen
  subst hlen
  cases i with
  | iconst n =>
    simp only [scStp] at h
    split at h
    · rename_i hc
      simp only [Bool.and_eq_true, decide_eq_true_eq] at hc
      exact pv_iconst rfl hd0 (scVals_ok hs h kk ⟨⟨_, rfl, scq_i32 (by omega) (by omega)⟩, g3⟩)
    · cases h
  | bipush n =>
    simp only [scStp] at h
    split at h
    · rename_i hc
      simp only [Bool.and_eq_true, decide_eq_true_eq] at hc
      exact pv_bipush rfl hd0 (scVals_ok hs h kk ⟨⟨_, rfl, scq_i8 hc.1 hc.2⟩, g3⟩)
    · cases h
  | sipush n =>
    simp only [scStp] at h
    split at h
    · rename_i hc
      simp only [Bool.and_eq_true, decide_eq_true_eq] at hc
      exact pv_sipush rfl hd0 (scVals_ok hs h kk ⟨⟨_, rfl, scq_i16 hc.1 hc.2⟩, g3⟩)
    · cases h
  | lconst n => exact pv_lconst rfl hd0 (scVals_ok hs h kk ⟨⟨_, rfl, scq_fin2 n⟩, g3⟩)
  | iload_n n => exact scLoad_ok hs h kk (fun _ x hx k => pv_iload_n hx hd0 k) (fun e => by cases e) (fun e => by cases e)
  | iload n => exact scLoad_ok hs h kk (fun _ x hx k => pv_iload hx hd0 k) (fun e => by cases e) (fun e => by cases e)
  | lload_n n => exact scLoad_ok hs h kk (fun e => by cases e) (fun _ x hx k => pv_lload_n hx hd0 k) (fun e => by cases e)
  | lload n => exact scLoad_ok hs h kk (fun e => by cases e) (fun _ x hx k => pv_lload hx hd0 k) (fun e => by cases e)
  | aload_n n => exact scLoad_ok hs h kk (fun e => by cases e) (fun e => by cases e) (fun _ x hx k => pv_aload_n hx hd0 k)
  | aload n => exact scLoad_ok hs h kk (fun e => by cases e) (fun e => by cases e) (fun _ x hx k => pv_aload hx hd0 k)
  | istore_n n => exact scStor_ok hs h kk (fun _ hn x st' k => pv_stI_n hn hd0 k) (fun e => by cases e) (fun e => by cases e)
  | istore n => exact scStor_ok hs h kk (fun _ hn x st' k => pv_stI hn hd0 k) (fun e => by cases e) (fun e => by cases e)
  | lstore_n n => exact scStor_ok hs h kk (fun e => by cases e) (fun _ hn x st' k => pv_stJ_n hn hd0 k) (fun e => by cases e)
  | lstore n => exact scStor_ok hs h kk (fun e => by cases e) (fun _ hn x st' k => pv_stJ hn hd0 k) (fun e => by cases e)
  | astore_n n => exact scStor_ok hs h kk (fun e => by cases e) (fun e => by cases e) (fun _ hn x st' k => pv_stR_n hn hd0 k)
  | astore n => exact scStor_ok hs h kk (fun e => by cases e) (fun e => by cases e) (fun _ hn x st' k => pv_stR hn hd0 k)
  | iinc n v =>
    simp only [scStp] at h
    split at h
    · rename_i a e
      split at h
      · rename_i hc
        simp only [Bool.and_eq_true, decide_eq_true_eq, Nat.blt_eq] at hc
        have hl := g2.2 n
        rw [e] at hl
        cases hL : L.getD n none with
        | none => rw [hL] at hl; exact hl.elim
        | some w =>
          rw [hL] at hl
          obtain ⟨x, e1, hx⟩ := hl
          subst e1
          have hv : scEv σ (none, v) (Int32.ofInt v).toInt := scq_i32 (by omega) (by omega)
          obtain ⟨τ, q1, q2⟩ := scAdd_ok g1 hx hv
          refine pv_stinc hL hc.1.1.2 hd0 (scOne_ok h kk (τ := τ) ?_)
          exact ⟨q1, (g2.kill hc.1.1.1).mono.set n (v := some (.inl (scAdd s.1 a (none, v)).1)) (w := some (.int (x + Int32.ofInt v))) ⟨_, rfl, q2⟩, g3.mono, g4.mono, g5, g6⟩
      · cases h
    · cases h
  | iadd => exact scBin_ok hs h kk (fun ha hb => scAdd_ok g1 ha hb) (fun x z st => pv_iadd hd0)
  | isub => exact scBin_ok hs h kk (fun ha hb => scSubt_ok g1 ha hb) (fun x z st => pv_isub hd0)
  | imul => exact scBin_ok hs h kk (fun ha hb => scMul_ok g1 ha hb) (fun x z st => pv_imul hd0)
  | idiv =>
    simp only [scStp] at h
    split at h
    · rename_i b a S e
      split at h
      · rename_i hc
        simp only [decide_eq_true_eq] at hc
        have h3 := g3
        rw [e] at h3
        obtain ⟨z, st1, e1, hz, q1⟩ := scSk_i h3
        obtain ⟨x, st2, e2, hx, q2⟩ := scSk_i q1
        subst e2
        subst e1
        exact pv_idiv (sc_nz g1 hz hc) hd0 (scPush_ok hs h kk q2 (scDiv_ok g1 hx hz hc))
      · split at h
        · rename_i hc
          simp only [decide_eq_true_eq] at hc
          have h3 := g3
          rw [e] at h3
          obtain ⟨z, st1, e1, hz, q1⟩ := scSk_i h3
          obtain ⟨x, st2, e2, hx, q2⟩ := scSk_i q1
          subst e2
          subst e1
          have iz := hz.iv g1
          refine pv_idiv (fun e0 => ?_) hd0 (scPush_ok hs h kk q2 (scNk.top _ g1))
          rw [e0] at iz
          have z0 : (0 : Int32).toInt = 0 := by decide
          omega
        · cases h
    · cases h
  | irem =>
    simp only [scStp] at h
    split at h
    · rename_i b a S e
      split at h
      · rename_i hc
        simp only [decide_eq_true_eq] at hc
        have h3 := g3
        rw [e] at h3
        obtain ⟨z, st1, e1, hz, q1⟩ := scSk_i h3
        obtain ⟨x, st2, e2, hx, q2⟩ := scSk_i q1
        subst e2
        subst e1
        exact pv_irem (sc_nz g1 hz hc) hd0 (scPush_ok hs h kk q2 (scNk.top _ g1))
      · cases h
    · cases h
  | iand => exact scBin_ok hs h kk (fun ha hb => scAnd_ok g1 ha hb) (fun x z st => pv_iand hd0)
  | ior => exact scBinT_ok hs h kk (fun x z st => pv_ior hd0)
  | ixor => exact scBinT_ok hs h kk (fun x z st => pv_ixor hd0)
  | ishl => exact scBinT_ok (op := fun x z => x <<< (z &&& 31)) hs h kk (fun x z st => pv_ishl hd0)
  | ishr => exact scBinT_ok (op := fun x z => x >>> (z &&& 31)) hs h kk (fun x z st => pv_ishr hd0)
  | iushr => exact scBinT_ok (op := fun x z => (x.toUInt32 >>> (z.toUInt32 &&& Int32.toUInt32 31)).toInt32) hs h kk (fun x z st => pv_iushr hd0)
  | ineg =>
    simp only [scStp] at h
    split at h
    · rename_i a S e
      have h3 := g3
      rw [e] at h3
      obtain ⟨x, st1, e1, hx, q1⟩ := scSk_i h3
      subst e1
      refine pv_ineg hd0 (scPush_ok hs h kk q1 ?_)
      rw [show -x = 0 - x from (Int32.zero_sub x).symm]
      exact scSubt_ok g1 (show scEv σ (none, 0) (0 : Int32).toInt from rfl) hx
    · cases h
  | i2b =>
    simp only [scStp] at h
    split at h
    · rename_i a S e
      have h3 := g3
      rw [e] at h3
      obtain ⟨x, st1, e1, hx, q1⟩ := scSk_i h3
      subst e1
      exact pv_i2b hd0 (scPush_ok hs h kk q1 (scNk.top _ g1))
    · cases h
  | i2l =>
    simp only [scStp] at h
    split at h
    · rename_i a S e
      have h3 := g3
      rw [e] at h3
      obtain ⟨x, st1, e1, hx, q1⟩ := scSk_i h3
      subst e1
      refine pv_i2l hd0 (scVals_ok hs h kk ⟨⟨_, rfl, ?_⟩, q1⟩)
      rw [Int32.toInt_toInt64]
      exact hx.iv g1
    · cases h
  | l2i =>
    simp only [scStp] at h
    split at h
    · rename_i a S e
      have h3 := g3
      rw [e] at h3
      obtain ⟨x, st1, e1, hx, q1⟩ := scSk_j h3
      subst e1
      exact pv_l2i hd0 (scPush_ok hs h kk q1 (scNk.top _ g1))
    · cases h
  | ladd => exact scLong2_ok hs h kk (fun x z st => pv_ladd hd0)
  | lsub => exact scLong2_ok hs h kk (fun x z st => pv_lsub hd0)
  | lmul =>
    simp only [scStp] at h
    split at h
    · rename_i f e S es
      have h3 := g3
      rw [es] at h3
      obtain ⟨z, st1, e1, hz, q1⟩ := scSk_j h3
      obtain ⟨x, st2, e2, hx, q2⟩ := scSk_j q1
      subst e2
      subst e1
      exact pv_lmul hd0 (scVals_ok hs h kk ⟨⟨_, rfl, scLmul_ok hx hz⟩, q2⟩)
    · cases h
  | land => exact scLong2_ok hs h kk (fun x z st => pv_land hd0)
  | lor => exact scLong2_ok hs h kk (fun x z st => pv_lor hd0)
  | lxor => exact scLong2_ok hs h kk (fun x z st => pv_lxor hd0)
  | ldiv =>
    simp only [scStp] at h
    split at h
    · rename_i f a S e
      split at h
      · rename_i hc
        simp only [decide_eq_true_eq] at hc
        have h3 := g3
        rw [e] at h3
        obtain ⟨z, st1, e1, hz, q1⟩ := scSk_j h3
        obtain ⟨x, st2, e2, hx, q2⟩ := scSk_j q1
        subst e2
        subst e1
        refine pv_ldiv (fun e0 => ?_) hd0 (scVals_ok hs h kk ⟨⟨_, rfl, scq_l _⟩, q2⟩)
        rw [e0] at hz
        have z0 : (0 : Int64).toInt = 0 := by decide
        omega
      · cases h
    · cases h
  | lshl =>
    simp only [scStp] at h
    split at h
    · rename_i b a S e
      have h3 := g3
      rw [e] at h3
      obtain ⟨z, st1, e1, hz, q1⟩ := scSk_i h3
      obtain ⟨x, st2, e2, hx, q2⟩ := scSk_j q1
      subst e2
      subst e1
      exact pv_lshl hd0 (scVals_ok hs h kk ⟨⟨_, rfl, scq_l _⟩, q2⟩)
    · cases h
  | lshr =>
    simp only [scStp] at h
    split at h
    · rename_i b a S e
      have h3 := g3
      rw [e] at h3
      obtain ⟨z, st1, e1, hz, q1⟩ := scSk_i h3
      obtain ⟨x, st2, e2, hx, q2⟩ := scSk_j q1
      subst e2
      subst e1
      exact pv_lshr hd0 (scVals_ok hs h kk ⟨⟨_, rfl, scq_l _⟩, q2⟩)
    · cases h
  | lcmp =>
    simp only [scStp] at h
    split at h
    · rename_i b a S e
      have h3 := g3
      rw [e] at h3
      obtain ⟨z, st1, e1, hz, q1⟩ := scSk_j h3
      obtain ⟨x, st2, e2, hx, q2⟩ := scSk_j q1
      subst e2
      subst e1
      exact pv_lcmp hd0 (scPush_ok hs h kk q2 (scNk.top _ g1))
    · cases h
  | dup =>
    simp only [scStp] at h
    split at h
    · rename_i a S e
      have h3 := g3
      rw [e] at h3
      obtain ⟨x, st1, e1, hx, q1⟩ := scSk_i h3
      subst e1
      exact pv_dup rfl hd0 (scVals_ok hs h kk ⟨⟨x, rfl, hx⟩, ⟨x, rfl, hx⟩, q1⟩)
    · rename_i a S e
      have h3 := g3
      rw [e] at h3
      obtain ⟨x, st1, e1, hx, q1⟩ := scSk_q h3
      subst e1
      exact pv_dup rfl hd0 (scVals_ok hs h kk ⟨hx, hx, q1⟩)
    · cases h
  | dup2 =>
    simp only [scStp] at h
    split at h
    · rename_i a r S e
      have h3 := g3
      rw [e] at h3
      obtain ⟨x, st1, e1, hx, q1⟩ := scSk_i h3
      obtain ⟨w, st2, e2, hw, q2⟩ := scSk_q q1
      subst e2
      subst e1
      exact pv_dup2 rfl rfl hd0 (scVals_ok hs h kk ⟨⟨x, rfl, hx⟩, hw, ⟨x, rfl, hx⟩, hw, q2⟩)
    · cases h
  | pop =>
    simp only [scStp] at h
    split at h
    · rename_i a S e
      have h3 := g3
      rw [e] at h3
      obtain ⟨x, st1, e1, hx, q1⟩ := scSk_i h3
      subst e1
      exact pv_pop rfl hd0 (scVals_ok hs h kk q1)
    · rename_i a S e
      have h3 := g3
      rw [e] at h3
      obtain ⟨x, st1, e1, hx, q1⟩ := scSk_q h3
      subst e1
      exact pv_pop rfl hd0 (scVals_ok hs h kk q1)
    · cases h
  | goto off =>
    simp only [scStp] at h
    split at h
    · rename_i hc
      simp only [decide_eq_true_eq] at hc
      refine pv_goto ((pc : Int) + off).toNat (by omega) hd0 (scOne_ok h kk (τ := []) ?_)
      rw [List.append_nil]
      exact hs
    · cases h
  | ifCond c off =>
    simp only [scStp] at h
    split at h
    · rename_i a S e
      have h3 := g3
      rw [e] at h3
      obtain ⟨x, st1, e1, hx, q1⟩ := scSk_i h3
      subst e1
      obtain ⟨⟨tgt, ht, k1⟩, k2⟩ := sc_br hs h kk q1 hx (show scEv σ (none, 0) 0 from rfl)
      exact pv_ifc c ht hd0 k1 k2
    · cases h
  | if_icmp c off =>
    simp only [scStp] at h
    split at h
    · rename_i b a S e
      have h3 := g3
      rw [e] at h3
      obtain ⟨z, st1, e1, hz, q1⟩ := scSk_i h3
      obtain ⟨x, st2, e2, hx, q2⟩ := scSk_i q1
      subst e2
      subst e1
      obtain ⟨⟨tgt, ht, k1⟩, k2⟩ := sc_br hs h kk q2 hx hz
      exact pv_icmp c ht hd0 k1 k2
    · cases h
  | getfield idx => exact scGet_ok hX hs hd0 h kk
  | putfield idx => exact scPut_ok hX hs hd0 h kk
  | iaload => exact scAldI_ok hs hd0 h kk
  | laload => exact scAldJ_ok hs hd0 h kk
  | baload => exact scAldB_ok hs hd0 h kk
  | iastore => exact scAstI_ok hs hd0 h kk
  | lastore => exact scAstJ_ok hs hd0 h kk
  | bastore => exact scAstB_ok hs hd0 h kk
  | aaload => exact scAald_ok hs hd0 h kk
  | arraylength => exact scAlen_ok hs hd0 h kk
  | ldc idx => exact scLdcI_ok hX hs hd0 h kk
  | ldc_w idx =>
    simp only [scStp] at h
    split at h
    · rename_i j v hf
      exact pv_ldcw (scKc_of hX hf) hd0 (scVals_ok hs h kk ⟨⟨v, rfl, rfl⟩, g3⟩)
    · cases h
  | ldc2_w idx => exact scLdcJ_ok hX hs hd0 h kk
  | invokevirtual idx =>
    simp only [scStp] at h
    split at h
    · rename_i r hr
      cases h
      exact scCall_ok (kind := 0) hX hρ he hs hd0 (Or.inl rfl) kk (fun _ h => h) hr
    · exact scStr_ok hX hs hd0 h kk
  | invokestatic idx =>
    simp only [scStp, scStat] at h
    split at h
    · rename_i q hf
      obtain ⟨q1, q2⟩ := q
      have hm : pvMm X.2.2.2.2.1.1.cls idx = some (q1, q2) := by
        unfold pvMm
        rw [hX.1]
        exact hf
      exact scMmx_ok hm hs hd0 h kk
    · rename_i hf
      have hm : pvMm X.2.2.2.2.1.1.cls idx = none := by
        unfold pvMm
        rw [hX.1]
        exact hf
      split at h
      · rename_i hc
        have hc9 : pvCp X.2.2.2.2.1.1.cls idx = true := by
          unfold pvCp
          rw [hX.1]
          exact hc
        exact scCpy_ok hm hc9 hs hd0 h kk
      · rename_i hc
        have hc9 : pvCp X.2.2.2.2.1.1.cls idx = false := by
          unfold pvCp
          rw [hX.1]
          exact Bool.eq_false_iff.mpr hc
        split at h
        · rename_i hl
          have hl9 : ∃ i0 b, pvMl X.2.2.2.2.1.1.cls idx = some (i0, b) := by
            unfold pvMl
            rw [hX.1]
            cases hq : X.2.2.1.1.2.2.2.2.find? (fun q => Nat.beq q.1 idx) with
            | none =>
              rw [List.find?_eq_none] at hq
              obtain ⟨q, hq1, e⟩ := List.any_eq_true.mp hl
              exact absurd e (hq q hq1)
            | some q => exact ⟨q.1, q.2, rfl⟩
          obtain ⟨i0, b, hl9⟩ := hl9
          unfold scLl at h
          split at h
          · rename_i o2 o1 S e
            have h3 := g3
            rw [e] at h3
            obtain ⟨z, st1, e1, hz, q1⟩ := scSk_j h3
            obtain ⟨x, st2, e2, hx, q2⟩ := scSk_j q1
            subst e2
            subst e1
            split at h
            · rename_i hc2
              simp only [Bool.and_eq_true, Nat.ble_eq] at hc2
              exact pv_ml hm hc9 hl9 hc2.1 (by unfold pvCat; rw [scSk_cat q2]; exact hc2.2) hd0 (scVals_ok hs h kk ⟨⟨_, rfl, scq_l _⟩, q2⟩)
            · cases h
          · cases h
        · exact scCall_ok (kind := 1) hX hρ he hs hd0 (Or.inr rfl) kk (fun _ h => h) h
  | ireturn =>
    simp only [scStp] at h
    split at h
    · rename_i a e
      have h3 := g3
      rw [e] at h3
      obtain ⟨x, st1, e1, hx, q1⟩ := scSk_i h3
      have e2 := scSk_0 q1
      subst e2
      subst e1
      have hr : ∀ o : scO, o.1 = 1 → scSub (scIv s.1 a) o.2.1 = true → scRk o (.inl (some (.int x))) := by
        intro o h1 h2
        unfold scRk
        rw [h1]
        exact ⟨x, rfl, (scSub_ok h2 (hx.iv g1)).1, (scSub_ok h2 (hx.iv g1)).2⟩
      split at h
      · rename_i hy
        split at h
        · rename_i ho
          exact pv_ireturn hy hd0 (scOut_ok hρ he g1 g4 g5 g6 ho hr)
        · cases h
      · rename_i hy
        split at h
        · rename_i ho
          rw [Bool.and_eq_true] at ho
          have hb := scSub_ok ho.2 (hx.iv g1)
          exact pv_zreturn hy (scq_01 hb) hd0 (scOut_ok hρ he g1 g4 g5 g6 ho.1 hr)
        · cases h
      · cases h
    · cases h
  | lreturn =>
    simp only [scStp] at h
    split at h
    · rename_i a e
      have h3 := g3
      rw [e] at h3
      obtain ⟨x, st1, e1, hx, q1⟩ := scSk_j h3
      have e2 := scSk_0 q1
      subst e2
      subst e1
      split at h
      · rename_i hy
        split at h
        · rename_i ho
          refine pv_lreturn hy hd0 (scOut_ok hρ he g1 g4 g5 g6 ho (fun o h1 h2 => ?_))
          unfold scRk
          rw [h1]
          exact ⟨x, rfl, (scSub_ok h2 hx).1, (scSub_ok h2 hx).2⟩
        · cases h
      · cases h
    · cases h
  | return_ =>
    simp only [scStp] at h
    split at h
    · rename_i e
      have h3 := g3
      rw [e] at h3
      have e2 := scSk_0 h3
      subst e2
      split at h
      · rename_i hy
        split at h
        · rename_i ho
          refine pv_return hy hd0 (scOut_ok hρ he g1 g4 g5 g6 ho (fun o h1 _ => ?_))
          unfold scRk
          rw [h1]
          exact (rfl : (Sum.inl none : fmR) = Sum.inl none)
        · cases h
      · cases h
    · cases h
  | tableswitch a b c d => cases hsw
  | lookupswitch a b => cases hsw
  | new idx => exact scThr_ok hρ he hs hd0 h
  | _ => cases h
end ScAll
end
-- P 10gl
section
-- THE CHECKER: a whole method
abbrev scN : Type := Nat × scS × scK
abbrev scD : Type := List (Nat × Instr × Nat)
def scSeek (pc : Nat) : scD → Option (Instr × Nat × scD)
  | [] => none
  | q :: r => bif Nat.beq q.1 pc then some (q.2.1, q.2.2, r) else scSeek pc r
def scFind (dl rest : scD) (pc : Nat) : Option (Instr × Nat × scD) := match rest with
  | q :: r => bif Nat.beq q.1 pc then some (q.2.1, q.2.2, r) else bif Nat.blt q.1 pc then scSeek pc r else scSeek pc dl
  | [] => scSeek pc dl
theorem scSeek_ok {dl : scD} {pc : Nat} {i : Instr} {len : Nat} {r : scD} : ∀ {l : scD}, (∀ q ∈ l, q ∈ dl) → scSeek pc l = some (i, len, r) → (pc, i, len) ∈ dl ∧ ∀ q ∈ r, q ∈ dl
  | [], _, h => by cases h
  | q :: l, hl, h => by
    have h : (bif Nat.beq q.1 pc then some (q.2.1, q.2.2, l) else scSeek pc l) = some (i, len, r) := h
    cases e : Nat.beq q.1 pc with
    | true =>
      rw [e] at h
      have h : some (q.2.1, q.2.2, l) = some (i, len, r) := h
      rw [Nat.beq_eq] at e
      cases h
      refine ⟨?_, fun q' hq' => hl q' (List.mem_cons_of_mem _ hq')⟩
      rw [← e]
      exact hl q List.mem_cons_self
    | false =>
      rw [e] at h
      exact scSeek_ok (fun q' hq' => hl q' (List.mem_cons_of_mem _ hq')) h
theorem scFind_ok {dl rest : scD} {pc : Nat} {i : Instr} {len : Nat} {r : scD} (hr : ∀ q ∈ rest, q ∈ dl) (h : scFind dl rest pc = some (i, len, r)) : (pc, i, len) ∈ dl ∧ ∀ q ∈ r, q ∈ dl := by
  cases rest with
  | nil => exact scSeek_ok (fun _ h => h) h
  | cons q l =>
    have h : (bif Nat.beq q.1 pc then some (q.2.1, q.2.2, l) else bif Nat.blt q.1 pc then scSeek pc l else scSeek pc dl) = some (i, len, r) := h
    cases e : Nat.beq q.1 pc with
    | true =>
      rw [e] at h
      have h : some (q.2.1, q.2.2, l) = some (i, len, r) := h
      rw [Nat.beq_eq] at e
      cases h
      refine ⟨?_, fun q' hq' => hr q' (List.mem_cons_of_mem _ hq')⟩
      rw [← e]
      exact hr q List.mem_cons_self
    | false =>
      rw [e] at h
      cases e2 : Nat.blt q.1 pc with
      | true =>
        rw [e2] at h
        exact scSeek_ok (fun q' hq' => hr q' (List.mem_cons_of_mem _ hq')) h
      | false =>
        rw [e2] at h
        exact scSeek_ok (fun _ h => h) h
/-- the places of nodes, each once -/
def scPcs : List scN → List Nat
  | [] => []
  | n :: r => if (scPcs r).any (fun p => Nat.beq p n.1) then scPcs r else n.1 :: scPcs r
/-- a rank by numbers alone is read first -/
def scQk (r0 : Option scK) (k : scK) : Bool := match r0 with
  | none => true
  | some r => !(r.1.isEmpty && k.1.isEmpty) || decide (k.2 < r.2)
def scArr (X : scX) (nodes : List scN) (r0 : Option scK) (ih : Nat → scS → Bool) (q : Nat × scS) : Bool := if (scPcs nodes).any (fun p => Nat.beq p q.1) then nodes.any (fun n => Nat.beq n.1 q.1 && (scQk r0 n.2.2 && (match scInc X.1 X.2.1 q.2 n.2.1 with
  | some r => scLess r.1 r0 n.2.2 r.2.2
  | none => false))) else ih q.1 q.2
noncomputable def scGo (X : scX) (dl : scD) (nodes : List scN) (r0 : Option scK) (ent : Bool) (fuel : Nat) : scD → Nat → scS → Bool := Nat.rec (motive := fun _ => scD → Nat → scS → Bool) (fun _ _ _ => false) (fun _ ih rest pc s => match scFind dl rest pc with
  | none => false
  | some q => (pvSw q.1 || Nat.beq q.2.1 (scLen q.1)) && (match scStp X ent pc q.1 s with
    | none => false
    | some succs => succs.all (scArr X nodes r0 (ih q.2.2)))) fuel
theorem scRank_app {r : scK} {σ τ : List Int} (h : r.1.length ≤ σ.length) : scRank r (σ ++ τ) = scRank r σ := by
  unfold scRank
  rw [scDot_app τ h]
theorem scGo_ok {X : scX} {dl : scD} {nodes : List scN} {r0 : Option scK} {ent : Bool} {M0 : fmM} {ρ0 : List Int} {R : Int} (hX : scXk X) (hdl : fmDec X.2.2.2.2.1.2.1 dl = true) (hρ : ρ0.length = X.2.2.2.2.2.2.1.length) (IH : ∀ n ∈ nodes, ∀ (ρ : List Int) (L : List (Option Value)) (st : List Value) (M : fmM), scHold X M0 n.2.1 ρ L st M → (r0.isSome = true → scRank n.2.2 ρ < R) → scGoal X M0 ρ0 n.1 L st M) : ∀ {fuel : Nat} {rest : scD} {pc : Nat} {s : scS} {σ : List Int} {L : List (Option Value)} {st : List Value} {M : fmM}, (∀ q ∈ rest, q ∈ dl) → (ent = true → ∃ τ, σ = ρ0 ++ τ) → (∀ r, r0 = some r → r.1.length ≤ σ.length ∧ scRank r σ = R) → scHold X M0 s σ L st M → scGo X dl nodes r0 ent fuel rest pc s = true → scGoal X M0 ρ0 pc L st M
  | 0, rest, pc, s, σ, L, st, M, _, _, _, _, h => by cases h
  | fuel + 1, rest, pc, s, σ, L, st, M, hr, he, hR, hs, h => by
    change (match scFind dl rest pc with
      | none => false
      | some q => (pvSw q.1 || Nat.beq q.2.1 (scLen q.1)) && (match scStp X ent pc q.1 s with
        | none => false
        | some succs => succs.all (scArr X nodes r0 (scGo X dl nodes r0 ent fuel q.2.2)))) = true at h
    split at h
    · cases h
    · rename_i q hq
      obtain ⟨i, len, r⟩ := q
      obtain ⟨f1, f2⟩ := scFind_ok hr hq
      have hd : decode X.2.2.2.2.1.2.1 pc = .ok (i, len) := by
        have := List.all_eq_true.mp hdl _ f1
        simpa using this
      rw [Bool.and_eq_true] at h
      obtain ⟨h1, h2⟩ := h
      split at h2
      · cases h2
      · rename_i succs hsu
        refine scStp_ok hX hρ he hs hd h1 hsu (fun q hq τ L' st' M' hs' => ?_)
        have h3 := List.all_eq_true.mp h2 q hq
        have he' : ent = true → ∃ τ', σ ++ τ = ρ0 ++ τ' := fun h => by
          obtain ⟨τ', e⟩ := he h
          exact ⟨τ' ++ τ, by rw [e, List.append_assoc]⟩
        have hR' : ∀ r, r0 = some r → r.1.length ≤ (σ ++ τ).length ∧ scRank r (σ ++ τ) = R := fun r h => by
          obtain ⟨e1, e2⟩ := hR r h
          exact ⟨by rw [List.length_append]; omega, by rw [scRank_app e1]; exact e2⟩
        unfold scArr at h3
        split at h3
        · obtain ⟨n, hn, h4⟩ := List.any_eq_true.mp h3
          rw [Bool.and_eq_true, Nat.beq_eq] at h4
          obtain ⟨h5, h6⟩ := h4
          rw [Bool.and_eq_true] at h6
          replace h6 := h6.2
          split at h6
          · rename_i p hp
            obtain ⟨env, F, B⟩ := p
            obtain ⟨k1, k2, k3, k4, k5, k6⟩ := hs'
            obtain ⟨τ2, i1, i2, i3, i4, i5, i6, i7⟩ := scInc_ok k1 k2 k3 k4 k5 hp
            rw [← h5]
            refine (IH n hn _ _ st' M' ⟨i4, i5, i6, i7, k5, k6⟩ (fun hs => ?_))
            cases r0 with
            | none => cases hs
            | some r0 =>
              obtain ⟨e1, e2⟩ := hR' r0 rfl
              have := scLess_ok i1 h6
              rw [scRank_app e1, e2] at this
              exact this
          · cases h6
        · exact scGo_ok hX hdl hρ IH f2 he' hR' hs' h3
def scLocs : List scV → List (Option scV)
  | [] => []
  | v :: vs => match v with
    | .inr (.inl o) => some (.inr (.inl o)) :: none :: scLocs vs
    | v => some v :: scLocs vs
def scEnt (X : scX) : scS := (X.2.2.2.2.2.2.1, scLocs X.2.2.2.2.2.2.2.1 ++ List.replicate (X.2.2.2.2.1.2.2.1 - (scLocs X.2.2.2.2.2.2.2.1).length) none, [], X.2.2.2.2.2.2.2.2.1)
noncomputable def scCheck (X : scX) (dl : scD) (nodes : List scN) (fuel : Nat) : Bool := nodes.all (fun n => scPos n.2.1.1 n.2.2 && scGo X dl nodes (some n.2.2) false fuel dl n.1 n.2.1) && scGo X dl nodes none true fuel dl 0 (scEnt X) && Nat.ble (scLocs X.2.2.2.2.2.2.2.1).length X.2.2.2.2.1.2.2.1
theorem scLk.app {σ : List Int} {Λ : List (Option scV)} {L : List (Option Value)} : ∀ {Λ' : List (Option scV)} {L' : List (Option Value)}, scLk σ Λ' L' → scLk σ Λ L → scLk σ (Λ' ++ Λ) (L' ++ L)
  | [], [], _, h => h
  | _ :: _, _ :: _, h', h => scLk.cons h'.tail.1 (scLk.app h'.tail.2 h)
  | [], _ :: _, h', _ => by have := h'.1; simp at this
  | _ :: _, [], h', _ => by have := h'.1; simp at this
theorem scLk.rep {σ : List Int} : ∀ (n : Nat), scLk σ (List.replicate n none) (List.replicate n none)
  | 0 => scLk.nil
  | n + 1 => scLk.cons trivial (scLk.rep n)
theorem scLocs_ok {σ : List Int} : ∀ {vs : List scV} {as : List Value}, scSk σ vs as → scLk σ (scLocs vs) (fmArgs as) ∧ (lg_sl as).length = (scLocs vs).length
  | [], [], _ => ⟨scLk.nil, rfl⟩
  | .inl a :: vs, w :: as, h => by
    obtain ⟨⟨n, e, hn⟩, h2⟩ := h
    subst e
    obtain ⟨i1, i2⟩ := scLocs_ok h2
    refine ⟨scLk.cons (v := some (.inl a)) (w := some (.int n)) ⟨n, rfl, hn⟩ i1, ?_⟩
    show (lg_sl as).length + 1 = (scLocs vs).length + 1
    rw [i2]
  | .inr (.inl a) :: vs, w :: as, h => by
    obtain ⟨⟨n, e, hn⟩, h2⟩ := h
    subst e
    obtain ⟨i1, i2⟩ := scLocs_ok h2
    refine ⟨scLk.cons (v := some (.inr (.inl a))) (w := some (.long n)) ⟨n, rfl, hn⟩ (scLk.cons trivial i1), ?_⟩
    show (lg_sl as).length + 1 + 1 = (scLocs vs).length + 1 + 1
    rw [i2]
  | .inr (.inr (.inl a)) :: vs, w :: as, h => by
    obtain ⟨⟨n, hn, e⟩, h2⟩ := h
    subst e
    obtain ⟨i1, i2⟩ := scLocs_ok h2
    refine ⟨scLk.cons (v := some (.inr (.inr (.inl a)))) (w := some (.ref n)) ⟨n, hn, rfl⟩ i1, ?_⟩
    show (lg_sl as).length + 1 = (scLocs vs).length + 1
    rw [i2]
  | .inr (.inr (.inr a)) :: vs, w :: as, h => by
    obtain ⟨e, h2⟩ := h
    have e : w = .ref (1000 + a) := e
    subst e
    obtain ⟨i1, i2⟩ := scLocs_ok h2
    refine ⟨scLk.cons (v := some (.inr (.inr (.inr a)))) (w := some (.ref (1000 + a))) rfl i1, ?_⟩
    show (lg_sl as).length + 1 = (scLocs vs).length + 1
    rw [i2]
  | [], _ :: _, h => h.elim
  | _ :: _, [], h => h.elim
theorem scCheck_ok {X : scX} {dl : scD} {nodes : List scN} {fuel : Nat} (hX : scXk X) (hdl : fmDec X.2.2.2.2.1.2.1 dl = true) (h : scCheck X dl nodes fuel = true) : scH X.1 X.2.1 X.2.2.2.2 := by
  unfold scCheck at h
  rw [Bool.and_eq_true, Bool.and_eq_true, Nat.ble_eq] at h
  obtain ⟨⟨h1, h2⟩, h3⟩ := h
  intro M σ as g1 g2 g3 g4
  have hρ : σ.length = X.2.2.2.2.2.2.1.length := g1.1.symm
  have all : ∀ (N : Nat), ∀ n ∈ nodes, ∀ (ρ : List Int) (L : List (Option Value)) (st : List Value) (M' : fmM), scHold X M n.2.1 ρ L st M' → scRank n.2.2 ρ < N → scGoal X M σ n.1 L st M' := by
    intro N
    induction N with
    | zero =>
      intro n hn ρ L st M' hs hr
      have hn1 := List.all_eq_true.mp h1 n hn
      rw [Bool.and_eq_true] at hn1
      have := (scPos_ok hs.1 hn1.1).1
      omega
    | succ N ih =>
      intro n hn ρ L st M' hs hr
      have hn1 := List.all_eq_true.mp h1 n hn
      rw [Bool.and_eq_true] at hn1
      have hp := scPos_ok hs.1 hn1.1
      refine scGo_ok (R := scRank n.2.2 ρ) hX hdl hρ (fun n' hn' ρ' L' st' M'' hs' hr' => ih n' hn' ρ' L' st' M'' hs' ?_) (fun _ h => h) (fun h => by cases h) (fun r hr2 => ?_) hs hn1.2
      · have := hr' rfl
        omega
      · cases hr2
        exact ⟨hp.2, rfl⟩
  obtain ⟨q1, q2⟩ := scLocs_ok g2
  refine pvGood_of (by rw [q2]; exact h3) ?_
  refine scGo_ok (R := 0) hX hdl hρ (fun n hn ρ L st M' hs _ => ?_) (fun _ h => h) (fun _ => ⟨[], by rw [List.append_nil]⟩) (fun r hr => by cases hr) (s := scEnt X) ⟨g1, ?_, trivial, g3, g4, fun _ _ _ => ⟨rfl, rfl⟩⟩ h2
  · refine all ((scRank n.2.2 ρ).toNat + 1) n hn ρ L st M' hs ?_
    omega
  · have e : (fmArgs as).length = (scLocs X.2.2.2.2.2.2.2.1).length := q1.1.symm
    unfold pvEnt
    rw [e]
    exact scLk.app q1 (scLk.rep _)
end
