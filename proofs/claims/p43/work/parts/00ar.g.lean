-- P 10gl
section
-- THE CHECKER: a whole method
abbrev scN : Type := Nat × scS × scK
abbrev scD : Type := List (Nat × Instr × Nat)
def scSeek (pc : Nat) : scD → Option (Instr × Nat × scD)
  | [] => none
  | q :: r => bif Nat.beq q.1 pc then some (q.2.1, q.2.2, r) else scSeek pc r
def scFind (dl rest : scD) (pc : Nat) : Option (Instr × Nat × scD) := match rest with
  | q :: r => bif Nat.beq q.1 pc then some (q.2.1, q.2.2, r) else bif Nat.blt q.1 pc then scSeek pc r else scSeek pc dl
  | [] => scSeek pc dl
theorem scSeek_ok {dl : scD} {pc : Nat} {i : Instr} {len : Nat} {r : scD} : ∀ {l : scD}, (∀ q ∈ l, q ∈ dl) → scSeek pc l = some (i, len, r) → (pc, i, len) ∈ dl ∧ ∀ q ∈ r, q ∈ dl
  | [], _, h => by cases h
  | q :: l, hl, h => by
    have h : (bif Nat.beq q.1 pc then some (q.2.1, q.2.2, l) else scSeek pc l) = some (i, len, r) := h
    cases e : Nat.beq q.1 pc with
    | true =>
      rw [e] at h
      have h : some (q.2.1, q.2.2, l) = some (i, len, r) := h
      rw [Nat.beq_eq] at e
      cases h
      refine ⟨?_, fun q' hq' => hl q' (List.mem_cons_of_mem _ hq')⟩
      rw [← e]
      exact hl q List.mem_cons_self
    | false =>
      rw [e] at h
      exact scSeek_ok (fun q' hq' => hl q' (List.mem_cons_of_mem _ hq')) h
theorem scFind_ok {dl rest : scD} {pc : Nat} {i : Instr} {len : Nat} {r : scD} (hr : ∀ q ∈ rest, q ∈ dl) (h : scFind dl rest pc = some (i, len, r)) : (pc, i, len) ∈ dl ∧ ∀ q ∈ r, q ∈ dl := by
  cases rest with
  | nil => exact scSeek_ok (fun _ h => h) h
  | cons q l =>
    have h : (bif Nat.beq q.1 pc then some (q.2.1, q.2.2, l) else bif Nat.blt q.1 pc then scSeek pc l else scSeek pc dl) = some (i, len, r) := h
    cases e : Nat.beq q.1 pc with
    | true =>
      rw [e] at h
      have h : some (q.2.1, q.2.2, l) = some (i, len, r) := h
      rw [Nat.beq_eq] at e
      cases h
      refine ⟨?_, fun q' hq' => hr q' (List.mem_cons_of_mem _ hq')⟩
      rw [← e]
      exact hr q List.mem_cons_self
    | false =>
      rw [e] at h
      cases e2 : Nat.blt q.1 pc with
      | true =>
        rw [e2] at h
        exact scSeek_ok (fun q' hq' => hr q' (List.mem_cons_of_mem _ hq')) h
      | false =>
        rw [e2] at h
        exact scSeek_ok (fun _ h => h) h
/-- a rank by numbers alone is read first -/
def scQk (r0 : Option scK) (k : scK) : Bool := match r0 with
  | none => true
  | some r => !(r.1.isEmpty && k.1.isEmpty) || decide (k.2 < r.2)
def scArr (X : scX) (nodes : List scN) (r0 : Option scK) (ih : Nat → scS → Bool) (q : Nat × scS) : Bool := if nodes.any (fun n => Nat.beq n.1 q.1) then nodes.any (fun n => Nat.beq n.1 q.1 && (scQk r0 n.2.2 && (match scInc X.1 X.2.1 q.2 n.2.1 with
  | some r => scLess r.1 r0 n.2.2 r.2.2
  | none => false))) else ih q.1 q.2
noncomputable def scGo (X : scX) (dl : scD) (nodes : List scN) (r0 : Option scK) (ent : Bool) (fuel : Nat) : scD → Nat → scS → Bool := Nat.rec (motive := fun _ => scD → Nat → scS → Bool) (fun _ _ _ => false) (fun _ ih rest pc s => match scFind dl rest pc with
  | none => false
  | some q => (pvSw q.1 || Nat.beq q.2.1 (scLen q.1)) && (match scStp X ent pc q.1 s with
    | none => false
    | some succs => succs.all (scArr X nodes r0 (ih q.2.2)))) fuel
theorem scRank_app {r : scK} {σ τ : List Int} (h : r.1.length ≤ σ.length) : scRank r (σ ++ τ) = scRank r σ := by
  unfold scRank
  rw [scDot_app τ h]
theorem scGo_ok {X : scX} {dl : scD} {nodes : List scN} {r0 : Option scK} {ent : Bool} {M0 : fmM} {ρ0 : List Int} {R : Int} (hX : scXk X) (hdl : fmDec X.2.2.2.2.1.2.1 dl = true) (hρ : ρ0.length = X.2.2.2.2.2.2.1.length) (IH : ∀ n ∈ nodes, ∀ (ρ : List Int) (L : List (Option Value)) (st : List Value) (M : fmM), scHold X M0 n.2.1 ρ L st M → (r0.isSome = true → scRank n.2.2 ρ < R) → scGoal X M0 ρ0 n.1 L st M) : ∀ {fuel : Nat} {rest : scD} {pc : Nat} {s : scS} {σ : List Int} {L : List (Option Value)} {st : List Value} {M : fmM}, (∀ q ∈ rest, q ∈ dl) → (ent = true → ∃ τ, σ = ρ0 ++ τ) → (∀ r, r0 = some r → r.1.length ≤ σ.length ∧ scRank r σ = R) → scHold X M0 s σ L st M → scGo X dl nodes r0 ent fuel rest pc s = true → scGoal X M0 ρ0 pc L st M
  | 0, rest, pc, s, σ, L, st, M, _, _, _, _, h => by cases h
  | fuel + 1, rest, pc, s, σ, L, st, M, hr, he, hR, hs, h => by
    change (match scFind dl rest pc with
      | none => false
      | some q => (pvSw q.1 || Nat.beq q.2.1 (scLen q.1)) && (match scStp X ent pc q.1 s with
        | none => false
        | some succs => succs.all (scArr X nodes r0 (scGo X dl nodes r0 ent fuel q.2.2)))) = true at h
    split at h
    · cases h
    · rename_i q hq
      obtain ⟨i, len, r⟩ := q
      obtain ⟨f1, f2⟩ := scFind_ok hr hq
      have hd : decode X.2.2.2.2.1.2.1 pc = .ok (i, len) := by
        have := List.all_eq_true.mp hdl _ f1
        simpa using this
      rw [Bool.and_eq_true] at h
      obtain ⟨h1, h2⟩ := h
      split at h2
      · cases h2
      · rename_i succs hsu
        refine scStp_ok hX hρ he hs hd h1 hsu (fun q hq τ L' st' M' hs' => ?_)
        have h3 := List.all_eq_true.mp h2 q hq
        have he' : ent = true → ∃ τ', σ ++ τ = ρ0 ++ τ' := fun h => by
          obtain ⟨τ', e⟩ := he h
          exact ⟨τ' ++ τ, by rw [e, List.append_assoc]⟩
        have hR' : ∀ r, r0 = some r → r.1.length ≤ (σ ++ τ).length ∧ scRank r (σ ++ τ) = R := fun r h => by
          obtain ⟨e1, e2⟩ := hR r h
          exact ⟨by rw [List.length_append]; omega, by rw [scRank_app e1]; exact e2⟩
        unfold scArr at h3
        split at h3
        · obtain ⟨n, hn, h4⟩ := List.any_eq_true.mp h3
          rw [Bool.and_eq_true, Nat.beq_eq] at h4
          obtain ⟨h5, h6⟩ := h4
          rw [Bool.and_eq_true] at h6
          replace h6 := h6.2
          split at h6
          · rename_i p hp
            obtain ⟨env, F, B⟩ := p
            obtain ⟨k1, k2, k3, k4, k5, k6⟩ := hs'
            obtain ⟨τ2, i1, i2, i3, i4, i5, i6, i7⟩ := scInc_ok k1 k2 k3 k4 k5 hp
            rw [← h5]
            refine (IH n hn _ _ st' M' ⟨i4, i5, i6, i7, k5, k6⟩ (fun hs => ?_))
            cases r0 with
            | none => cases hs
            | some r0 =>
              obtain ⟨e1, e2⟩ := hR' r0 rfl
              have := scLess_ok i1 h6
              rw [scRank_app e1, e2] at this
              exact this
          · cases h6
        · exact scGo_ok hX hdl hρ IH f2 he' hR' hs' h3
def scLocs : List scV → List (Option scV)
  | [] => []
  | v :: vs => match v with
    | .inr (.inl o) => some (.inr (.inl o)) :: none :: scLocs vs
    | v => some v :: scLocs vs
def scEnt (X : scX) : scS := (X.2.2.2.2.2.2.1, scLocs X.2.2.2.2.2.2.2.1 ++ List.replicate (X.2.2.2.2.1.2.2.1 - (scLocs X.2.2.2.2.2.2.2.1).length) none, [], X.2.2.2.2.2.2.2.2.1)
noncomputable def scCheck (X : scX) (dl : scD) (nodes : List scN) (fuel : Nat) : Bool := nodes.all (fun n => scPos n.2.1.1 n.2.2 && scGo X dl nodes (some n.2.2) false fuel dl n.1 n.2.1) && scGo X dl nodes none true fuel dl 0 (scEnt X) && Nat.ble (scLocs X.2.2.2.2.2.2.2.1).length X.2.2.2.2.1.2.2.1
theorem scLk.app {σ : List Int} {Λ : List (Option scV)} {L : List (Option Value)} : ∀ {Λ' : List (Option scV)} {L' : List (Option Value)}, scLk σ Λ' L' → scLk σ Λ L → scLk σ (Λ' ++ Λ) (L' ++ L)
  | [], [], _, h => h
  | _ :: _, _ :: _, h', h => scLk.cons h'.tail.1 (scLk.app h'.tail.2 h)
  | [], _ :: _, h', _ => by have := h'.1; simp at this
  | _ :: _, [], h', _ => by have := h'.1; simp at this
theorem scLk.rep {σ : List Int} : ∀ (n : Nat), scLk σ (List.replicate n none) (List.replicate n none)
  | 0 => scLk.nil
  | n + 1 => scLk.cons trivial (scLk.rep n)
theorem scLocs_ok {σ : List Int} : ∀ {vs : List scV} {as : List Value}, scSk σ vs as → scLk σ (scLocs vs) (fmArgs as) ∧ (lg_sl as).length = (scLocs vs).length
  | [], [], _ => ⟨scLk.nil, rfl⟩
  | .inl a :: vs, w :: as, h => by
    obtain ⟨⟨n, e, hn⟩, h2⟩ := h
    subst e
    obtain ⟨i1, i2⟩ := scLocs_ok h2
    refine ⟨scLk.cons (v := some (.inl a)) (w := some (.int n)) ⟨n, rfl, hn⟩ i1, ?_⟩
    show (lg_sl as).length + 1 = (scLocs vs).length + 1
    rw [i2]
  | .inr (.inl a) :: vs, w :: as, h => by
    obtain ⟨⟨n, e, hn⟩, h2⟩ := h
    subst e
    obtain ⟨i1, i2⟩ := scLocs_ok h2
    refine ⟨scLk.cons (v := some (.inr (.inl a))) (w := some (.long n)) ⟨n, rfl, hn⟩ (scLk.cons trivial i1), ?_⟩
    show (lg_sl as).length + 1 + 1 = (scLocs vs).length + 1 + 1
    rw [i2]
  | .inr (.inr (.inl a)) :: vs, w :: as, h => by
    obtain ⟨⟨n, hn, e⟩, h2⟩ := h
    subst e
    obtain ⟨i1, i2⟩ := scLocs_ok h2
    refine ⟨scLk.cons (v := some (.inr (.inr (.inl a)))) (w := some (.ref n)) ⟨n, hn, rfl⟩ i1, ?_⟩
    show (lg_sl as).length + 1 = (scLocs vs).length + 1
    rw [i2]
  | .inr (.inr (.inr a)) :: vs, w :: as, h => by
    obtain ⟨e, h2⟩ := h
    have e : w = .ref (1000 + a) := e
    subst e
    obtain ⟨i1, i2⟩ := scLocs_ok h2
    refine ⟨scLk.cons (v := some (.inr (.inr (.inr a)))) (w := some (.ref (1000 + a))) rfl i1, ?_⟩
    show (lg_sl as).length + 1 = (scLocs vs).length + 1
    rw [i2]
  | [], _ :: _, h => h.elim
  | _ :: _, [], h => h.elim
theorem scCheck_ok {X : scX} {dl : scD} {nodes : List scN} {fuel : Nat} (hX : scXk X) (hdl : fmDec X.2.2.2.2.1.2.1 dl = true) (h : scCheck X dl nodes fuel = true) : scH X.1 X.2.1 X.2.2.2.2 := by
  unfold scCheck at h
  rw [Bool.and_eq_true, Bool.and_eq_true, Nat.ble_eq] at h
  obtain ⟨⟨h1, h2⟩, h3⟩ := h
  intro M σ as g1 g2 g3 g4
  have hρ : σ.length = X.2.2.2.2.2.2.1.length := g1.1.symm
  have all : ∀ (N : Nat), ∀ n ∈ nodes, ∀ (ρ : List Int) (L : List (Option Value)) (st : List Value) (M' : fmM), scHold X M n.2.1 ρ L st M' → scRank n.2.2 ρ < N → scGoal X M σ n.1 L st M' := by
    intro N
    induction N with
    | zero =>
      intro n hn ρ L st M' hs hr
      have hn1 := List.all_eq_true.mp h1 n hn
      rw [Bool.and_eq_true] at hn1
      have := (scPos_ok hs.1 hn1.1).1
      omega
    | succ N ih =>
      intro n hn ρ L st M' hs hr
      have hn1 := List.all_eq_true.mp h1 n hn
      rw [Bool.and_eq_true] at hn1
      have hp := scPos_ok hs.1 hn1.1
      refine scGo_ok (R := scRank n.2.2 ρ) hX hdl hρ (fun n' hn' ρ' L' st' M'' hs' hr' => ih n' hn' ρ' L' st' M'' hs' ?_) (fun _ h => h) (fun h => by cases h) (fun r hr2 => ?_) hs hn1.2
      · have := hr' rfl
        omega
      · cases hr2
        exact ⟨hp.2, rfl⟩
  obtain ⟨q1, q2⟩ := scLocs_ok g2
  refine pvGood_of (by rw [q2]; exact h3) ?_
  refine scGo_ok (R := 0) hX hdl hρ (fun n hn ρ L st M' hs _ => ?_) (fun _ h => h) (fun _ => ⟨[], by rw [List.append_nil]⟩) (fun r hr => by cases hr) (s := scEnt X) ⟨g1, ?_, trivial, g3, g4, fun _ _ _ => ⟨rfl, rfl⟩⟩ h2
  · refine all ((scRank n.2.2 ρ).toNat + 1) n hn ρ L st M' hs ?_
    omega
  · have e : (fmArgs as).length = (scLocs X.2.2.2.2.2.2.2.1).length := q1.1.symm
    unfold pvEnt
    rw [e]
    exact scLk.app q1 (scLk.rep _)
end
