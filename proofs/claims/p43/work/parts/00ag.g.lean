-- P 10ga
section
-- SAFETY BY INTERVALS: a checker of methods over the flat machine
abbrev scI : Type := Int × Int
/-- a number: an unknown (or none) and an offset -/
abbrev scA : Type := Option Nat × Int
/-- a value: an int; a long within bounds; a reference to one of some cells; a text -/
abbrev scV : Type := scA ⊕ (scI ⊕ (List Nat ⊕ Nat))
abbrev scF : Type := (Nat × Nat) × scA
/-- bounds of the unknowns; locals; stack; what is known of memory -/
abbrev scS : Type := List scI × List (Option scV) × List scV × List scF
def scTop : scI := (-2147483648, 2147483647)
def scTopL : scI := (-9223372036854775808, 9223372036854775807)
theorem scq_l (n : Int64) : scTopL.1 ≤ n.toInt ∧ n.toInt ≤ scTopL.2 := by
  have h1 := n.le_toInt
  have h2 := n.toInt_lt
  constructor
  · show -9223372036854775808 ≤ n.toInt
    omega
  · show n.toInt ≤ 9223372036854775807
    omega
def scAt (l : List scI) (j : Nat) : scI := match l with
  | [e] => e
  | l => l.getD j scTop
def scJoin (a b : scI) : scI := (if a.1 ≤ b.1 then a.1 else b.1, if a.2 ≤ b.2 then b.2 else a.2)
def scSub (a b : scI) : Bool := decide (b.1 ≤ a.1) && decide (a.2 ≤ b.2)
/-- bounds of places a to a + n -/
def scRg (l : List scI) (a n : Nat) : scI := match l with
  | [e] => e
  | l => Nat.rec (motive := fun _ => scI) (l.getD a scTop) (fun q r => scJoin r (l.getD (a + q + 1) scTop)) n
def scEv (σ : List Int) (a : scA) (x : Int) : Prop := match a.1 with
  | none => x = a.2
  | some i => ∃ v, σ[i]? = some v ∧ x = v + a.2
def scIv (env : List scI) (a : scA) : scI := match a.1 with
  | none => (a.2, a.2)
  | some i => ((env.getD i scTop).1 + a.2, (env.getD i scTop).2 + a.2)
def scEk (env : List scI) (σ : List Int) : Prop := env.length = σ.length ∧ ∀ (i : Nat) (e : scI) (x : Int), env[i]? = some e → σ[i]? = some x → e.1 ≤ x ∧ x ≤ e.2
def scVk (σ : List Int) (v : scV) (w : Value) : Prop := match v with
  | .inl a => ∃ n : Int32, w = .int n ∧ scEv σ a n.toInt
  | .inr (.inl o) => ∃ n : Int64, w = .long n ∧ o.1 ≤ n.toInt ∧ n.toInt ≤ o.2
  | .inr (.inr (.inl ks)) => ∃ k, k ∈ ks ∧ w = .ref k
  | .inr (.inr (.inr i)) => w = .ref (1000 + i)
def scOk (σ : List Int) (v : Option scV) (w : Option Value) : Prop := match v, w with
  | none, _ => True
  | some v, some w => scVk σ v w
  | some _, none => False
def scLk (σ : List Int) (Λ : List (Option scV)) (L : List (Option Value)) : Prop := Λ.length = L.length ∧ ∀ i : Nat, scOk σ (Λ.getD i none) (L.getD i none)
def scSk (σ : List Int) : List scV → List Value → Prop
  | [], [] => True
  | v :: S, w :: st => scVk σ v w ∧ scSk σ S st
  | _, _ => False
def scFk (σ : List Int) (F : List scF) (M : fmM) : Prop := ∀ f ∈ F, scEv σ f.2 (M.1 f.1.1 f.1.2).toInt
/-- all of memory is within its bounds -/
def scInv (T : fmT) (inv : Nat → List scI) (M : fmM) : Prop := (∀ k j : Nat, j < T.2.2.1 k → (scAt (inv k) j).1 ≤ (M.1 k j).toInt ∧ (M.1 k j).toInt ≤ (scAt (inv k) j).2) ∧ scJ inv M.1
def scIn (W : List (Nat × Nat × Nat)) (k j : Nat) : Bool := W.any (fun w => w.1 == k && Nat.ble w.2.1 j && Nat.blt j (w.2.1 + w.2.2))
/-- nothing but what W names has changed -/
def scFr (W : List (Nat × Nat × Nat)) (M0 M : fmM) : Prop := ∀ k j : Nat, scIn W k j = false → M.1 k j = M0.1 k j ∧ M.2 k j = M0.2 k j
/-- an abstract state holds of a machine's state -/
def scOf (T : fmT) (inv : Nat → List scI) (W : List (Nat × Nat × Nat)) (M0 : fmM) (s : scS) (σ : List Int) (L : List (Option Value)) (st : List Value) (M : fmM) : Prop := scEk s.1 σ ∧ scLk σ s.2.1 L ∧ scSk σ s.2.2.1 st ∧ scFk σ s.2.2.2 M ∧ scInv T inv M ∧ scFr W M0 M
theorem scEv.mono {σ τ : List Int} {a : scA} {x : Int} (h : scEv σ a x) : scEv (σ ++ τ) a x := by
  obtain ⟨o, c⟩ := a
  cases o with
  | none => exact h
  | some i =>
    obtain ⟨v, hv, e⟩ := h
    refine ⟨v, ?_, e⟩
    rw [List.getElem?_append_left (List.getElem?_eq_some_iff.mp hv).1]
    exact hv
theorem scVk.mono {σ τ : List Int} {v : scV} {w : Value} (h : scVk σ v w) : scVk (σ ++ τ) v w := by
  match v, h with
  | .inl a, ⟨n, e, h⟩ => exact ⟨n, e, h.mono⟩
  | .inr (.inl o), h => exact h
  | .inr (.inr (.inl ks)), h => exact h
  | .inr (.inr (.inr i)), h => exact h
theorem scOk.mono {σ τ : List Int} {v : Option scV} {w : Option Value} (h : scOk σ v w) : scOk (σ ++ τ) v w := by
  cases v <;> cases w
  · exact h
  · exact h
  · exact h
  · exact scVk.mono h
theorem scLk.mono {σ τ : List Int} {Λ : List (Option scV)} {L : List (Option Value)} (h : scLk σ Λ L) : scLk (σ ++ τ) Λ L := ⟨h.1, fun i => (h.2 i).mono⟩
theorem scSk.mono {σ τ : List Int} : ∀ {S : List scV} {st : List Value}, scSk σ S st → scSk (σ ++ τ) S st
  | [], [], _ => trivial
  | _ :: _, _ :: _, h => ⟨h.1.mono, scSk.mono h.2⟩
  | [], _ :: _, h => h.elim
  | _ :: _, [], h => h.elim
theorem scFk.mono {σ τ : List Int} {F : List scF} {M : fmM} (h : scFk σ F M) : scFk (σ ++ τ) F M := fun f hf => (h f hf).mono
theorem scEk.push {env : List scI} {σ : List Int} {e : scI} {x : Int} (h : scEk env σ) (h1 : e.1 ≤ x) (h2 : x ≤ e.2) : scEk (env ++ [e]) (σ ++ [x]) := by
  refine ⟨by simp [h.1], fun i e' x' he hx => ?_⟩
  by_cases hi : i < env.length
  · rw [List.getElem?_append_left hi] at he
    rw [List.getElem?_append_left (by rw [← h.1]; exact hi)] at hx
    exact h.2 i e' x' he hx
  · by_cases hi2 : i = env.length
    · subst hi2
      rw [List.getElem?_append_right (Nat.le_refl _)] at he
      rw [List.getElem?_append_right (by rw [h.1]; exact Nat.le_refl _)] at hx
      simp at he
      rw [h.1] at hx
      simp at hx
      subst he
      subst hx
      exact ⟨h1, h2⟩
    · rw [List.getElem?_eq_none (by simp; omega)] at he
      cases he
theorem scEv.new {env : List scI} {σ : List Int} {x : Int} (h : scEk env σ) : scEv (σ ++ [x]) (some env.length, 0) x := by
  refine ⟨x, ?_, by simp⟩
  rw [h.1]; simp
theorem scEv.iv {env : List scI} {σ : List Int} {a : scA} {x : Int} (h : scEk env σ) (ha : scEv σ a x) : (scIv env a).1 ≤ x ∧ x ≤ (scIv env a).2 := by
  obtain ⟨o, c⟩ := a
  cases o with
  | none => exact ⟨Int.le_of_eq (Eq.symm ha), Int.le_of_eq ha⟩
  | some i =>
    obtain ⟨v, hv, e⟩ := ha
    have hi : i < env.length := by rw [h.1]; exact (List.getElem?_eq_some_iff.mp hv).1
    have := h.2 i env[i] v (List.getElem?_eq_getElem hi) hv
    simp only [scIv, List.getD, List.getElem?_eq_getElem hi, Option.getD_some]
    simp only at e
    omega
theorem scEv.det {σ : List Int} {a : scA} {x z : Int} (h : scEv σ a x) (h2 : scEv σ a z) : x = z := by
  obtain ⟨o, c⟩ := a
  cases o with
  | none => exact (show x = c from h).trans (show z = c from h2).symm
  | some i =>
    obtain ⟨v, hv, e⟩ := h
    obtain ⟨w, hw, e2⟩ := h2
    rw [hv] at hw
    cases hw
    omega
end
