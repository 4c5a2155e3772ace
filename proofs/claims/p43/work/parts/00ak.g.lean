-- P 10ge
section
-- THE CHECKER: ranks
def scDot : List Int → List Int → Int
  | q :: v, x :: σ => q * x + scDot v σ
  | _, _ => 0
def scAddAt : List Int → Nat → Int → List Int
  | [], 0, q => [q]
  | [], i + 1, q => 0 :: scAddAt [] i q
  | x :: v, 0, q => (x + q) :: v
  | x :: v, i + 1, q => x :: scAddAt v i q
theorem scDot_nil (σ : List Int) : scDot [] σ = 0 := by cases σ <;> rfl
theorem scDot_addAt : ∀ (v : List Int) (i : Nat) (q : Int) (σ : List Int), scDot (scAddAt v i q) σ = scDot v σ + q * σ.getD i 0
  | [], 0, q, [] => by simp [scAddAt, scDot]
  | [], 0, q, x :: σ => by simp [scAddAt, scDot, scDot_nil]
  | [], i + 1, q, [] => by simp [scAddAt, scDot]
  | [], i + 1, q, x :: σ => by
    have := scDot_addAt [] i q σ
    rw [scDot_nil] at this
    simp only [scAddAt, scDot, this]
    simp
  | x :: v, 0, q, [] => by simp [scAddAt, scDot]
  | x :: v, 0, q, y :: σ => by
    simp only [scAddAt, scDot, List.getD_cons_zero, Int.add_mul]
    omega
  | x :: v, i + 1, q, [] => by simp [scAddAt, scDot]
  | x :: v, i + 1, q, y :: σ => by
    have := scDot_addAt v i q σ
    simp only [scAddAt, scDot, this, List.getD_cons_succ]
    omega
def scVs : List Int → List Int → List Int
  | [], w => w.map (fun x => -x)
  | v, [] => v
  | a :: v, b :: w => (a - b) :: scVs v w
theorem scDot_neg : ∀ (v σ : List Int), scDot (v.map (fun x => -x)) σ = - scDot v σ
  | [], σ => by simp [scDot_nil]
  | a :: v, [] => by simp [scDot]
  | a :: v, x :: σ => by
    simp only [List.map_cons, scDot, scDot_neg v σ, Int.neg_mul]
    omega
theorem scDot_sub : ∀ (v w σ : List Int), scDot (scVs v w) σ = scDot v σ - scDot w σ
  | [], w, σ => by simp [scVs, scDot_neg, scDot_nil]
  | a :: v, [], σ => by simp [scVs, scDot_nil]
  | a :: v, b :: w, [] => by simp [scVs, scDot]
  | a :: v, b :: w, x :: σ => by
    simp only [scVs, scDot, scDot_sub v w σ, Int.sub_mul]
    omega
def scUb : List scI → List Int → Int
  | e :: env, q :: v => (if 0 ≤ q then q * e.2 else q * e.1) + scUb env v
  | _, _ => 0
theorem scEk.tail {e : scI} {env : List scI} {x : Int} {σ : List Int} (h : scEk (e :: env) (x :: σ)) : (e.1 ≤ x ∧ x ≤ e.2) ∧ scEk env σ := ⟨h.2 0 e x rfl rfl, by simpa using h.1, fun i e' x' he hx => h.2 (i + 1) e' x' (by simpa using he) (by simpa using hx)⟩
theorem scUb_ok : ∀ {env : List scI} {σ v : List Int}, scEk env σ → scDot v σ ≤ scUb env v
  | [], [], v, _ => by cases v <;> simp [scDot, scUb]
  | e :: env, x :: σ, [], _ => by simp [scDot, scUb]
  | e :: env, x :: σ, q :: v, h => by
    have ht := h.tail
    have ih := scUb_ok (v := v) ht.2
    simp only [scDot, scUb]
    split
    · have := Int.mul_le_mul_of_nonneg_left ht.1.2 (by assumption)
      omega
    · have := Int.mul_le_mul_of_nonpos_left (a := q) (by omega) ht.1.1
      omega
  | [], _ :: _, _, h => by have := h.1; simp at this
  | _ :: _, [], _, h => by have := h.1; simp at this
/-- the rank of a pattern, over the unknowns that it is bound to -/
def scRv : List Int → scB → List Int × Int
  | q :: v, b :: B => match b with
    | none => scRv v B
    | some (none, c) => ((scRv v B).1, (scRv v B).2 + q * c)
    | some (some i, c) => (scAddAt (scRv v B).1 i q, (scRv v B).2 + q * c)
  | _, _ => ([], 0)
theorem scRv_ok {σ : List Int} : ∀ {v : List Int} {B : scB}, scDot (scRv v B).1 σ + (scRv v B).2 = scDot v (B.map (scVal σ))
  | [], B => by simp [scRv, scDot_nil]
  | q :: v, [] => by simp [scRv, scDot]
  | q :: v, none :: B => by
    have := scRv_ok (σ := σ) (v := v) (B := B)
    simp only [scRv, List.map_cons, scDot, scVal]
    omega
  | q :: v, some (none, c) :: B => by
    have := scRv_ok (σ := σ) (v := v) (B := B)
    simp only [scRv, List.map_cons, scDot, scVal]
    omega
  | q :: v, some (some i, c) :: B => by
    have := scRv_ok (σ := σ) (v := v) (B := B)
    simp only [scRv, List.map_cons, scDot, scVal, scDot_addAt, Int.mul_add]
    omega
abbrev scK : Type := List Int × Int
def scRank (r : scK) (σ : List Int) : Int := scDot r.1 σ + r.2
/-- the rank r of a pattern bound by B is below r0 -/
def scLess (env : List scI) (r0 : Option scK) (r : scK) (B : scB) : Bool := match r0 with
  | none => true
  | some r0 => decide (scUb env (scVs (scRv r.1 B).1 r0.1) + (scRv r.1 B).2 + r.2 - r0.2 ≤ -1)
theorem scLess_ok {env : List scI} {σ : List Int} {r0 r : scK} {B : scB} (h : scEk env σ) (hl : scLess env (some r0) r B = true) : scRank r (B.map (scVal σ)) < scRank r0 σ := by
  simp only [scLess, decide_eq_true_eq] at hl
  have h1 := scUb_ok (v := scVs (scRv r.1 B).1 r0.1) h
  rw [scDot_sub] at h1
  have h2 := scRv_ok (σ := σ) (v := r.1) (B := B)
  unfold scRank
  omega
theorem scDot_app : ∀ {v ρ : List Int} (τ : List Int), v.length ≤ ρ.length → scDot v (ρ ++ τ) = scDot v ρ
  | [], ρ, τ, _ => by rw [scDot_nil, scDot_nil]
  | q :: v, [], τ, h => by simp at h
  | q :: v, x :: ρ, τ, h => by
    simp only [List.cons_append, scDot]
    rw [scDot_app τ (by simpa using h)]
/-- a rank is never below 0 -/
def scPos (env : List scI) (r : scK) : Bool := decide (scUb env (r.1.map (fun x => -x)) ≤ r.2) && Nat.ble r.1.length env.length
theorem scPos_ok {env : List scI} {σ : List Int} {r : scK} (h : scEk env σ) (hp : scPos env r = true) : 0 ≤ scRank r σ ∧ r.1.length ≤ σ.length := by
  simp only [scPos, Bool.and_eq_true, decide_eq_true_eq, Nat.ble_eq] at hp
  have h1 := scUb_ok (v := r.1.map (fun x => -x)) h
  rw [scDot_neg] at h1
  unfold scRank
  refine ⟨by omega, by rw [← h.1]; exact hp.2⟩
-- CONTRACTS
/-- an end: how (0 nothing, 1 an int, 2 a long, 3 a reference, 4 IllegalArgumentException, 5 NoSuchElementException); the int's bounds; the reference's cells; bounds of unknowns of the start; bounds of memory -/
abbrev scO : Type := Nat × scI × List Nat × List (Nat × scI) × List ((Nat × Nat) × scI)
/-- a contract: method, depth; bounds of unknowns, arguments, what memory must be; its ends; what it may write -/
abbrev scC : Type := fmY × Nat × List scI × List scV × List scF × List scO × List (Nat × Nat × Nat)
def scRk (o : scO) (r : fmR) : Prop := match o.1 with
  | 0 => r = .inl none
  | 1 => ∃ n : Int32, r = .inl (some (.int n)) ∧ o.2.1.1 ≤ n.toInt ∧ n.toInt ≤ o.2.1.2
  | 2 => ∃ n : Int64, r = .inl (some (.long n)) ∧ o.2.1.1 ≤ n.toInt ∧ n.toInt ≤ o.2.1.2
  | 3 => ∃ k, k ∈ o.2.2.1 ∧ r = .inl (some (.ref k))
  | 4 => r = .inr fmIAE
  | _ => r = .inr fmNSE
def scEnd (T : fmT) (inv : Nat → List scI) (c : scC) (σ : List Int) (M : fmM) (r : fmR) (M' : fmM) : Prop := (∃ o ∈ c.2.2.2.2.2.1, scRk o r ∧ (∀ q ∈ o.2.2.2.1, ∃ x, σ[q.1]? = some x ∧ q.2.1 ≤ x ∧ x ≤ q.2.2) ∧ ∀ q ∈ o.2.2.2.2, q.2.1 ≤ (M'.1 q.1.1 q.1.2).toInt ∧ (M'.1 q.1.1 q.1.2).toInt ≤ q.2.2) ∧ scInv T inv M' ∧ scFr c.2.2.2.2.2.2 M M'
/-- the contract holds -/
def scH (T : fmT) (inv : Nat → List scI) (c : scC) : Prop := ∀ (M : fmM) (σ : List Int) (as : List Value), scEk c.2.2.1 σ → scSk σ c.2.2.2.1 as → scFk σ c.2.2.2.2.1 M → scInv T inv M → pvGood T c.2.1 c.1 as M (scEnd T inv c σ M)
/-- a call: place of the pool, 0 of an object or 1 static, class; the contract -/
abbrev scCl : Type := Nat × Nat × Nat × scC
def scClk (T : fmT) (inv : Nat → List scI) (own : String) (q : scCl) : Prop := match q.2.1 with
  | 0 => (∃ n i0, pvCq own q.1 = some (i0, 0, q.2.2.1, n, q.2.2.2.1) ∧ q.2.2.2.2.2.2.1.length = n + 1) ∧ scH T inv q.2.2.2
  | 1 => (pvMm own q.1 = none ∧ pvCp own q.1 = false ∧ pvMl own q.1 = none ∧ ∃ i0 ci, pvCq own q.1 = some (i0, 1, ci, q.2.2.2.2.2.2.1.length, q.2.2.2.1)) ∧ scH T inv q.2.2.2
  | 2 => ∃ i0 ci y', pvCq own q.1 = some (i0, 2, ci, 0, y')
  | _ => ∃ i0 ci y', pvCq own q.1 = some (i0, 3, ci, 1, y')
end
