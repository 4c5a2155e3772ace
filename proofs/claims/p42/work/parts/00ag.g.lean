-- P 10ga
section
-- SAFETY BY INTERVALS: a checker of methods over the flat machine
abbrev scI : Type := Int × Int
/-- a number: an unknown (or none) and an offset -/
abbrev scA : Type := Option Nat × Int
/-- a value: an int; a long within bounds; a reference to one of some cells; a text -/
abbrev scV : Type := scA ⊕ (scI ⊕ (List Nat ⊕ Nat))
abbrev scF : Type := (Nat × Nat) × scA
/-- bounds of the unknowns; locals; stack; what is known of memory -/
abbrev scS : Type := List scI × List (Option scV) × List scV × List scF
def scTop : scI := (-2147483648, 2147483647)
def scTopL : scI := (-9223372036854775808, 9223372036854775807)
theorem scq_l (n : Int64) : scTopL.1 ≤ n.toInt ∧ n.toInt ≤ scTopL.2 := by
  have h1 := n.le_toInt
  have h2 := n.toInt_lt
  constructor
  · show -9223372036854775808 ≤ n.toInt
    omega
  · show n.toInt ≤ 9223372036854775807
    omega
def scAt (l : List scI) (j : Nat) : scI := match l with
  | [e] => e
  | l => l.getD j scTop
def scJoin (a b : scI) : scI := (if a.1 ≤ b.1 then a.1 else b.1, if a.2 ≤ b.2 then b.2 else a.2)
def scSub (a b : scI) : Bool := decide (b.1 ≤ a.1) && decide (a.2 ≤ b.2)
/-- bounds of places a to a + n -/
def scRg (l : List scI) (a n : Nat) : scI := match l with
  | [e] => e
  | l => Nat.rec (motive := fun _ => scI) (l.getD a scTop) (fun q r => scJoin r (l.getD (a + q + 1) scTop)) n
def scEv (σ : List Int) (a : scA) (x : Int) : Prop := match a.1 with
  | none => x = a.2
  | some i => ∃ v, σ[i]? = some v ∧ x = v + a.2
def scIv (env : List scI) (a : scA) : scI := match a.1 with
  | none => (a.2, a.2)
  | some i => ((env.getD i scTop).1 + a.2, (env.getD i scTop).2 + a.2)
def scEk (env : List scI) (σ : List Int) : Prop := env.length = σ.length ∧ ∀ (i : Nat) (e : scI) (x : Int), env[i]? = some e → σ[i]? = some x → e.1 ≤ x ∧ x ≤ e.2
def scVk (σ : List Int) (v : scV) (w : Value) : Prop := match v with
  | .inl a => ∃ n : Int32, w = .int n ∧ scEv σ a n.toInt
  | .inr (.inl o) => ∃ n : Int64, w = .long n ∧ o.1 ≤ n.toInt ∧ n.toInt ≤ o.2
  | .inr (.inr (.inl ks)) => ∃ k, k ∈ ks ∧ w = .ref k
  | .inr (.inr (.inr i)) => w = .ref (1000 + i)
def scOk (σ : List Int) (v : Option scV) (w : Option Value) : Prop := match v, w with
  | none, _ => True
  | some v, some w => scVk σ v w
  | some _, none => False
def scLk (σ : List Int) (Λ : List (Option scV)) (L : List (Option Value)) : Prop := Λ.length = L.length ∧ ∀ i : Nat, scOk σ (Λ.getD i none) (L.getD i none)
def scSk (σ : List Int) : List scV → List Value → Prop
  | [], [] => True
  | v :: S, w :: st => scVk σ v w ∧ scSk σ S st
  | _, _ => False
def scFk (σ : List Int) (F : List scF) (M : fmM) : Prop := ∀ f ∈ F, scEv σ f.2 (M.1 f.1.1 f.1.2).toInt
/-- all of memory is within its bounds -/
def scInv (T : fmT) (inv : Nat → List scI) (M : fmM) : Prop := (∀ k j : Nat, j < T.2.2.1 k → (scAt (inv k) j).1 ≤ (M.1 k j).toInt ∧ (M.1 k j).toInt ≤ (scAt (inv k) j).2) ∧ scJ inv M.1
def scIn (W : List (Nat × Nat × Nat)) (k j : Nat) : Bool := W.any (fun w => w.1 == k && Nat.ble w.2.1 j && Nat.blt j (w.2.1 + w.2.2))
/-- nothing but what W names has changed -/
def scFr (W : List (Nat × Nat × Nat)) (M0 M : fmM) : Prop := ∀ k j : Nat, scIn W k j = false → M.1 k j = M0.1 k j ∧ M.2 k j = M0.2 k j
/-- an abstract state holds of a machine's state -/
def scOf (T : fmT) (inv : Nat → List scI) (W : List (Nat × Nat × Nat)) (M0 : fmM) (s : scS) (σ : List Int) (L : List (Option Value)) (st : List Value) (M : fmM) : Prop := scEk s.1 σ ∧ scLk σ s.2.1 L ∧ scSk σ s.2.2.1 st ∧ scFk σ s.2.2.2 M ∧ scInv T inv M ∧ scFr W M0 M
theorem scEv.mono {σ τ : List Int} {a : scA} {x : Int} (h : scEv σ a x) : scEv (σ ++ τ) a x := by
  obtain ⟨o, c⟩ := a
  cases o with
  | none => exact h
  | some i =>
    obtain ⟨v, hv, e⟩ := h
    refine ⟨v, ?_, e⟩
    rw [List.getElem?_append_left (List.getElem?_eq_some_iff.mp hv).1]
    exact hv
theorem scVk.mono {σ τ : List Int} {v : scV} {w : Value} (h : scVk σ v w) : scVk (σ ++ τ) v w := by
  match v, h with
  | .inl a, ⟨n, e, h⟩ => exact ⟨n, e, h.mono⟩
  | .inr (.inl o), h => exact h
  | .inr (.inr (.inl ks)), h => exact h
  | .inr (.inr (.inr i)), h => exact h
theorem scOk.mono {σ τ : List Int} {v : Option scV} {w : Option Value} (h : scOk σ v w) : scOk (σ ++ τ) v w := by
  cases v <;> cases w
  · exact h
  · exact h
  · exact h
  · exact scVk.mono h
theorem scLk.mono {σ τ : List Int} {Λ : List (Option scV)} {L : List (Option Value)} (h : scLk σ Λ L) : scLk (σ ++ τ) Λ L := ⟨h.1, fun i => (h.2 i).mono⟩
theorem scSk.mono {σ τ : List Int} : ∀ {S : List scV} {st : List Value}, scSk σ S st → scSk (σ ++ τ) S st
  | [], [], _ => trivial
  | _ :: _, _ :: _, h => ⟨h.1.mono, scSk.mono h.2⟩
  | [], _ :: _, h => h.elim
  | _ :: _, [], h => h.elim
theorem scFk.mono {σ τ : List Int} {F : List scF} {M : fmM} (h : scFk σ F M) : scFk (σ ++ τ) F M := fun f hf => (h f hf).mono
theorem scEk.push {env : List scI} {σ : List Int} {e : scI} {x : Int} (h : scEk env σ) (h1 : e.1 ≤ x) (h2 : x ≤ e.2) : scEk (env ++ [e]) (σ ++ [x]) := by
  refine ⟨by simp [h.1], fun i e' x' he hx => ?_⟩
  by_cases hi : i < env.length
  · rw [List.getElem?_append_left hi] at he
    rw [List.getElem?_append_left (by rw [← h.1]; exact hi)] at hx
    exact h.2 i e' x' he hx
  · by_cases hi2 : i = env.length
    · subst hi2
      rw [List.getElem?_append_right (Nat.le_refl _)] at he
      rw [List.getElem?_append_right (by rw [h.1]; exact Nat.le_refl _)] at hx
      simp at he
      rw [h.1] at hx
      simp at hx
      subst he
      subst hx
      exact ⟨h1, h2⟩
    · rw [List.getElem?_eq_none (by simp; omega)] at he
      cases he
theorem scEv.new {env : List scI} {σ : List Int} {x : Int} (h : scEk env σ) : scEv (σ ++ [x]) (some env.length, 0) x := by
  refine ⟨x, ?_, by simp⟩
  rw [h.1]; simp
theorem scEv.iv {env : List scI} {σ : List Int} {a : scA} {x : Int} (h : scEk env σ) (ha : scEv σ a x) : (scIv env a).1 ≤ x ∧ x ≤ (scIv env a).2 := by
  obtain ⟨o, c⟩ := a
  cases o with
  | none => exact ⟨Int.le_of_eq (Eq.symm ha), Int.le_of_eq ha⟩
  | some i =>
    obtain ⟨v, hv, e⟩ := ha
    have hi : i < env.length := by rw [h.1]; exact (List.getElem?_eq_some_iff.mp hv).1
    have := h.2 i env[i] v (List.getElem?_eq_getElem hi) hv
    simp only [scIv, List.getD, List.getElem?_eq_getElem hi, Option.getD_some]
    simp only at e
    omega
theorem scEv.det {σ : List Int} {a : scA} {x z : Int} (h : scEv σ a x) (h2 : scEv σ a z) : x = z := by
  obtain ⟨o, c⟩ := a
  cases o with
  | none => exact (show x = c from h).trans (show z = c from h2).symm
  | some i =>
    obtain ⟨v, hv, e⟩ := h
    obtain ⟨w, hw, e2⟩ := h2
    rw [hv] at hw
    cases hw
    omega
end
-- P 10gb
section
-- THE CHECKER: numbers
abbrev scR : Type := scA × List scI
def scNew (env : List scI) (e : scI) : scR := ((some env.length, 0), env ++ [e])
def scFit (e : scI) : Bool := decide (-2147483648 ≤ e.1) && decide (e.2 ≤ 2147483647)
/-- the outcome r of a number's making is right: for some more unknowns it is x -/
def scNk (env : List scI) (σ : List Int) (r : scR) (x : Int) : Prop := ∃ τ : List Int, scEk r.2 (σ ++ τ) ∧ scEv (σ ++ τ) r.1 x
theorem scNk.new {env : List scI} {σ : List Int} {e : scI} {x : Int} (h : scEk env σ) (h1 : e.1 ≤ x) (h2 : x ≤ e.2) : scNk env σ (scNew env e) x := ⟨[x], h.push h1 h2, scEv.new h⟩
theorem scNk.same {env : List scI} {σ : List Int} {a : scA} {x : Int} (h : scEk env σ) (ha : scEv σ a x) : scNk env σ (a, env) x := ⟨[], by simpa using h, by simpa using ha⟩
theorem scNk.top {env : List scI} {σ : List Int} (x : Int32) (h : scEk env σ) : scNk env σ (scNew env scTop) x.toInt := scNk.new h (by have := x.le_toInt; show -2147483648 ≤ x.toInt; omega) (by have := x.toInt_lt; show x.toInt ≤ 2147483647; omega)
def scAdd (env : List scI) (a b : scA) : scR :=
  if scFit ((scIv env a).1 + (scIv env b).1, (scIv env a).2 + (scIv env b).2) then
    match a.1, b.1 with
    | none, o => ((o, a.2 + b.2), env)
    | some i, none => ((some i, a.2 + b.2), env)
    | some _, some _ => scNew env ((scIv env a).1 + (scIv env b).1, (scIv env a).2 + (scIv env b).2)
  else scNew env scTop
def scSubt (env : List scI) (a b : scA) : scR :=
  if scFit ((scIv env a).1 - (scIv env b).2, (scIv env a).2 - (scIv env b).1) then
    match b.1 with
    | none => ((a.1, a.2 - b.2), env)
    | some _ => scNew env ((scIv env a).1 - (scIv env b).2, (scIv env a).2 - (scIv env b).1)
  else scNew env scTop
def scMul (env : List scI) (a b : scA) : scR :=
  if decide (0 ≤ (scIv env a).1) && decide (0 ≤ (scIv env b).1) && decide ((scIv env a).2 * (scIv env b).2 ≤ 2147483647) then scNew env ((scIv env a).1 * (scIv env b).1, (scIv env a).2 * (scIv env b).2)
  else scNew env scTop
/-- a divisor that is above 0 -/
def scDiv (env : List scI) (a : scA) : scR := scNew env (if (scIv env a).1 ≤ 0 then (scIv env a).1 else 0, if 0 ≤ (scIv env a).2 then (scIv env a).2 else 0)
theorem sc_fit {e : scI} (h : scFit e = true) : -2147483648 ≤ e.1 ∧ e.2 ≤ 2147483647 := by
  simp only [scFit, Bool.and_eq_true, decide_eq_true_eq] at h
  exact h
theorem sc_add {x z : Int32} (h1 : -2147483648 ≤ x.toInt + z.toInt) (h2 : x.toInt + z.toInt ≤ 2147483647) : (x + z).toInt = x.toInt + z.toInt := by
  rw [Int32.toInt_add]
  exact Int.bmod_eq_of_le (by omega) (by omega)
theorem sc_sub {x z : Int32} (h1 : -2147483648 ≤ x.toInt - z.toInt) (h2 : x.toInt - z.toInt ≤ 2147483647) : (x - z).toInt = x.toInt - z.toInt := by
  rw [Int32.toInt_sub]
  exact Int.bmod_eq_of_le (by omega) (by omega)
theorem sc_mul {x z : Int32} (h1 : -2147483648 ≤ x.toInt * z.toInt) (h2 : x.toInt * z.toInt ≤ 2147483647) : (x * z).toInt = x.toInt * z.toInt := by
  rw [Int32.toInt_mul]
  exact Int.bmod_eq_of_le (by omega) (by omega)
theorem scAdd_ok {env : List scI} {σ : List Int} {a b : scA} {x z : Int32} (h : scEk env σ) (ha : scEv σ a x.toInt) (hb : scEv σ b z.toInt) : scNk env σ (scAdd env a b) (x + z).toInt := by
  unfold scAdd
  split
  · rename_i hf
    have hf := sc_fit hf
    have ia := ha.iv h
    have ib := hb.iv h
    simp only at hf
    have e : (x + z).toInt = x.toInt + z.toInt := sc_add (by omega) (by omega)
    rw [e]
    obtain ⟨oa, ca⟩ := a
    obtain ⟨ob, cb⟩ := b
    cases oa with
    | none =>
      have ha' : x.toInt = ca := ha
      refine scNk.same h ?_
      cases ob with
      | none =>
        have hb' : z.toInt = cb := hb
        show x.toInt + z.toInt = ca + cb
        omega
      | some i =>
        obtain ⟨v, hv, e2⟩ := hb
        exact ⟨v, hv, by simp only at e2 ⊢; omega⟩
    | some i =>
      cases ob with
      | none =>
        have hb' : z.toInt = cb := hb
        obtain ⟨v, hv, e2⟩ := ha
        exact scNk.same h ⟨v, hv, by simp only at e2 ⊢; omega⟩
      | some j => exact scNk.new h (by show _ ≤ _; simp only; omega) (by show _ ≤ _; simp only; omega)
  · exact scNk.top _ h
theorem scSubt_ok {env : List scI} {σ : List Int} {a b : scA} {x z : Int32} (h : scEk env σ) (ha : scEv σ a x.toInt) (hb : scEv σ b z.toInt) : scNk env σ (scSubt env a b) (x - z).toInt := by
  unfold scSubt
  split
  · rename_i hf
    have hf := sc_fit hf
    have ia := ha.iv h
    have ib := hb.iv h
    simp only at hf
    have e : (x - z).toInt = x.toInt - z.toInt := sc_sub (by omega) (by omega)
    rw [e]
    obtain ⟨oa, ca⟩ := a
    obtain ⟨ob, cb⟩ := b
    cases ob with
    | none =>
      have hb' : z.toInt = cb := hb
      refine scNk.same h ?_
      cases oa with
      | none =>
        have ha' : x.toInt = ca := ha
        show x.toInt - z.toInt = ca - cb
        omega
      | some i =>
        obtain ⟨v, hv, e2⟩ := ha
        exact ⟨v, hv, by simp only at e2 ⊢; omega⟩
    | some j => exact scNk.new h (by show _ ≤ _; simp only; omega) (by show _ ≤ _; simp only; omega)
  · exact scNk.top _ h
theorem scMul_ok {env : List scI} {σ : List Int} {a b : scA} {x z : Int32} (h : scEk env σ) (ha : scEv σ a x.toInt) (hb : scEv σ b z.toInt) : scNk env σ (scMul env a b) (x * z).toInt := by
  unfold scMul
  split
  · rename_i hf
    simp only [Bool.and_eq_true, decide_eq_true_eq] at hf
    obtain ⟨⟨h1, h2⟩, h3⟩ := hf
    have ia := ha.iv h
    have ib := hb.iv h
    have l1 : (scIv env a).1 * (scIv env b).1 ≤ x.toInt * z.toInt := Int.mul_le_mul ia.1 ib.1 h2 (by omega)
    have l2 : x.toInt * z.toInt ≤ (scIv env a).2 * (scIv env b).2 := Int.mul_le_mul ia.2 ib.2 (by omega) (by omega)
    have l0 : 0 ≤ (scIv env a).1 * (scIv env b).1 := Int.mul_nonneg h1 h2
    have e : (x * z).toInt = x.toInt * z.toInt := sc_mul (by omega) (by omega)
    rw [e]
    exact scNk.new h l1 l2
  · exact scNk.top _ h
theorem sc_tdiv {x z : Int} (hz : 0 < z) : (0 ≤ x → 0 ≤ x.tdiv z ∧ x.tdiv z ≤ x) ∧ (x ≤ 0 → x ≤ x.tdiv z ∧ x.tdiv z ≤ 0) := by
  have key : ∀ w : Int, 0 ≤ w → 0 ≤ w.tdiv z ∧ w.tdiv z ≤ w := by
    intro w hw
    refine ⟨Int.tdiv_nonneg hw (Int.le_of_lt hz), ?_⟩
    rw [Int.tdiv_eq_ediv_of_nonneg hw]
    exact Int.ediv_le_self _ hw
  refine ⟨key x, fun hx => ?_⟩
  have h := key (-x) (by omega)
  rw [Int.neg_tdiv] at h
  omega
theorem scDiv_ok {env : List scI} {σ : List Int} {a b : scA} {x z : Int32} (h : scEk env σ) (ha : scEv σ a x.toInt) (hb : scEv σ b z.toInt) (hp : 0 < (scIv env b).1) : scNk env σ (scDiv env a) (x / z).toInt := by
  have ia := ha.iv h
  have ib := hb.iv h
  have hz : 0 < z.toInt := by omega
  have q := sc_tdiv (x := x.toInt) hz
  have r1 := x.le_toInt
  have r2 := x.toInt_lt
  have e : (x / z).toInt = x.toInt.tdiv z.toInt := by
    rw [Int32.toInt_div]
    rcases Int.le_total 0 x.toInt with h0 | h0
    · have := q.1 h0
      exact Int.bmod_eq_of_le (by omega) (by omega)
    · have := q.2 h0
      exact Int.bmod_eq_of_le (by omega) (by omega)
  rw [e]
  unfold scDiv
  rcases Int.le_total 0 x.toInt with h0 | h0
  · have := q.1 h0
    refine scNk.new h ?_ ?_
    · show (if _ then _ else _) ≤ _
      split <;> omega
    · show _ ≤ (if _ then _ else _)
      split <;> omega
  · have := q.2 h0
    refine scNk.new h ?_ ?_
    · show (if _ then _ else _) ≤ _
      split <;> omega
    · show _ ≤ (if _ then _ else _)
      split <;> omega
theorem sc_nz {env : List scI} {σ : List Int} {b : scA} {z : Int32} (h : scEk env σ) (hb : scEv σ b z.toInt) (hp : 0 < (scIv env b).1) : ¬ z = 0 := by
  have ib := hb.iv h
  intro e
  rw [e] at ib
  have : (0 : Int32).toInt = 0 := by decide
  omega
/-- what is masked by a number that isn't below 0 -/
def scAnd (env : List scI) (a b : scA) : scR := if decide (0 ≤ (scIv env b).1) then scNew env (0, (scIv env b).2) else if decide (0 ≤ (scIv env a).1) then scNew env (0, (scIv env a).2) else scNew env scTop
theorem scq_and {x z : Int32} (h : 0 ≤ z.toInt) : 0 ≤ (x &&& z).toInt ∧ (x &&& z).toInt ≤ z.toInt := by
  have hz : z.toInt = (z.toBitVec.toNat : Int) := by
    show z.toBitVec.toInt = _
    have h' : 0 ≤ z.toBitVec.toInt := h
    have := z.toBitVec.isLt
    rw [BitVec.toInt_eq_toNat_cond] at h' ⊢
    split <;> rename_i hc <;> simp only [hc, if_true, if_false] at h' ⊢ <;> omega
  have hl : z.toInt < 2 ^ 31 := z.toInt_lt
  have e : (x &&& z).toBitVec.toNat = x.toBitVec.toNat &&& z.toBitVec.toNat := by rw [Int32.toBitVec_and, BitVec.toNat_and]
  have e2 : (x &&& z).toBitVec.toNat ≤ z.toBitVec.toNat := by rw [e]; exact Nat.and_le_right
  have e3 : (x &&& z).toInt = ((x &&& z).toBitVec.toNat : Int) := by
    show (x &&& z).toBitVec.toInt = _
    rw [BitVec.toInt_eq_toNat_of_lt (by omega)]
  omega
theorem scq_andc (x z : Int32) : x &&& z = z &&& x := by
  apply Int32.toBitVec_inj.mp
  rw [Int32.toBitVec_and, Int32.toBitVec_and, BitVec.and_comm]
theorem scAnd_ok {env : List scI} {σ : List Int} {a b : scA} {x z : Int32} (h : scEk env σ) (ha : scEv σ a x.toInt) (hb : scEv σ b z.toInt) : scNk env σ (scAnd env a b) (x &&& z).toInt := by
  have ia := ha.iv h
  have ib := hb.iv h
  unfold scAnd
  split
  · rename_i hc
    simp only [decide_eq_true_eq] at hc
    have := scq_and (x := x) (z := z) (by omega)
    exact scNk.new h this.1 (by show _ ≤ (scIv env b).2; omega)
  · split
    · rename_i hc
      simp only [decide_eq_true_eq] at hc
      have := scq_and (x := z) (z := x) (by omega)
      rw [scq_andc]
      exact scNk.new h this.1 (by show _ ≤ (scIv env a).2; omega)
    · exact scNk.top _ h
end
-- P 10gc
section
-- THE CHECKER: branches and memory
def scCut (env : List scI) (a : scA) (lo hi : Int) : Option (List scI) := match a.1 with
  | none => if decide (lo ≤ a.2) && decide (a.2 ≤ hi) then some env else none
  | some i =>
    let e := env.getD i scTop
    let r : scI := (if e.1 ≤ lo - a.2 then lo - a.2 else e.1, if hi - a.2 ≤ e.2 then hi - a.2 else e.2)
    if r.1 ≤ r.2 then some (env.set i r) else none
theorem scCut_ok {env : List scI} {σ : List Int} {a : scA} {lo hi x : Int} (h : scEk env σ) (ha : scEv σ a x) (h1 : lo ≤ x) (h2 : x ≤ hi) : ∃ env', scCut env a lo hi = some env' ∧ scEk env' σ := by
  obtain ⟨o, c⟩ := a
  cases o with
  | none =>
    have ha' : x = c := ha
    subst ha'
    refine ⟨env, ?_, h⟩
    simp [scCut, h1, h2]
  | some i =>
    obtain ⟨v, hv, e⟩ := ha
    simp only at e
    have hi' : i < σ.length := (List.getElem?_eq_some_iff.mp hv).1
    have hi2 : i < env.length := by rw [h.1]; exact hi'
    have hb := h.2 i env[i] v (List.getElem?_eq_getElem hi2) hv
    have eg : env.getD i scTop = env[i] := by simp [List.getD, List.getElem?_eq_getElem hi2]
    have l1 : (if env[i].1 ≤ lo - c then lo - c else env[i].1) ≤ v := by split <;> omega
    have l2 : v ≤ (if hi - c ≤ env[i].2 then hi - c else env[i].2) := by split <;> omega
    refine ⟨env.set i (if env[i].1 ≤ lo - c then lo - c else env[i].1, if hi - c ≤ env[i].2 then hi - c else env[i].2), ?_, ?_⟩
    · simp only [scCut, eg]
      rw [if_pos (Int.le_trans l1 l2)]
    · refine ⟨by simp [h.1], fun j e' x' he hx => ?_⟩
      rw [List.getElem?_set] at he
      by_cases hij : i = j
      · subst hij
        simp only [if_true, hi2] at he
        cases he
        rw [hv] at hx
        cases hx
        exact ⟨l1, l2⟩
      · simp only [hij, if_false] at he
        exact h.2 j e' x' he hx
def scCutC (c : scCo) (env : List scI) (a b : scA) : Option (List scI) :=
  let x := scIv env a
  let z := scIv env b
  match c with
  | .eq => (scCut env a z.1 z.2).bind (fun e => scCut e b x.1 x.2)
  | .lt => (scCut env a x.1 (z.2 - 1)).bind (fun e => scCut e b (x.1 + 1) z.2)
  | .le => (scCut env a x.1 z.2).bind (fun e => scCut e b x.1 z.2)
  | .gt => (scCut env a (z.1 + 1) x.2).bind (fun e => scCut e b z.1 (x.2 - 1))
  | .ge => (scCut env a z.1 x.2).bind (fun e => scCut e b z.1 x.2)
  | .ne => if z.1 = z.2 then (if x.1 = z.1 then scCut env a (x.1 + 1) x.2 else if x.2 = z.1 then scCut env a x.1 (x.2 - 1) else some env)
    else if x.1 = x.2 then (if z.1 = x.1 then scCut env b (z.1 + 1) z.2 else if z.2 = x.1 then scCut env b z.1 (z.2 - 1) else some env)
    else some env
theorem scCut_two {env : List scI} {σ : List Int} {a b : scA} {x z l1 h1 l2 h2 : Int} (h : scEk env σ) (ha : scEv σ a x) (hb : scEv σ b z) (p1 : l1 ≤ x) (p2 : x ≤ h1) (p3 : l2 ≤ z) (p4 : z ≤ h2) : ∃ env', (scCut env a l1 h1).bind (fun e => scCut e b l2 h2) = some env' ∧ scEk env' σ := by
  obtain ⟨e1, q1, k1⟩ := scCut_ok h ha p1 p2
  obtain ⟨e2, q2, k2⟩ := scCut_ok k1 hb p3 p4
  exact ⟨e2, by rw [q1]; exact q2, k2⟩
theorem scCutC_ok {c : scCo} {env : List scI} {σ : List Int} {a b : scA} {x z : Int} (h : scEk env σ) (ha : scEv σ a x) (hb : scEv σ b z) (hr : scRel c x z) : ∃ env', scCutC c env a b = some env' ∧ scEk env' σ := by
  have ia := ha.iv h
  have ib := hb.iv h
  cases c with
  | eq =>
    have hr' : x = z := hr
    exact scCut_two h ha hb (by omega) (by omega) (by omega) (by omega)
  | lt =>
    have hr' : x < z := hr
    exact scCut_two h ha hb (by omega) (by omega) (by omega) (by omega)
  | le =>
    have hr' : x ≤ z := hr
    exact scCut_two h ha hb (by omega) (by omega) (by omega) (by omega)
  | gt =>
    have hr' : z < x := hr
    exact scCut_two h ha hb (by omega) (by omega) (by omega) (by omega)
  | ge =>
    have hr' : z ≤ x := hr
    exact scCut_two h ha hb (by omega) (by omega) (by omega) (by omega)
  | ne =>
    have hr' : ¬ x = z := hr
    simp only [scCutC]
    split
    · split
      · exact scCut_ok h ha (by omega) (by omega)
      · split
        · exact scCut_ok h ha (by omega) (by omega)
        · exact ⟨env, rfl, h⟩
    · split
      · split
        · exact scCut_ok h hb (by omega) (by omega)
        · split
          · exact scCut_ok h hb (by omega) (by omega)
          · exact ⟨env, rfl, h⟩
      · exact ⟨env, rfl, h⟩
/-- what stands at one place -/
def scRead (inv : Nat → List scI) (env : List scI) (F : List scF) (k j : Nat) : scR × List scF := match F.find? (fun f => f.1.1 == k && f.1.2 == j) with
  | some f => ((f.2, env), F)
  | none => (scNew env (scAt (inv k) j), ((k, j), (some env.length, 0)) :: F)
theorem scRead_ok {T : fmT} {inv : Nat → List scI} {env : List scI} {σ : List Int} {F : List scF} {k j : Nat} {M : fmM} (h : scEk env σ) (hF : scFk σ F M) (hI : scInv T inv M) (hj : j < T.2.2.1 k) : ∃ τ : List Int, scEk (scRead inv env F k j).1.2 (σ ++ τ) ∧ scEv (σ ++ τ) (scRead inv env F k j).1.1 (M.1 k j).toInt ∧ scFk (σ ++ τ) (scRead inv env F k j).2 M := by
  unfold scRead
  split
  · rename_i f hf
    have h1 := List.find?_some hf
    have h2 := List.mem_of_find?_eq_some hf
    simp only [Bool.and_eq_true, beq_iff_eq] at h1
    refine ⟨[], by simpa using h, ?_, by simpa using hF⟩
    have := hF f h2
    rw [h1.1, h1.2] at this
    simpa using this
  · have hb := hI.1 k j hj
    refine ⟨[(M.1 k j).toInt], h.push hb.1 hb.2, scEv.new h, fun f hf => ?_⟩
    rcases List.mem_cons.mp hf with e | hf
    · subst e
      exact scEv.new h
    · exact (hF f hf).mono
theorem scJoin_l {a b : scI} {x : Int} (h : a.1 ≤ x ∧ x ≤ a.2) : (scJoin a b).1 ≤ x ∧ x ≤ (scJoin a b).2 := by
  unfold scJoin
  constructor
  · show (if _ then _ else _) ≤ _
    split <;> omega
  · show _ ≤ (if _ then _ else _)
    split <;> omega
theorem scJoin_r {a b : scI} {x : Int} (h : b.1 ≤ x ∧ x ≤ b.2) : (scJoin a b).1 ≤ x ∧ x ≤ (scJoin a b).2 := by
  unfold scJoin
  constructor
  · show (if _ then _ else _) ≤ _
    split <;> omega
  · show _ ≤ (if _ then _ else _)
    split <;> omega
theorem scRg_ok {l : List scI} {a n j : Nat} {x : Int} (h1 : a ≤ j) (h2 : j ≤ a + n) (h : (scAt l j).1 ≤ x ∧ x ≤ (scAt l j).2) : (scRg l a n).1 ≤ x ∧ x ≤ (scRg l a n).2 := by
  unfold scRg
  split
  · exact h
  · rename_i l' hne
    have h' : (l.getD j scTop).1 ≤ x ∧ x ≤ (l.getD j scTop).2 := by
      unfold scAt at h
      split at h
      · rename_i e
        exact absurd rfl (hne e)
      · exact h
    clear h hne
    induction n with
    | zero =>
      have : j = a := by omega
      subst this
      exact h'
    | succ n ih =>
      show (scJoin _ _).1 ≤ x ∧ x ≤ (scJoin _ _).2
      by_cases hj : j ≤ a + n
      · exact scJoin_l (ih hj)
      · have : j = a + n + 1 := by omega
        subst this
        exact scJoin_r h'
def scRgs (inv : Nat → List scI) (a n : Nat) : List Nat → scI
  | [] => scTop
  | k :: ks => match ks with
    | [] => scRg (inv k) a n
    | _ :: _ => scJoin (scRg (inv k) a n) (scRgs inv a n ks)
theorem scRgs_ok {T : fmT} {inv : Nat → List scI} {a n j k : Nat} {M : fmM} (hI : scInv T inv M) (hj : j < T.2.2.1 k) (h1 : a ≤ j) (h2 : j ≤ a + n) : ∀ {ks : List Nat}, k ∈ ks → (scRgs inv a n ks).1 ≤ (M.1 k j).toInt ∧ (M.1 k j).toInt ≤ (scRgs inv a n ks).2
  | [q], hk => by
    have : k = q := by simpa using hk
    subst this
    exact scRg_ok h1 h2 (hI.1 k j hj)
  | q :: r :: ks, hk => by
    show (scJoin _ _).1 ≤ _ ∧ _ ≤ (scJoin _ _).2
    rcases List.mem_cons.mp hk with e | hk
    · subst e
      exact scJoin_l (scRg_ok h1 h2 (hI.1 k j hj))
    · exact scJoin_r (scRgs_ok hI hj h1 h2 hk)
/-- W lets places a to a + n of cell k be written -/
def scWin (W : List (Nat × Nat × Nat)) (k a n : Nat) : Bool := W.any (fun w => w.1 == k && Nat.ble w.2.1 a && Nat.blt (a + n) (w.2.1 + w.2.2))
theorem scWin_in {W : List (Nat × Nat × Nat)} {k a n j : Nat} (h : scWin W k a n = true) (h1 : a ≤ j) (h2 : j ≤ a + n) : scIn W k j = true := by
  obtain ⟨w, hw, h⟩ := List.any_eq_true.mp h
  refine List.any_eq_true.mpr ⟨w, hw, ?_⟩
  simp only [Bool.and_eq_true, beq_iff_eq, Nat.ble_eq, Nat.blt_eq] at h ⊢
  omega
/-- bounds e are within those of places a to a + n -/
def scInto (e : scI) (l : List scI) (a n : Nat) : Bool := match l with
  | [e'] => scSub e e'
  | l => Nat.rec (motive := fun _ => Bool) (scSub e (l.getD a scTop)) (fun q r => r && scSub e (l.getD (a + q + 1) scTop)) n
theorem scSub_ok {e e' : scI} {x : Int} (h : scSub e e' = true) (hx : e.1 ≤ x ∧ x ≤ e.2) : e'.1 ≤ x ∧ x ≤ e'.2 := by
  simp only [scSub, Bool.and_eq_true, decide_eq_true_eq] at h
  omega
theorem scInto_ok {e : scI} {l : List scI} {a n j : Nat} {x : Int} (h : scInto e l a n = true) (h1 : a ≤ j) (h2 : j ≤ a + n) (hx : e.1 ≤ x ∧ x ≤ e.2) : (scAt l j).1 ≤ x ∧ x ≤ (scAt l j).2 := by
  unfold scInto at h
  split at h
  · exact scSub_ok h hx
  · rename_i l' hne
    have hl : scAt l j = l.getD j scTop := by
      unfold scAt
      split
      · rename_i e
        exact absurd rfl (hne e)
      · rfl
    rw [hl]
    clear hl hne
    induction n with
    | zero =>
      have : j = a := by omega
      subst this
      exact scSub_ok h hx
    | succ n ih =>
      have h' : (Nat.rec (motive := fun _ => Bool) (scSub e (l.getD a scTop)) (fun q r => r && scSub e (l.getD (a + q + 1) scTop)) n && scSub e (l.getD (a + n + 1) scTop)) = true := h
      rw [Bool.and_eq_true] at h'
      by_cases hj : j ≤ a + n
      · exact ih hj h'.1
      · have : j = a + n + 1 := by omega
        subst this
        exact scSub_ok h'.2 hx
def scWr (inv : Nat → List scI) (W : List (Nat × Nat × Nat)) (ks : List Nat) (a n : Nat) (e : scI) : Bool := ks.all (fun k => scWin W k a n && scInto e (inv k) a n && scFree inv k a n)
def scKl (F : List scF) (ks : List Nat) (a n : Nat) : List scF := F.filter (fun f => !(ks.contains f.1.1 && Nat.ble a f.1.2 && Nat.ble f.1.2 (a + n)))
theorem scFr.toI {W : List (Nat × Nat × Nat)} {M0 M : fmM} {k j : Nat} {v : Int32} (h : scFr W M0 M) (hw : scIn W k j = true) : scFr W M0 (fmI M k j v) := by
  intro k' j' hn
  have := h k' j' hn
  refine ⟨?_, this.2⟩
  rw [← this.1]
  by_cases e : k' = k
  · subst e
    by_cases e2 : j' = j
    · subst e2
      rw [hw] at hn
      cases hn
    · exact fmI_j M v e2
  · rw [fmI_k M v e]
theorem scFr.toJ {W : List (Nat × Nat × Nat)} {M0 M : fmM} {k j : Nat} {v : Int64} (h : scFr W M0 M) (hw : scIn W k j = true) : scFr W M0 (fmJ M k j v) := by
  intro k' j' hn
  have := h k' j' hn
  refine ⟨this.1, ?_⟩
  rw [← this.2]
  by_cases e : k' = k
  · subst e
    by_cases e2 : j' = j
    · subst e2
      rw [hw] at hn
      cases hn
    · exact fmJ_j M v e2
  · rw [fmJ_k M v e]
theorem scWr_ok {T : fmT} {inv : Nat → List scI} {W : List (Nat × Nat × Nat)} {ks : List Nat} {a n k j : Nat} {e : scI} {M0 M : fmM} {v : Int32} (h : scWr inv W ks a n e = true) (hk : k ∈ ks) (h1 : a ≤ j) (h2 : j ≤ a + n) (hv : e.1 ≤ v.toInt ∧ v.toInt ≤ e.2) (hI : scInv T inv M) (hW : scFr W M0 M) : scInv T inv (fmI M k j v) ∧ scFr W M0 (fmI M k j v) := by
  have h := List.all_eq_true.mp h k hk
  rw [Bool.and_eq_true, Bool.and_eq_true] at h
  refine ⟨⟨fun k' j' hj' => ?_, ?_⟩, hW.toI (scWin_in h.1.1 h1 h2)⟩
  · by_cases e1 : k' = k
    · subst e1
      by_cases e2 : j' = j
      · subst e2
        rw [fmI_s]
        exact scInto_ok h.1.2 h1 h2 hv
      · rw [fmI_j M v e2]
        exact hI.1 k' j' hj'
    · rw [fmI_k M v e1]
      exact hI.1 k' j' hj'
  · refine scFree_ok h.2 hI.2 (fun k' j' hn => ?_)
    by_cases e1 : k' = k
    · subst e1
      exact fmI_j M v (fun e2 => hn ⟨rfl, by omega, by omega⟩)
    · rw [fmI_k M v e1]
theorem scKl_ok {F : List scF} {ks : List Nat} {a n k j : Nat} {σ : List Int} {M : fmM} {v : Int32} (hk : k ∈ ks) (h1 : a ≤ j) (h2 : j ≤ a + n) (hF : scFk σ F M) : scFk σ (scKl F ks a n) (fmI M k j v) := by
  intro f hf
  obtain ⟨hf, hn⟩ := List.mem_filter.mp hf
  have := hF f hf
  by_cases e1 : f.1.1 = k
  · by_cases e2 : f.1.2 = j
    · exfalso
      have : (ks.contains f.1.1 && Nat.ble a f.1.2 && Nat.ble f.1.2 (a + n)) = true := by
        rw [e1, e2]
        simp only [Bool.and_eq_true, Nat.ble_eq, List.contains_iff_mem]
        exact ⟨⟨hk, h1⟩, h2⟩
      rw [this] at hn
      cases hn
    · rw [e1] at this ⊢
      rw [fmI_j M v e2]
      exact this
  · rw [fmI_k M v e1]
    exact this
end
-- P 10gd
section
-- THE CHECKER: one state within another
abbrev scB : Type := List (Option scA)
def scM1 (env : List scI) (p a : scA) (B : scB) : Option scB := match p.1 with
  | none => if decide ((scIv env a).1 = p.2) && decide ((scIv env a).2 = p.2) then some B else none
  | some n => match B[n]? with
    | some none => some (B.set n (some (a.1, a.2 - p.2)))
    | some (some b) => if b = (a.1, a.2 - p.2) then some B else none
    | none => none
def scMv (env : List scI) (p a : scV) (B : scB) : Option scB := match p with
  | .inl p => match a with
    | .inl a => scM1 env p a B
    | .inr _ => none
  | .inr (.inl o) => match a with
    | .inr (.inl o') => if scSub o' o then some B else none
    | _ => none
  | .inr (.inr (.inl ks)) => match a with
    | .inr (.inr (.inl ks')) => if ks'.all (fun k => ks.contains k) then some B else none
    | _ => none
  | .inr (.inr (.inr i)) => match a with
    | .inr (.inr (.inr i')) => if i = i' then some B else none
    | _ => none
/-- what is bound stays bound -/
def scBl (B B' : scB) : Prop := ∀ (n : Nat) (b : scA), B[n]? = some (some b) → B'[n]? = some (some b)
/-- what is bound has a value -/
def scBg (σ : List Int) (B : scB) : Prop := ∀ (n : Nat) (b : scA), B[n]? = some (some b) → ∃ x, scEv σ b x
/-- the unknowns of the pattern are what they are bound to -/
def scBk (σ : List Int) (B : scB) (ρ : List Int) : Prop := ∀ (n : Nat) (b : scA), B[n]? = some (some b) → ∃ x, ρ[n]? = some x ∧ scEv σ b x
theorem scBl.refl (B : scB) : scBl B B := fun _ _ h => h
theorem scBl.trans {B B' B'' : scB} (h : scBl B B') (h' : scBl B' B'') : scBl B B'' := fun n b q => h' n b (h n b q)
theorem scM1_ok {env : List scI} {σ : List Int} {p a : scA} {B B' : scB} {x : Int} (h : scEk env σ) (ha : scEv σ a x) (hB : scBg σ B) (hm : scM1 env p a B = some B') : scBl B B' ∧ scBg σ B' ∧ ∀ (Bf : scB) (ρ : List Int), scBl B' Bf → scBk σ Bf ρ → scEv ρ p x := by
  obtain ⟨o, c⟩ := p
  cases o with
  | none =>
    simp only [scM1] at hm
    split at hm
    · rename_i hc
      simp only [Bool.and_eq_true, decide_eq_true_eq] at hc
      cases hm
      refine ⟨scBl.refl _, hB, fun Bf ρ _ _ => ?_⟩
      have := ha.iv h
      show x = c
      omega
    · cases hm
  | some n =>
    have hshift : ∀ (ρ : List Int) (y : Int), ρ[n]? = some y → scEv σ (a.1, a.2 - c) y → scEv ρ (some n, c) x := by
      intro ρ y hy he
      refine ⟨y, hy, ?_⟩
      show x = y + c
      obtain ⟨oa, ca⟩ := a
      cases oa with
      | none =>
        have e1 : x = ca := ha
        have e2 : y = ca - c := he
        omega
      | some i =>
        obtain ⟨v, hv, e1⟩ := ha
        obtain ⟨w, hw, e2⟩ := he
        rw [hv] at hw
        cases hw
        simp only at e1 e2
        omega
    have hval : ∃ y, scEv σ (a.1, a.2 - c) y := by
      obtain ⟨oa, ca⟩ := a
      cases oa with
      | none => exact ⟨ca - c, rfl⟩
      | some i =>
        obtain ⟨v, hv, e1⟩ := ha
        exact ⟨v + (ca - c), v, hv, rfl⟩
    simp only [scM1] at hm
    split at hm
    · rename_i hn
      cases hm
      have hlt : n < B.length := (List.getElem?_eq_some_iff.mp hn).1
      refine ⟨fun q b hq => ?_, fun q b hq => ?_, fun Bf ρ hl hk => ?_⟩
      · rw [List.getElem?_set]
        by_cases e : n = q
        · subst e
          rw [hn] at hq
          cases hq
        · simp only [e, if_false]
          exact hq
      · rw [List.getElem?_set] at hq
        by_cases e : n = q
        · subst e
          simp only [if_true, hlt] at hq
          cases hq
          exact hval
        · simp only [e, if_false] at hq
          exact hB q b hq
      · have h1 : (B.set n (some (a.1, a.2 - c)))[n]? = some (some (a.1, a.2 - c)) := by simp [hlt]
        obtain ⟨y, hy, he⟩ := hk n _ (hl n _ h1)
        exact hshift ρ y hy he
    · rename_i b hn
      split at hm
      · rename_i hb
        cases hm
        refine ⟨scBl.refl _, hB, fun Bf ρ hl hk => ?_⟩
        obtain ⟨y, hy, he⟩ := hk n _ (hl n _ hn)
        rw [hb] at he
        exact hshift ρ y hy he
      · cases hm
    · cases hm
theorem scMv_ok {env : List scI} {σ : List Int} {p a : scV} {B B' : scB} {w : Value} (h : scEk env σ) (ha : scVk σ a w) (hB : scBg σ B) (hm : scMv env p a B = some B') : scBl B B' ∧ scBg σ B' ∧ ∀ (Bf : scB) (ρ : List Int), scBl B' Bf → scBk σ Bf ρ → scVk ρ p w := by
  match p, a, ha, hm with
  | .inl p, .inl a, ⟨n, e, ha⟩, hm =>
    obtain ⟨h1, h2, h3⟩ := scM1_ok h ha hB hm
    exact ⟨h1, h2, fun Bf ρ hl hk => ⟨n, e, h3 Bf ρ hl hk⟩⟩
  | .inr (.inl o), .inr (.inl o'), ⟨n, e, ha⟩, hm =>
    simp only [scMv] at hm
    split at hm
    · rename_i ho
      cases hm
      exact ⟨scBl.refl _, hB, fun Bf ρ hl hk => ⟨n, e, scSub_ok ho ha⟩⟩
    · cases hm
  | .inr (.inr (.inl ks)), .inr (.inr (.inl ks')), ⟨k, hk, e⟩, hm =>
    simp only [scMv] at hm
    split at hm
    · rename_i ho
      cases hm
      refine ⟨scBl.refl _, hB, fun Bf ρ hl _ => ⟨k, ?_, e⟩⟩
      exact List.contains_iff_mem.mp (List.all_eq_true.mp ho k hk)
    · cases hm
  | .inr (.inr (.inr i)), .inr (.inr (.inr i')), ha, hm =>
    simp only [scMv] at hm
    split at hm
    · rename_i ho
      cases hm
      refine ⟨scBl.refl _, hB, fun Bf ρ hl _ => ?_⟩
      subst ho
      exact ha
    · cases hm
  | .inl _, .inr _, _, hm => cases hm
  | .inr (.inl _), .inl _, _, hm => cases hm
  | .inr (.inl _), .inr (.inr _), _, hm => cases hm
  | .inr (.inr (.inl _)), .inl _, _, hm => cases hm
  | .inr (.inr (.inl _)), .inr (.inl _), _, hm => cases hm
  | .inr (.inr (.inl _)), .inr (.inr (.inr _)), _, hm => cases hm
  | .inr (.inr (.inr _)), .inl _, _, hm => cases hm
  | .inr (.inr (.inr _)), .inr (.inl _), _, hm => cases hm
  | .inr (.inr (.inr _)), .inr (.inr (.inl _)), _, hm => cases hm
def scMl (env : List scI) : List scV → List scV → scB → Option scB
  | [], [], B => some B
  | p :: ps, a :: as, B => (scMv env p a B).bind (scMl env ps as)
  | _, _, _ => none
theorem scMl_ok {env : List scI} {σ : List Int} (h : scEk env σ) : ∀ {ps as : List scV} {B B' : scB} {st : List Value}, scSk σ as st → scBg σ B → scMl env ps as B = some B' → scBl B B' ∧ scBg σ B' ∧ ∀ (Bf : scB) (ρ : List Int), scBl B' Bf → scBk σ Bf ρ → scSk ρ ps st
  | [], [], B, B', [], _, hB, hm => by
    cases hm
    exact ⟨scBl.refl _, hB, fun _ _ _ _ => trivial⟩
  | p :: ps, a :: as, B, B', w :: st, hs, hB, hm => by
    simp only [scMl] at hm
    obtain ⟨B1, h1, h2⟩ := Option.bind_eq_some_iff.mp hm
    obtain ⟨a1, a2, a3⟩ := scMv_ok h hs.1 hB h1
    obtain ⟨b1, b2, b3⟩ := scMl_ok h hs.2 a2 h2
    exact ⟨a1.trans b1, b2, fun Bf ρ hl hk => ⟨a3 Bf ρ (b1.trans hl) hk, b3 Bf ρ hl hk⟩⟩
  | [], [], _, _, _ :: _, hs, _, _ => hs.elim
  | _ :: _, _ :: _, _, _, [], hs, _, _ => hs.elim
  | [], _ :: _, _, _, _, _, _, hm => by cases hm
  | _ :: _, [], _, _, _, _, _, hm => by cases hm
def scMo (env : List scI) : List (Option scV) → List (Option scV) → scB → Option scB
  | [], [], B => some B
  | none :: ps, _ :: as, B => scMo env ps as B
  | some p :: ps, some a :: as, B => (scMv env p a B).bind (scMo env ps as)
  | _, _, _ => none
theorem scLk.nil {σ : List Int} : scLk σ [] [] := ⟨rfl, fun i => by simp [scOk]⟩
theorem scLk.cons {σ : List Int} {v : Option scV} {w : Option Value} {Λ : List (Option scV)} {L : List (Option Value)} (h : scOk σ v w) (h' : scLk σ Λ L) : scLk σ (v :: Λ) (w :: L) := by
  refine ⟨by simp [h'.1], fun i => ?_⟩
  cases i with
  | zero => simpa using h
  | succ i => simpa using h'.2 i
theorem scLk.tail {σ : List Int} {v : Option scV} {w : Option Value} {Λ : List (Option scV)} {L : List (Option Value)} (h : scLk σ (v :: Λ) (w :: L)) : scOk σ v w ∧ scLk σ Λ L := by
  refine ⟨by simpa using h.2 0, by simpa using h.1, fun i => by simpa using h.2 (i + 1)⟩
theorem scMo_ok {env : List scI} {σ : List Int} (h : scEk env σ) : ∀ {ps as : List (Option scV)} {B B' : scB} {L : List (Option Value)}, scLk σ as L → scBg σ B → scMo env ps as B = some B' → scBl B B' ∧ scBg σ B' ∧ ∀ (Bf : scB) (ρ : List Int), scBl B' Bf → scBk σ Bf ρ → scLk ρ ps L
  | [], [], B, B', [], hL, hB, hm => by
    cases hm
    exact ⟨scBl.refl _, hB, fun _ _ _ _ => scLk.nil⟩
  | none :: ps, a :: as, B, B', w :: L, hL, hB, hm => by
    obtain ⟨b1, b2, b3⟩ := scMo_ok h hL.tail.2 hB hm
    exact ⟨b1, b2, fun Bf ρ hl hk => scLk.cons trivial (b3 Bf ρ hl hk)⟩
  | some p :: ps, some a :: as, B, B', w :: L, hL, hB, hm => by
    simp only [scMo] at hm
    obtain ⟨B1, h1, h2⟩ := Option.bind_eq_some_iff.mp hm
    have ht := hL.tail
    cases w with
    | none => exact ht.1.elim
    | some w =>
      obtain ⟨a1, a2, a3⟩ := scMv_ok (w := w) h ht.1 hB h1
      obtain ⟨b1, b2, b3⟩ := scMo_ok h ht.2 a2 h2
      exact ⟨a1.trans b1, b2, fun Bf ρ hl hk => scLk.cons (v := some p) (w := some w) (a3 Bf ρ (b1.trans hl) hk) (b3 Bf ρ hl hk)⟩
  | [], [], _, _, _ :: _, hL, _, _ => by have := hL.1; simp at this
  | none :: _, _ :: _, _, _, [], hL, _, _ => by have := hL.1; simp at this
  | some _ :: _, some _ :: _, _, _, [], hL, _, _ => by have := hL.1; simp at this
  | [], _ :: _, _, _, _, _, _, hm => by cases hm
  | none :: _, [], _, _, _, _, _, hm => by cases hm
  | some _ :: _, [], _, _, _, _, _, hm => by cases hm
  | some _ :: _, none :: _, _, _, _, _, _, hm => by cases hm
/-- what a pattern knows of memory is read -/
def scLd (T : fmT) (inv : Nat → List scI) : List scF → List scI → List scF → Option (List scI × List scF)
  | [], env, F => some (env, F)
  | f :: fs, env, F => if Nat.blt f.1.2 (T.2.2.1 f.1.1) then scLd T inv fs (scRead inv env F f.1.1 f.1.2).1.2 (scRead inv env F f.1.1 f.1.2).2 else none
theorem scLd_ok {T : fmT} {inv : Nat → List scI} {M : fmM} (hI : scInv T inv M) : ∀ {fs : List scF} {env env' : List scI} {σ : List Int} {F F' : List scF}, scEk env σ → scFk σ F M → scLd T inv fs env F = some (env', F') → ∃ τ : List Int, scEk env' (σ ++ τ) ∧ scFk (σ ++ τ) F' M
  | [], env, env', σ, F, F', h, hF, hl => by
    cases hl
    exact ⟨[], by simpa using h, by simpa using hF⟩
  | f :: fs, env, env', σ, F, F', h, hF, hl => by
    simp only [scLd] at hl
    split at hl
    · rename_i hb
      obtain ⟨τ, h1, h2, h3⟩ := scRead_ok (T := T) (k := f.1.1) (j := f.1.2) h hF hI (by simpa using hb)
      obtain ⟨τ', h4, h5⟩ := scLd_ok hI h1 h3 hl
      exact ⟨τ ++ τ', by rw [← List.append_assoc]; exact h4, by rw [← List.append_assoc]; exact h5⟩
    · cases hl
def scMf (env : List scI) (F : List scF) : List scF → scB → Option scB
  | [], B => some B
  | f :: fs, B => match F.find? (fun g => g.1.1 == f.1.1 && g.1.2 == f.1.2) with
    | some g => (scM1 env f.2 g.2 B).bind (scMf env F fs)
    | none => none
theorem scMf_ok {env : List scI} {σ : List Int} {F : List scF} {M : fmM} (h : scEk env σ) (hF : scFk σ F M) : ∀ {fs : List scF} {B B' : scB}, scBg σ B → scMf env F fs B = some B' → scBl B B' ∧ scBg σ B' ∧ ∀ (Bf : scB) (ρ : List Int), scBl B' Bf → scBk σ Bf ρ → scFk ρ fs M
  | [], B, B', hB, hm => by
    cases hm
    exact ⟨scBl.refl _, hB, fun _ _ _ _ f hf => by cases hf⟩
  | f :: fs, B, B', hB, hm => by
    simp only [scMf] at hm
    split at hm
    · rename_i g hg
      have h1 := List.find?_some hg
      have h2 := hF g (List.mem_of_find?_eq_some hg)
      simp only [Bool.and_eq_true, beq_iff_eq] at h1
      rw [h1.1, h1.2] at h2
      obtain ⟨B1, q1, q2⟩ := Option.bind_eq_some_iff.mp hm
      obtain ⟨a1, a2, a3⟩ := scM1_ok h h2 hB q1
      obtain ⟨b1, b2, b3⟩ := scMf_ok h hF a2 q2
      refine ⟨a1.trans b1, b2, fun Bf ρ hl hk f' hf' => ?_⟩
      rcases List.mem_cons.mp hf' with e | hf'
      · subst e
        exact a3 Bf ρ (b1.trans hl) hk
      · exact b3 Bf ρ hl hk f' hf'
    · cases hm
/-- all is bound, within the pattern's bounds -/
def scBe (env : List scI) : scB → List scI → Bool
  | [], [] => true
  | some b :: B, e :: es => scSub (scIv env b) e && scBe env B es
  | _, _ => false
def scVal (σ : List Int) (b : Option scA) : Int := match b with
  | none => 0
  | some b => match b.1 with
    | none => b.2
    | some i => σ.getD i 0 + b.2
theorem scVal_ok {σ : List Int} {b : scA} {x : Int} (h : scEv σ b x) : scVal σ (some b) = x := by
  obtain ⟨o, c⟩ := b
  cases o with
  | none => exact Eq.symm h
  | some i =>
    obtain ⟨v, hv, e⟩ := h
    simp only [scVal, List.getD, hv, Option.getD_some]
    exact e.symm
theorem scBe_ok {env : List scI} {σ : List Int} (h : scEk env σ) : ∀ {B : scB} {es : List scI}, scBg σ B → scBe env B es = true → scEk es (B.map (scVal σ))
  | [], [], _, _ => ⟨rfl, fun i e x he => by simp at he⟩
  | some b :: B, e :: es, hB, hm => by
    simp only [scBe, Bool.and_eq_true] at hm
    have ih := scBe_ok h (B := B) (es := es) (fun n b' hb => hB (n + 1) b' (by simpa using hb)) hm.2
    obtain ⟨x, hx⟩ := hB 0 b rfl
    refine ⟨by simp [ih.1], fun i e' x' he hx' => ?_⟩
    cases i with
    | zero =>
      simp at he hx'
      subst he
      subst hx'
      rw [scVal_ok hx]
      exact scSub_ok hm.1 (hx.iv h)
    | succ i =>
      simp only [List.getElem?_cons_succ, List.map_cons] at he hx'
      exact ih.2 i e' x' he hx'
  | [], _ :: _, _, hm => by cases hm
  | none :: _, _, _, hm => by simp [scBe] at hm
  | some _ :: _, [], _, hm => by cases hm
theorem scBk.of {σ : List Int} {B : scB} (h : scBg σ B) : scBk σ B (B.map (scVal σ)) := by
  intro n b hb
  obtain ⟨x, hx⟩ := h n b hb
  exact ⟨x, by simp [hb, scVal_ok hx], hx⟩
/-- state s within the pattern p -/
def scInc (T : fmT) (inv : Nat → List scI) (s p : scS) : Option (List scI × List scF × scB) := match scLd T inv p.2.2.2 s.1 s.2.2.2 with
  | none => none
  | some (env, F) => ((scMo env p.2.1 s.2.1 (List.replicate p.1.length none)).bind (fun B => (scMl env p.2.2.1 s.2.2.1 B).bind (fun B => scMf env F p.2.2.2 B))).bind (fun B => if scBe env B p.1 then some (env, F, B) else none)
theorem scInc_ok {T : fmT} {inv : Nat → List scI} {s p : scS} {σ : List Int} {L : List (Option Value)} {st : List Value} {M : fmM} {env : List scI} {F : List scF} {B : scB} (h : scEk s.1 σ) (hL : scLk σ s.2.1 L) (hS : scSk σ s.2.2.1 st) (hF : scFk σ s.2.2.2 M) (hI : scInv T inv M) (hm : scInc T inv s p = some (env, F, B)) :
    ∃ τ : List Int, scEk env (σ ++ τ) ∧ scFk (σ ++ τ) F M ∧ scBg (σ ++ τ) B ∧ scEk p.1 (B.map (scVal (σ ++ τ))) ∧ scLk (B.map (scVal (σ ++ τ))) p.2.1 L ∧ scSk (B.map (scVal (σ ++ τ))) p.2.2.1 st ∧ scFk (B.map (scVal (σ ++ τ))) p.2.2.2 M := by
  unfold scInc at hm
  split at hm
  · cases hm
  · rename_i env1 F1 hl
    obtain ⟨τ, k1, k2⟩ := scLd_ok hI h hF hl
    obtain ⟨B1, q1, q2⟩ := Option.bind_eq_some_iff.mp hm
    split at q2
    · rename_i hbe
      cases q2
      obtain ⟨B2, r1, r2⟩ := Option.bind_eq_some_iff.mp q1
      obtain ⟨B3, r3, r4⟩ := Option.bind_eq_some_iff.mp r2
      have hB0 : scBg (σ ++ τ) (List.replicate p.1.length none) := by
        intro n b hb
        rw [List.getElem?_replicate] at hb
        split at hb <;> cases hb
      obtain ⟨a1, a2, a3⟩ := scMo_ok k1 hL.mono hB0 r1
      obtain ⟨b1, b2, b3⟩ := scMl_ok k1 hS.mono a2 r3
      obtain ⟨c1, c2, c3⟩ := scMf_ok k1 k2 b2 r4
      have hk := scBk.of c2
      exact ⟨τ, k1, k2, c2, scBe_ok k1 c2 hbe, a3 _ _ (b1.trans c1) hk, b3 _ _ c1 hk, c3 _ _ (scBl.refl _) hk⟩
    · cases q2
end
-- P 10ge
section
-- THE CHECKER: ranks
def scDot : List Int → List Int → Int
  | q :: v, x :: σ => q * x + scDot v σ
  | _, _ => 0
def scAddAt : List Int → Nat → Int → List Int
  | [], 0, q => [q]
  | [], i + 1, q => 0 :: scAddAt [] i q
  | x :: v, 0, q => (x + q) :: v
  | x :: v, i + 1, q => x :: scAddAt v i q
theorem scDot_nil (σ : List Int) : scDot [] σ = 0 := by cases σ <;> rfl
theorem scDot_addAt : ∀ (v : List Int) (i : Nat) (q : Int) (σ : List Int), scDot (scAddAt v i q) σ = scDot v σ + q * σ.getD i 0
  | [], 0, q, [] => by simp [scAddAt, scDot]
  | [], 0, q, x :: σ => by simp [scAddAt, scDot, scDot_nil]
  | [], i + 1, q, [] => by simp [scAddAt, scDot]
  | [], i + 1, q, x :: σ => by
    have := scDot_addAt [] i q σ
    rw [scDot_nil] at this
    simp only [scAddAt, scDot, this]
    simp
  | x :: v, 0, q, [] => by simp [scAddAt, scDot]
  | x :: v, 0, q, y :: σ => by
    simp only [scAddAt, scDot, List.getD_cons_zero, Int.add_mul]
    omega
  | x :: v, i + 1, q, [] => by simp [scAddAt, scDot]
  | x :: v, i + 1, q, y :: σ => by
    have := scDot_addAt v i q σ
    simp only [scAddAt, scDot, this, List.getD_cons_succ]
    omega
def scVs : List Int → List Int → List Int
  | [], w => w.map (fun x => -x)
  | v, [] => v
  | a :: v, b :: w => (a - b) :: scVs v w
theorem scDot_neg : ∀ (v σ : List Int), scDot (v.map (fun x => -x)) σ = - scDot v σ
  | [], σ => by simp [scDot_nil]
  | a :: v, [] => by simp [scDot]
  | a :: v, x :: σ => by
    simp only [List.map_cons, scDot, scDot_neg v σ, Int.neg_mul]
    omega
theorem scDot_sub : ∀ (v w σ : List Int), scDot (scVs v w) σ = scDot v σ - scDot w σ
  | [], w, σ => by simp [scVs, scDot_neg, scDot_nil]
  | a :: v, [], σ => by simp [scVs, scDot_nil]
  | a :: v, b :: w, [] => by simp [scVs, scDot]
  | a :: v, b :: w, x :: σ => by
    simp only [scVs, scDot, scDot_sub v w σ, Int.sub_mul]
    omega
def scUb : List scI → List Int → Int
  | e :: env, q :: v => (if 0 ≤ q then q * e.2 else q * e.1) + scUb env v
  | _, _ => 0
theorem scEk.tail {e : scI} {env : List scI} {x : Int} {σ : List Int} (h : scEk (e :: env) (x :: σ)) : (e.1 ≤ x ∧ x ≤ e.2) ∧ scEk env σ := ⟨h.2 0 e x rfl rfl, by simpa using h.1, fun i e' x' he hx => h.2 (i + 1) e' x' (by simpa using he) (by simpa using hx)⟩
theorem scUb_ok : ∀ {env : List scI} {σ v : List Int}, scEk env σ → scDot v σ ≤ scUb env v
  | [], [], v, _ => by cases v <;> simp [scDot, scUb]
  | e :: env, x :: σ, [], _ => by simp [scDot, scUb]
  | e :: env, x :: σ, q :: v, h => by
    have ht := h.tail
    have ih := scUb_ok (v := v) ht.2
    simp only [scDot, scUb]
    split
    · have := Int.mul_le_mul_of_nonneg_left ht.1.2 (by assumption)
      omega
    · have := Int.mul_le_mul_of_nonpos_left (a := q) (by omega) ht.1.1
      omega
  | [], _ :: _, _, h => by have := h.1; simp at this
  | _ :: _, [], _, h => by have := h.1; simp at this
/-- the rank of a pattern, over the unknowns that it is bound to -/
def scRv : List Int → scB → List Int × Int
  | q :: v, b :: B => match b with
    | none => scRv v B
    | some (none, c) => ((scRv v B).1, (scRv v B).2 + q * c)
    | some (some i, c) => (scAddAt (scRv v B).1 i q, (scRv v B).2 + q * c)
  | _, _ => ([], 0)
theorem scRv_ok {σ : List Int} : ∀ {v : List Int} {B : scB}, scDot (scRv v B).1 σ + (scRv v B).2 = scDot v (B.map (scVal σ))
  | [], B => by simp [scRv, scDot_nil]
  | q :: v, [] => by simp [scRv, scDot]
  | q :: v, none :: B => by
    have := scRv_ok (σ := σ) (v := v) (B := B)
    simp only [scRv, List.map_cons, scDot, scVal]
    omega
  | q :: v, some (none, c) :: B => by
    have := scRv_ok (σ := σ) (v := v) (B := B)
    simp only [scRv, List.map_cons, scDot, scVal]
    omega
  | q :: v, some (some i, c) :: B => by
    have := scRv_ok (σ := σ) (v := v) (B := B)
    simp only [scRv, List.map_cons, scDot, scVal, scDot_addAt, Int.mul_add]
    omega
abbrev scK : Type := List Int × Int
def scRank (r : scK) (σ : List Int) : Int := scDot r.1 σ + r.2
/-- the rank r of a pattern bound by B is below r0 -/
def scLess (env : List scI) (r0 : Option scK) (r : scK) (B : scB) : Bool := match r0 with
  | none => true
  | some r0 => decide (scUb env (scVs (scRv r.1 B).1 r0.1) + (scRv r.1 B).2 + r.2 - r0.2 ≤ -1)
theorem scLess_ok {env : List scI} {σ : List Int} {r0 r : scK} {B : scB} (h : scEk env σ) (hl : scLess env (some r0) r B = true) : scRank r (B.map (scVal σ)) < scRank r0 σ := by
  simp only [scLess, decide_eq_true_eq] at hl
  have h1 := scUb_ok (v := scVs (scRv r.1 B).1 r0.1) h
  rw [scDot_sub] at h1
  have h2 := scRv_ok (σ := σ) (v := r.1) (B := B)
  unfold scRank
  omega
theorem scDot_app : ∀ {v ρ : List Int} (τ : List Int), v.length ≤ ρ.length → scDot v (ρ ++ τ) = scDot v ρ
  | [], ρ, τ, _ => by rw [scDot_nil, scDot_nil]
  | q :: v, [], τ, h => by simp at h
  | q :: v, x :: ρ, τ, h => by
    simp only [List.cons_append, scDot]
    rw [scDot_app τ (by simpa using h)]
/-- a rank is never below 0 -/
def scPos (env : List scI) (r : scK) : Bool := decide (scUb env (r.1.map (fun x => -x)) ≤ r.2) && Nat.ble r.1.length env.length
theorem scPos_ok {env : List scI} {σ : List Int} {r : scK} (h : scEk env σ) (hp : scPos env r = true) : 0 ≤ scRank r σ ∧ r.1.length ≤ σ.length := by
  simp only [scPos, Bool.and_eq_true, decide_eq_true_eq, Nat.ble_eq] at hp
  have h1 := scUb_ok (v := r.1.map (fun x => -x)) h
  rw [scDot_neg] at h1
  unfold scRank
  refine ⟨by omega, by rw [← h.1]; exact hp.2⟩
-- CONTRACTS
/-- an end: how (0 nothing, 1 an int, 2 a long, 3 a reference, 4 IllegalArgumentException, 5 NoSuchElementException); the int's bounds; the reference's cells; bounds of unknowns of the start; bounds of memory -/
abbrev scO : Type := Nat × scI × List Nat × List (Nat × scI) × List ((Nat × Nat) × scI)
/-- a contract: method, depth; bounds of unknowns, arguments, what memory must be; its ends; what it may write -/
abbrev scC : Type := fmY × Nat × List scI × List scV × List scF × List scO × List (Nat × Nat × Nat)
def scRk (o : scO) (r : fmR) : Prop := match o.1 with
  | 0 => r = .inl none
  | 1 => ∃ n : Int32, r = .inl (some (.int n)) ∧ o.2.1.1 ≤ n.toInt ∧ n.toInt ≤ o.2.1.2
  | 2 => ∃ n : Int64, r = .inl (some (.long n)) ∧ o.2.1.1 ≤ n.toInt ∧ n.toInt ≤ o.2.1.2
  | 3 => ∃ k, k ∈ o.2.2.1 ∧ r = .inl (some (.ref k))
  | 4 => r = .inr fmIAE
  | _ => r = .inr fmNSE
def scEnd (T : fmT) (inv : Nat → List scI) (c : scC) (σ : List Int) (M : fmM) (r : fmR) (M' : fmM) : Prop := (∃ o ∈ c.2.2.2.2.2.1, scRk o r ∧ (∀ q ∈ o.2.2.2.1, ∃ x, σ[q.1]? = some x ∧ q.2.1 ≤ x ∧ x ≤ q.2.2) ∧ ∀ q ∈ o.2.2.2.2, q.2.1 ≤ (M'.1 q.1.1 q.1.2).toInt ∧ (M'.1 q.1.1 q.1.2).toInt ≤ q.2.2) ∧ scInv T inv M' ∧ scFr c.2.2.2.2.2.2 M M'
/-- the contract holds -/
def scH (T : fmT) (inv : Nat → List scI) (c : scC) : Prop := ∀ (M : fmM) (σ : List Int) (as : List Value), scEk c.2.2.1 σ → scSk σ c.2.2.2.1 as → scFk σ c.2.2.2.2.1 M → scInv T inv M → pvGood T c.2.1 c.1 as M (scEnd T inv c σ M)
/-- a call: place of the pool, 0 of an object or 1 static, class; the contract -/
abbrev scCl : Type := Nat × Nat × Nat × scC
def scClk (T : fmT) (inv : Nat → List scI) (own : String) (q : scCl) : Prop := match q.2.1 with
  | 0 => (∃ n i0, pvCq own q.1 = some (i0, 0, q.2.2.1, n, q.2.2.2.1) ∧ q.2.2.2.2.2.2.1.length = n + 1) ∧ scH T inv q.2.2.2
  | 1 => (pvMm own q.1 = none ∧ pvCp own q.1 = false ∧ pvMl own q.1 = none ∧ ∃ i0 ci, pvCq own q.1 = some (i0, 1, ci, q.2.2.2.2.2.2.1.length, q.2.2.2.1)) ∧ scH T inv q.2.2.2
  | 2 => ∃ i0 ci y', pvCq own q.1 = some (i0, 2, ci, 0, y')
  | _ => ∃ i0 ci y', pvCq own q.1 = some (i0, 3, ci, 1, y')
end
-- P 10gf
section
-- THE CHECKER: one instruction
/-- tables, bounds, links (and texts), calls, the contract -/
abbrev scX : Type := fmT × (Nat → List scI) × (scLn × List (Nat × Nat)) × List scCl × scC
abbrev scRes : Type := Option (List (Nat × scS))
def scOne (pc : Nat) (s : scS) : scRes := some [(pc, s)]
def scPush (pc : Nat) (s : scS) (S : List scV) (r : scR) : scRes := some [(pc, (r.2, s.2.1, .inl r.1 :: S, s.2.2.2))]
def scVals (pc : Nat) (s : scS) (S : List scV) : scRes := some [(pc, (s.1, s.2.1, S, s.2.2.2))]
def scFact (F : List scF) (k j : Nat) : Option scF := F.find? (fun f => f.1.1 == k && f.1.2 == j)
def scOut (X : scX) (ent : Bool) (env : List scI) (F : List scF) (kind : Nat) (e : scI) : Bool := X.2.2.2.2.2.2.2.2.2.1.any (fun o => Nat.beq o.1 kind && scSub e o.2.1 && (ent || o.2.2.2.1.isEmpty) && o.2.2.2.1.all (fun q => Nat.blt q.1 X.2.2.2.2.2.2.1.length && scSub (env.getD q.1 scTop) q.2) && o.2.2.2.2.all (fun q => Nat.blt q.1.2 (X.1.2.2.1 q.1.1) && scSub (match scFact F q.1.1 q.1.2 with
  | some f => scIv env f.2
  | none => scAt (X.2.1 q.1.1) q.1.2) q.2))
/-- a relation, in one or two pieces: what is all unknown and unlike 0 is below or above it -/
def scCutL (c : scCo) (env : List scI) (a b : scA) : List (List scI) := if decide (c = .ne) && decide (scIv env b = (0, 0)) && decide (scIv env a = scTop) then (scCut env a (-2147483648) (-1)).toList ++ (scCut env a 1 2147483647).toList else (scCutC c env a b).toList
def scCond (pc : Nat) (c : scCo) (off : Int) (s : scS) (S : List scV) (a b : scA) : scRes := if decide (0 ≤ (pc : Int) + off) then some ((scCutL c s.1 a b).map (fun e => (((pc : Int) + off).toNat, ((e, s.2.1, S, s.2.2.2) : scS))) ++ (scCutL (scNeg c) s.1 a b).map (fun e => (pc + 3, ((e, s.2.1, S, s.2.2.2) : scS)))) else none
def scNo2 (Λ : List (Option scV)) (i : Nat) : Bool := match i with
  | 0 => true
  | j + 1 => match Λ.getD j none with
    | some (.inr (.inl _)) => false
    | _ => true
def scLoad (pc : Nat) (s : scS) (i : Nat) (t : Nat) : scRes := match s.2.1.getD i none with
  | some (.inl a) => if Nat.beq t 0 then scVals pc s (.inl a :: s.2.2.1) else none
  | some (.inr (.inl o)) => if Nat.beq t 1 then scVals pc s (.inr (.inl o) :: s.2.2.1) else none
  | some (.inr (.inr r)) => if Nat.beq t 2 then scVals pc s (.inr (.inr r) :: s.2.2.1) else none
  | none => none
def scStor (n pc : Nat) (s : scS) (i : Nat) (t : Nat) : scRes := if scNo2 s.2.1 i then (match s.2.2.1 with
  | .inl a :: S => if Nat.beq t 0 && Nat.blt i n then scOne pc (s.1, s.2.1.set i (some (.inl a)), S, s.2.2.2) else none
  | .inr (.inl o) :: S => if Nat.beq t 1 && Nat.blt (i + 1) n then scOne pc (s.1, (s.2.1.set i (some (.inr (.inl o)))).set (i + 1) none, S, s.2.2.2) else none
  | .inr (.inr r) :: S => if Nat.beq t 2 && Nat.blt i n then scOne pc (s.1, s.2.1.set i (some (.inr (.inr r))), S, s.2.2.2) else none
  | [] => none) else none
def scBin (pc : Nat) (s : scS) (f : List scI → scA → scA → scR) : scRes := match s.2.2.1 with
  | .inl b :: .inl a :: S => scPush pc s S (f s.1 a b)
  | _ => none
def scBinT (pc : Nat) (s : scS) : scRes := match s.2.2.1 with
  | .inl _ :: .inl _ :: S => scPush pc s S (scNew s.1 scTop)
  | _ => none
def scLmul (e f : scI) : scI := if decide (0 ≤ e.1) && decide (0 ≤ f.1) && decide (e.2 * f.2 ≤ 9223372036854775807) then (e.1 * f.1, e.2 * f.2) else scTopL
def scLong2 (pc : Nat) (s : scS) : scRes := match s.2.2.1 with
  | .inr (.inl _) :: .inr (.inl _) :: S => scVals pc s (.inr (.inl scTopL) :: S)
  | _ => none
def scCells (T : fmT) (ks : List Nat) (kd n : Nat) : Bool := ks.all (fun k => Nat.blt k T.1 && Nat.beq (T.2.1 k) kd && Nat.blt n (T.2.2.1 k))
def scRd (X : scX) (pc : Nat) (s : scS) (S : List scV) (ks : List Nat) (a n : Nat) : scRes := match ks, n with
  | [k], 0 => some [(pc, ((scRead X.2.1 s.1 s.2.2.2 k a).1.2, s.2.1, .inl (scRead X.2.1 s.1 s.2.2.2 k a).1.1 :: S, (scRead X.2.1 s.1 s.2.2.2 k a).2))]
  | ks, n => scPush pc s S (scNew s.1 (scRgs X.2.1 a n ks))
def scW (X : scX) : List (Nat × Nat × Nat) := X.2.2.2.2.2.2.2.2.2.2
def scWt (X : scX) (pc : Nat) (s : scS) (S : List scV) (ks : List Nat) (a n : Nat) (e : scI) (v : Option scA) : scRes := if scWr X.2.1 (scW X) ks a n e then scOne pc (s.1, s.2.1, S, match ks, n, v with
  | [k], 0, some v => ((k, a), v) :: scKl s.2.2.2 ks a n
  | _, _, _ => scKl s.2.2.2 ks a n) else none
def scGet (X : scX) (pc : Nat) (s : scS) (idx : Nat) : scRes := match s.2.2.1 with
  | .inr (.inr (.inl ks)) :: S => match X.2.2.1.1.1.find? (fun f => Nat.beq f.1 idx) with
    | some f => if scCells X.1 ks (f.2.1 + 6) f.2.2.1 then (match f.2.2.2.1 with
      | 0 => scRd X pc s S ks f.2.2.1 0
      | 1 => scVals pc s (.inr (.inl scTopL) :: S)
      | 2 => if ks.all (fun k => Nat.blt (X.1.2.2.2 k f.2.2.1) 1000) then scVals pc s (.inr (.inr (.inl (ks.map (fun k => X.1.2.2.2 k f.2.2.1)))) :: S) else none
      | _ => none) else none
    | none => none
  | _ => none
def scPut (X : scX) (pc : Nat) (s : scS) (idx : Nat) : scRes := match s.2.2.1 with
  | v :: .inr (.inr (.inl ks)) :: S => match X.2.2.1.1.1.find? (fun f => Nat.beq f.1 idx) with
    | some f => if scCells X.1 ks (f.2.1 + 6) f.2.2.1 && f.2.2.2.2 then (match f.2.2.2.1, v with
      | 0, .inl a => scWt X pc s S ks f.2.2.1 0 (scIv s.1 a) (some a)
      | 1, .inr (.inl _) => if ks.all (fun k => scWin (scW X) k f.2.2.1 0) then scVals pc s S else none
      | _, _ => none) else none
    | none => none
  | _ => none
/-- the first place and how many more, of an index -/
def scIx (e : scI) : Nat × Nat := (e.1.toNat, (e.2 - e.1).toNat)
def scInx (T : fmT) (ks : List Nat) (kd : Nat) (e : scI) : Bool := decide (0 ≤ e.1) && ks.all (fun k => Nat.blt k T.1 && Nat.beq (T.2.1 k) kd && decide (e.2 < T.2.2.1 k))
def scAld (X : scX) (pc : Nat) (s : scS) (kd : Nat) : scRes := match s.2.2.1 with
  | .inl a :: .inr (.inr (.inl ks)) :: S => if scInx X.1 ks kd (scIv s.1 a) then (match kd with
    | 1 => scVals pc s (.inr (.inl scTopL) :: S)
    | _ => scRd X pc s S ks (scIx (scIv s.1 a)).1 (scIx (scIv s.1 a)).2) else none
  | _ => none
def scAst (X : scX) (pc : Nat) (s : scS) (kd : Nat) : scRes := match s.2.2.1 with
  | v :: .inl a :: .inr (.inr (.inl ks)) :: S => if scInx X.1 ks kd (scIv s.1 a) then (match kd, v with
    | 0, .inl v => scWt X pc s S ks (scIx (scIv s.1 a)).1 (scIx (scIv s.1 a)).2 (scIv s.1 v) (some v)
    | 2, .inl _ => scWt X pc s S ks (scIx (scIv s.1 a)).1 (scIx (scIv s.1 a)).2 (-128, 127) none
    | 1, .inr (.inl _) => if ks.all (fun k => scWin (scW X) k (scIx (scIv s.1 a)).1 (scIx (scIv s.1 a)).2) then scVals pc s S else none
    | _, _ => none) else none
  | _ => none
def scAald (X : scX) (pc : Nat) (s : scS) : scRes := match s.2.2.1 with
  | .inl a :: .inr (.inr (.inl ks)) :: S => if decide (0 ≤ (scIv s.1 a).1) && ks.all (fun k => Nat.blt k X.1.1 && Nat.ble 3 (X.1.2.1 k) && Nat.ble (X.1.2.1 k) 5 && decide ((scIv s.1 a).2 < X.1.2.2.1 k)) && ks.all (fun k => (List.range ((scIx (scIv s.1 a)).2 + 1)).all (fun q => Nat.blt (X.1.2.2.2 k ((scIx (scIv s.1 a)).1 + q)) 1000)) then scVals pc s (.inr (.inr (.inl (ks.flatMap (fun k => (List.range ((scIx (scIv s.1 a)).2 + 1)).map (fun q => X.1.2.2.2 k ((scIx (scIv s.1 a)).1 + q)))))) :: S) else none
  | _ => none
def scAlen (X : scX) (pc : Nat) (s : scS) : scRes := match s.2.2.1 with
  | .inr (.inr (.inl (k :: ks))) :: S => if (k :: ks).all (fun q => Nat.blt q X.1.1 && Nat.ble (X.1.2.1 q) 1 && Nat.beq (X.1.2.2.1 q) (X.1.2.2.1 k)) && Nat.blt (X.1.2.2.1 k) 100000 then scVals pc s (.inl (none, (X.1.2.2.1 k : Int)) :: S) else none
  | _ => none
def scCat (S : List scV) : Nat := match S with
  | [] => 0
  | .inr (.inl _) :: S => 2 + scCat S
  | _ :: S => 1 + scCat S
/-- an end of a call, at the caller's -/
def scCutR (B : scB) : List (Nat × scI) → List scI → Option (List scI)
  | [], env => some env
  | q :: qs, env => match B.getD q.1 none with
    | some b => (scCut env b q.2.1 q.2.2).bind (scCutR B qs)
    | none => scCutR B qs env
def scMem : List ((Nat × Nat) × scI) → List scI → List scF → Option (List scI × List scF)
  | [], env, F => some (env, F)
  | q :: qs, env, F => match scFact F q.1.1 q.1.2 with
    | some f => (scCut env f.2 q.2.1 q.2.2).bind (fun e => scMem qs e F)
    | none => scMem qs (env ++ [q.2]) ((q.1, (some env.length, 0)) :: F)
def scKlW (W : List (Nat × Nat × Nat)) (F : List scF) : List scF := F.filter (fun f => !(scIn W f.1.1 f.1.2))
def scAft (W : List (Nat × Nat × Nat)) (r : List scI × List scF × scB) (o : scO) : Option (List scI × List scF) := (scCutR r.2.2 o.2.2.2.1 r.1).bind (fun env => scMem o.2.2.2.2 env (scKlW W r.2.1))
def scEnds (X : scX) (ent : Bool) (pc : Nat) (s : scS) (S : List scV) (W : List (Nat × Nat × Nat)) (r : List scI × List scF × scB) : List scO → scRes
  | [] => some []
  | o :: os => match scAft W r o with
    | none => scEnds X ent pc s S W r os
    | some q => match o.1 with
      | 0 => (scEnds X ent pc s S W r os).map (fun l => (pc, (q.1, s.2.1, S, q.2)) :: l)
      | 1 => (scEnds X ent pc s S W r os).map (fun l => (pc, (q.1 ++ [o.2.1], s.2.1, .inl (some q.1.length, 0) :: S, q.2)) :: l)
      | 2 => (scEnds X ent pc s S W r os).map (fun l => (pc, (q.1, s.2.1, .inr (.inl o.2.1) :: S, q.2)) :: l)
      | 4 => if scOut X ent q.1 q.2 4 o.2.1 then scEnds X ent pc s S W r os else none
      | 5 => if scOut X ent q.1 q.2 5 o.2.1 then scEnds X ent pc s S W r os else none
      | _ => none
def scArgs (S : List scV) (n : Nat) : List scV := (S.take n).reverse
def scRecv (T : fmT) (kind ci : Nat) (as : List scV) : Bool := match kind with
  | 0 => match as with
    | .inr (.inr (.inl ks)) :: _ => ks.all (fun k => Nat.blt k T.1 && Nat.beq (T.2.1 k) (ci + 6))
    | _ => false
  | 1 => true
  | _ => false
def scTry (X : scX) (s : scS) (q : scCl) : Option (List scI × List scF × scB) := if Nat.ble q.2.2.2.2.2.2.1.length s.2.2.1.length && Nat.ble (q.2.2.2.2.1 + 1) X.2.2.2.2.2.1 && Nat.ble (scCat (s.2.2.1.drop q.2.2.2.2.2.2.1.length)) 8 && q.2.2.2.2.2.2.2.2.2.all (fun w => scWin (scW X) w.1 w.2.1 (w.2.2 - 1) && Nat.blt 0 w.2.2) && scRecv X.1 q.2.1 q.2.2.1 (scArgs s.2.2.1 q.2.2.2.2.2.2.1.length) then scInc X.1 X.2.1 (s.1, [], scArgs s.2.2.1 q.2.2.2.2.2.2.1.length, s.2.2.2) (q.2.2.2.2.2.1, [], q.2.2.2.2.2.2.1, q.2.2.2.2.2.2.2.1) else none
def scCall (X : scX) (ent : Bool) (pc : Nat) (s : scS) (idx kind : Nat) : List scCl → scRes
  | [] => none
  | q :: qs => if Nat.beq q.1 idx && Nat.beq q.2.1 kind then (match scTry X s q with
    | some r => scEnds X ent pc s (s.2.2.1.drop q.2.2.2.2.2.2.1.length) q.2.2.2.2.2.2.2.2.2 r q.2.2.2.2.2.2.2.2.1
    | none => scCall X ent pc s idx kind qs) else scCall X ent pc s idx kind qs
def scMax (x z : scI) : scI := (if x.1 ≤ z.1 then z.1 else x.1, if x.2 ≤ z.2 then z.2 else x.2)
def scMin (x z : scI) : scI := (if x.1 ≤ z.1 then x.1 else z.1, if x.2 ≤ z.2 then x.2 else z.2)
def scMmx (X : scX) (pc : Nat) (s : scS) (b : Bool) : scRes := match s.2.2.1 with
  | .inl z :: .inl x :: S => if Nat.ble 1 X.2.2.2.2.2.1 && Nat.ble (scCat S) 8 then scPush pc s S (scNew s.1 (if b then scMax (scIv s.1 x) (scIv s.1 z) else scMin (scIv s.1 x) (scIv s.1 z))) else none
  | _ => none
def scCpy (X : scX) (pc : Nat) (s : scS) : scRes := match s.2.2.1 with
  | .inl n :: .inl dp :: .inr (.inr (.inl k1)) :: .inl sp :: .inr (.inr (.inl k0)) :: S => if decide (scIv s.1 dp = (0, 0)) && decide (scIv s.1 sp = (0, 0)) && decide (1 ≤ (scIv s.1 n).1) && decide ((scIv s.1 n).1 = (scIv s.1 n).2) && Nat.ble (scCat S) 8 && k0.all (fun k => Nat.blt k X.1.1 && Nat.beq (X.1.2.1 k) 0 && Nat.ble (scIv s.1 n).1.toNat (X.1.2.2.1 k)) && k1.all (fun k => Nat.blt k X.1.1 && Nat.beq (X.1.2.1 k) 0 && Nat.ble (scIv s.1 n).1.toNat (X.1.2.2.1 k) && scWin (scW X) k 0 ((scIv s.1 n).1.toNat - 1) && scFree X.2.1 k 0 ((scIv s.1 n).1.toNat - 1) && k0.all (fun h => (List.range (scIv s.1 n).1.toNat).all (fun j => scSub (scAt (X.2.1 h) j) (scAt (X.2.1 k) j)))) then scOne pc (s.1, s.2.1, S, scKl s.2.2.2 k1 0 ((scIv s.1 n).1.toNat - 1)) else none
  | _ => none
def scLl (X : scX) (pc : Nat) (s : scS) : scRes := match s.2.2.1 with
  | .inr (.inl _) :: .inr (.inl _) :: S => if Nat.ble 1 X.2.2.2.2.2.1 && Nat.ble (scCat S) 8 then scVals pc s (.inr (.inl scTopL) :: S) else none
  | _ => none
/-- a text's length, a text's sign -/
def scStr (X : scX) (pc : Nat) (s : scS) (idx : Nat) : scRes := match X.2.2.2.1.find? (fun q => Nat.beq q.1 idx && (Nat.beq q.2.1 2 || Nat.beq q.2.1 3)) with
  | some q => match q.2.1 with
    | 2 => match s.2.2.1 with
      | .inr (.inr (.inr t)) :: S => if Nat.blt t 5 && Nat.ble 2 X.2.2.2.2.2.1 && Nat.ble (scCat S) 8 then scVals pc s (.inl (none, (nI (fmLen.getD t 0)).toInt) :: S) else none
      | _ => none
    | 3 => match s.2.2.1 with
      | .inl a :: .inr (.inr (.inr t)) :: S => if Nat.blt t 5 && Nat.ble 4 X.2.2.2.2.2.1 && Nat.ble (scCat S) 8 && decide (0 ≤ (scIv s.1 a).1) && decide ((scIv s.1 a).1 = (scIv s.1 a).2) && decide ((scIv s.1 a).2 < (fmLen.getD t 0 : Int)) then scVals pc s (.inl (none, (chE t (scIv s.1 a).1.toNat).toInt) :: S) else none
      | _ => none
    | _ => none
  | none => none
def scStat (X : scX) (ent : Bool) (pc : Nat) (s : scS) (idx : Nat) : scRes := match X.2.2.1.1.2.2.2.1.find? (fun q => Nat.beq q.1 idx) with
  | some q => scMmx X pc s q.2
  | none => if X.2.2.1.1.2.2.1.any (fun q => Nat.beq q idx) then scCpy X pc s else if X.2.2.1.1.2.2.2.2.any (fun q => Nat.beq q.1 idx) then scLl X pc s else scCall X ent pc s idx 1 X.2.2.2.1
def scLdc (X : scX) (pc : Nat) (s : scS) (idx : Nat) (t : Nat) : scRes := match X.2.2.1.1.2.1.find? (fun q => Nat.beq q.1 idx) with
  | some (_, .inl v) => if Nat.beq t 0 then scVals pc s (.inl (none, v.toInt) :: s.2.2.1) else none
  | some (_, .inr v) => if Nat.beq t 1 then scVals pc s (.inr (.inl (v.toInt, v.toInt)) :: s.2.2.1) else none
  | none => if Nat.beq t 0 then (match X.2.2.1.2.find? (fun q => Nat.beq q.1 idx) with
    | some q => scVals pc s (.inr (.inr (.inr q.2)) :: s.2.2.1)
    | none => none) else none
def scTab (pc : Nat) (s : scS) (dflt lo hi : Int) (offs : Array Int) : scRes := match s.2.2.1 with
  | .inl a :: S => if Nat.beq offs.size (hi - lo + 1).toNat && decide (0 ≤ (pc : Int) + dflt) && (List.range (hi - lo + 1).toNat).all (fun q => decide (0 ≤ (pc : Int) + offs.getD q 0)) then some ((if decide (lo ≤ (scIv s.1 a).1) && decide ((scIv s.1 a).2 ≤ hi) then [] else [(((pc : Int) + dflt).toNat, (s.1, s.2.1, S, s.2.2.2))]) ++ (List.range (hi - lo + 1).toNat).flatMap (fun (q : Nat) => match scCut s.1 a (lo + (q : Int)) (lo + (q : Int)) with
      | some e => [(((pc : Int) + offs.getD q 0).toNat, (e, s.2.1, S, s.2.2.2))]
      | none => [])) else none
  | _ => none
def scLook (pc : Nat) (s : scS) (dflt : Int) (ps : Array (Int × Int)) : scRes := match s.2.2.1 with
  | .inl _ :: S => if (ps.toList.zip (ps.toList.drop 1)).all (fun (a, next) => a.1 < next.1) && (dflt :: ps.toList.map (fun q => q.2)).all (fun o => decide (0 ≤ (pc : Int) + o)) then some ((dflt :: ps.toList.map (fun q => q.2)).map (fun o => (((pc : Int) + o).toNat, ((s.1, s.2.1, S, s.2.2.2) : scS)))) else none
  | _ => none
def scThr (X : scX) (ent : Bool) (pc : Nat) (s : scS) (idx : Nat) : scRes := match s.2.2.1 with
  | [] => if Nat.beq (pvK X.2.2.2.2.1.1.cls) 10 && decide (decode X.2.2.2.2.1.2.1 (pc + 3) = .ok (.dup, 1)) && decide (decode X.2.2.2.2.1.2.1 (pc + 10) = .ok (.athrow, 1)) then (if Nat.beq idx 376 && decide (decode X.2.2.2.2.1.2.1 (pc + 4) = .ok (.ldc_w 378, 3)) && decide (decode X.2.2.2.2.1.2.1 (pc + 7) = .ok (.invokespecial 380, 3)) && scOut X ent s.1 s.2.2.2 4 (0, 0) then some [] else if Nat.beq idx 369 && decide (decode X.2.2.2.2.1.2.1 (pc + 4) = .ok (.ldc_w 371, 3)) && decide (decode X.2.2.2.2.1.2.1 (pc + 7) = .ok (.invokespecial 373, 3)) && scOut X ent s.1 s.2.2.2 5 (0, 0) then some [] else none) else none
  | _ => none
def scStp (X : scX) (ent : Bool) (pc : Nat) (i : Instr) (s : scS) : scRes := match i with
  | .iconst n => if decide (-1 ≤ n) && decide (n ≤ 5) then scVals (pc + 1) s (.inl (none, n) :: s.2.2.1) else none
  | .bipush n => if decide (-128 ≤ n) && decide (n ≤ 127) then scVals (pc + 2) s (.inl (none, n) :: s.2.2.1) else none
  | .sipush n => if decide (-32768 ≤ n) && decide (n ≤ 32767) then scVals (pc + 3) s (.inl (none, n) :: s.2.2.1) else none
  | .lconst n => scVals (pc + 1) s (.inr (.inl ((n.val : Int), (n.val : Int))) :: s.2.2.1)
  | .iload_n n => scLoad (pc + 1) s n.val 0
  | .iload n => scLoad (pc + 2) s n 0
  | .lload_n n => scLoad (pc + 1) s n.val 1
  | .lload n => scLoad (pc + 2) s n 1
  | .aload_n n => scLoad (pc + 1) s n.val 2
  | .aload n => scLoad (pc + 2) s n 2
  | .istore_n n => scStor X.2.2.2.2.1.2.2.1 (pc + 1) s n.val 0
  | .istore n => scStor X.2.2.2.2.1.2.2.1 (pc + 2) s n 0
  | .lstore_n n => scStor X.2.2.2.2.1.2.2.1 (pc + 1) s n.val 1
  | .lstore n => scStor X.2.2.2.2.1.2.2.1 (pc + 2) s n 1
  | .astore_n n => scStor X.2.2.2.2.1.2.2.1 (pc + 1) s n.val 2
  | .astore n => scStor X.2.2.2.2.1.2.2.1 (pc + 2) s n 2
  | .iinc n v => match s.2.1.getD n none with
    | some (.inl a) => if scNo2 s.2.1 n && Nat.blt n X.2.2.2.2.1.2.2.1 && decide (-128 ≤ v) && decide (v ≤ 127) then scOne (pc + 3) ((scAdd s.1 a (none, v)).2, s.2.1.set n (some (.inl (scAdd s.1 a (none, v)).1)), s.2.2.1, s.2.2.2) else none
    | _ => none
  | .iadd => scBin (pc + 1) s scAdd
  | .isub => scBin (pc + 1) s scSubt
  | .imul => scBin (pc + 1) s scMul
  | .idiv => match s.2.2.1 with
    | .inl b :: .inl a :: S => if decide (0 < (scIv s.1 b).1) then scPush (pc + 1) s S (scDiv s.1 a) else if decide ((scIv s.1 b).2 < 0) then scPush (pc + 1) s S (scNew s.1 scTop) else none
    | _ => none
  | .irem => match s.2.2.1 with
    | .inl b :: .inl _ :: S => if decide (0 < (scIv s.1 b).1) then scPush (pc + 1) s S (scNew s.1 scTop) else none
    | _ => none
  | .iand => scBin (pc + 1) s scAnd
  | .ior => scBinT (pc + 1) s
  | .ixor => scBinT (pc + 1) s
  | .ishl => scBinT (pc + 1) s
  | .ishr => scBinT (pc + 1) s
  | .iushr => scBinT (pc + 1) s
  | .ineg => match s.2.2.1 with
    | .inl a :: S => scPush (pc + 1) s S (scSubt s.1 (none, 0) a)
    | _ => none
  | .i2b => match s.2.2.1 with
    | .inl _ :: S => scPush (pc + 1) s S (scNew s.1 scTop)
    | _ => none
  | .i2l => match s.2.2.1 with
    | .inl a :: S => scVals (pc + 1) s (.inr (.inl (scIv s.1 a)) :: S)
    | _ => none
  | .l2i => match s.2.2.1 with
    | .inr (.inl _) :: S => scPush (pc + 1) s S (scNew s.1 scTop)
    | _ => none
  | .ladd => scLong2 (pc + 1) s
  | .lsub => scLong2 (pc + 1) s
  | .lmul => match s.2.2.1 with
    | .inr (.inl f) :: .inr (.inl e) :: S => scVals (pc + 1) s (.inr (.inl (scLmul e f)) :: S)
    | _ => none
  | .land => scLong2 (pc + 1) s
  | .lor => scLong2 (pc + 1) s
  | .lxor => scLong2 (pc + 1) s
  | .ldiv => match s.2.2.1 with
    | .inr (.inl f) :: .inr (.inl _) :: S => if decide (0 < f.1) then scVals (pc + 1) s (.inr (.inl scTopL) :: S) else none
    | _ => none
  | .lshl => match s.2.2.1 with
    | .inl _ :: .inr (.inl _) :: S => scVals (pc + 1) s (.inr (.inl scTopL) :: S)
    | _ => none
  | .lshr => match s.2.2.1 with
    | .inl _ :: .inr (.inl _) :: S => scVals (pc + 1) s (.inr (.inl scTopL) :: S)
    | _ => none
  | .lcmp => match s.2.2.1 with
    | .inr (.inl _) :: .inr (.inl _) :: S => scPush (pc + 1) s S (scNew s.1 scTop)
    | _ => none
  | .dup => match s.2.2.1 with
    | .inl a :: S => scVals (pc + 1) s (.inl a :: .inl a :: S)
    | .inr (.inr r) :: S => scVals (pc + 1) s (.inr (.inr r) :: .inr (.inr r) :: S)
    | _ => none
  | .dup2 => match s.2.2.1 with
    | .inl a :: .inr (.inr r) :: S => scVals (pc + 1) s (.inl a :: .inr (.inr r) :: .inl a :: .inr (.inr r) :: S)
    | _ => none
  | .pop => match s.2.2.1 with
    | .inl _ :: S => scVals (pc + 1) s S
    | .inr (.inr _) :: S => scVals (pc + 1) s S
    | _ => none
  | .goto off => if decide (0 ≤ (pc : Int) + off) then scOne ((pc : Int) + off).toNat s else none
  | .ifCond c off => match s.2.2.1 with
    | .inl a :: S => scCond pc c off s S a (none, 0)
    | _ => none
  | .if_icmp c off => match s.2.2.1 with
    | .inl b :: .inl a :: S => scCond pc c off s S a b
    | _ => none
  | .getfield idx => scGet X (pc + 3) s idx
  | .putfield idx => scPut X (pc + 3) s idx
  | .iaload => scAld X (pc + 1) s 0
  | .laload => scAld X (pc + 1) s 1
  | .baload => scAld X (pc + 1) s 2
  | .iastore => scAst X (pc + 1) s 0
  | .lastore => scAst X (pc + 1) s 1
  | .bastore => scAst X (pc + 1) s 2
  | .aaload => scAald X (pc + 1) s
  | .arraylength => scAlen X (pc + 1) s
  | .ldc idx => scLdc X (pc + 2) s idx 0
  | .ldc_w idx => match X.2.2.1.1.2.1.find? (fun q => Nat.beq q.1 idx) with
    | some (_, .inl v) => scVals (pc + 3) s (.inl (none, v.toInt) :: s.2.2.1)
    | _ => none
  | .ldc2_w idx => scLdc X (pc + 3) s idx 1
  | .tableswitch dflt lo hi offs => scTab pc s dflt lo hi offs
  | .lookupswitch dflt ps => scLook pc s dflt ps
  | .new idx => scThr X ent pc s idx
  | .invokevirtual idx => match scCall X ent (pc + 3) s idx 0 X.2.2.2.1 with
    | some r => some r
    | none => scStr X (pc + 3) s idx
  | .invokestatic idx => scStat X ent (pc + 3) s idx
  | .ireturn => match s.2.2.1 with
    | [.inl a] => match X.2.2.2.2.1.2.2.2 with
      | some .int => if scOut X ent s.1 s.2.2.2 1 (scIv s.1 a) then some [] else none
      | some .boolean => if scOut X ent s.1 s.2.2.2 1 (scIv s.1 a) && scSub (scIv s.1 a) (0, 1) then some [] else none
      | _ => none
    | _ => none
  | .lreturn => match s.2.2.1 with
    | [.inr (.inl e)] => match X.2.2.2.2.1.2.2.2 with
      | some .long => if scOut X ent s.1 s.2.2.2 2 e then some [] else none
      | _ => none
    | _ => none
  | .return_ => match s.2.2.1 with
    | [] => match X.2.2.2.2.1.2.2.2 with
      | none => if scOut X ent s.1 s.2.2.2 0 (0, 0) then some [] else none
      | _ => none
    | _ => none
  | _ => none
end
