-- P 10gb
section
-- THE CHECKER: numbers
abbrev scR : Type := scA × List scI
def scNew (env : List scI) (e : scI) : scR := ((some env.length, 0), env ++ [e])
def scFit (e : scI) : Bool := decide (-2147483648 ≤ e.1) && decide (e.2 ≤ 2147483647)
/-- the outcome r of a number's making is right: for some more unknowns it is x -/
def scNk (env : List scI) (σ : List Int) (r : scR) (x : Int) : Prop := ∃ τ : List Int, scEk r.2 (σ ++ τ) ∧ scEv (σ ++ τ) r.1 x
theorem scNk.new {env : List scI} {σ : List Int} {e : scI} {x : Int} (h : scEk env σ) (h1 : e.1 ≤ x) (h2 : x ≤ e.2) : scNk env σ (scNew env e) x := ⟨[x], h.push h1 h2, scEv.new h⟩
theorem scNk.same {env : List scI} {σ : List Int} {a : scA} {x : Int} (h : scEk env σ) (ha : scEv σ a x) : scNk env σ (a, env) x := ⟨[], by simpa using h, by simpa using ha⟩
theorem scNk.top {env : List scI} {σ : List Int} (x : Int32) (h : scEk env σ) : scNk env σ (scNew env scTop) x.toInt := scNk.new h (by have := x.le_toInt; show -2147483648 ≤ x.toInt; omega) (by have := x.toInt_lt; show x.toInt ≤ 2147483647; omega)
def scAdd (env : List scI) (a b : scA) : scR :=
  if scFit ((scIv env a).1 + (scIv env b).1, (scIv env a).2 + (scIv env b).2) then
    match a.1, b.1 with
    | none, o => ((o, a.2 + b.2), env)
    | some i, none => ((some i, a.2 + b.2), env)
    | some _, some _ => scNew env ((scIv env a).1 + (scIv env b).1, (scIv env a).2 + (scIv env b).2)
  else scNew env scTop
def scSubt (env : List scI) (a b : scA) : scR :=
  if scFit ((scIv env a).1 - (scIv env b).2, (scIv env a).2 - (scIv env b).1) then
    match b.1 with
    | none => ((a.1, a.2 - b.2), env)
    | some _ => scNew env ((scIv env a).1 - (scIv env b).2, (scIv env a).2 - (scIv env b).1)
  else scNew env scTop
def scMul (env : List scI) (a b : scA) : scR :=
  if decide (0 ≤ (scIv env a).1) && decide (0 ≤ (scIv env b).1) && decide ((scIv env a).2 * (scIv env b).2 ≤ 2147483647) then scNew env ((scIv env a).1 * (scIv env b).1, (scIv env a).2 * (scIv env b).2)
  else scNew env scTop
/-- a divisor that is above 0 -/
def scDiv (env : List scI) (a : scA) : scR := scNew env (if (scIv env a).1 ≤ 0 then (scIv env a).1 else 0, if 0 ≤ (scIv env a).2 then (scIv env a).2 else 0)
theorem sc_fit {e : scI} (h : scFit e = true) : -2147483648 ≤ e.1 ∧ e.2 ≤ 2147483647 := by
  simp only [scFit, Bool.and_eq_true, decide_eq_true_eq] at h
  exact h
theorem sc_add {x z : Int32} (h1 : -2147483648 ≤ x.toInt + z.toInt) (h2 : x.toInt + z.toInt ≤ 2147483647) : (x + z).toInt = x.toInt + z.toInt := by
  rw [Int32.toInt_add]
  exact Int.bmod_eq_of_le (by omega) (by omega)
theorem sc_sub {x z : Int32} (h1 : -2147483648 ≤ x.toInt - z.toInt) (h2 : x.toInt - z.toInt ≤ 2147483647) : (x - z).toInt = x.toInt - z.toInt := by
  rw [Int32.toInt_sub]
  exact Int.bmod_eq_of_le (by omega) (by omega)
theorem sc_mul {x z : Int32} (h1 : -2147483648 ≤ x.toInt * z.toInt) (h2 : x.toInt * z.toInt ≤ 2147483647) : (x * z).toInt = x.toInt * z.toInt := by
  rw [Int32.toInt_mul]
  exact Int.bmod_eq_of_le (by omega) (by omega)
theorem scAdd_ok {env : List scI} {σ : List Int} {a b : scA} {x z : Int32} (h : scEk env σ) (ha : scEv σ a x.toInt) (hb : scEv σ b z.toInt) : scNk env σ (scAdd env a b) (x + z).toInt := by
  unfold scAdd
  split
  · rename_i hf
    have hf := sc_fit hf
    have ia := ha.iv h
    have ib := hb.iv h
    simp only at hf
    have e : (x + z).toInt = x.toInt + z.toInt := sc_add (by omega) (by omega)
    rw [e]
    obtain ⟨oa, ca⟩ := a
    obtain ⟨ob, cb⟩ := b
    cases oa with
    | none =>
      have ha' : x.toInt = ca := ha
      refine scNk.same h ?_
      cases ob with
      | none =>
        have hb' : z.toInt = cb := hb
        show x.toInt + z.toInt = ca + cb
        omega
      | some i =>
        obtain ⟨v, hv, e2⟩ := hb
        exact ⟨v, hv, by simp only at e2 ⊢; omega⟩
    | some i =>
      cases ob with
      | none =>
        have hb' : z.toInt = cb := hb
        obtain ⟨v, hv, e2⟩ := ha
        exact scNk.same h ⟨v, hv, by simp only at e2 ⊢; omega⟩
      | some j => exact scNk.new h (by show _ ≤ _; simp only; omega) (by show _ ≤ _; simp only; omega)
  · exact scNk.top _ h
theorem scSubt_ok {env : List scI} {σ : List Int} {a b : scA} {x z : Int32} (h : scEk env σ) (ha : scEv σ a x.toInt) (hb : scEv σ b z.toInt) : scNk env σ (scSubt env a b) (x - z).toInt := by
  unfold scSubt
  split
  · rename_i hf
    have hf := sc_fit hf
    have ia := ha.iv h
    have ib := hb.iv h
    simp only at hf
    have e : (x - z).toInt = x.toInt - z.toInt := sc_sub (by omega) (by omega)
    rw [e]
    obtain ⟨oa, ca⟩ := a
    obtain ⟨ob, cb⟩ := b
    cases ob with
    | none =>
      have hb' : z.toInt = cb := hb
      refine scNk.same h ?_
      cases oa with
      | none =>
        have ha' : x.toInt = ca := ha
        show x.toInt - z.toInt = ca - cb
        omega
      | some i =>
        obtain ⟨v, hv, e2⟩ := ha
        exact ⟨v, hv, by simp only at e2 ⊢; omega⟩
    | some j => exact scNk.new h (by show _ ≤ _; simp only; omega) (by show _ ≤ _; simp only; omega)
  · exact scNk.top _ h
theorem scMul_ok {env : List scI} {σ : List Int} {a b : scA} {x z : Int32} (h : scEk env σ) (ha : scEv σ a x.toInt) (hb : scEv σ b z.toInt) : scNk env σ (scMul env a b) (x * z).toInt := by
  unfold scMul
  split
  · rename_i hf
    simp only [Bool.and_eq_true, decide_eq_true_eq] at hf
    obtain ⟨⟨h1, h2⟩, h3⟩ := hf
    have ia := ha.iv h
    have ib := hb.iv h
    have l1 : (scIv env a).1 * (scIv env b).1 ≤ x.toInt * z.toInt := Int.mul_le_mul ia.1 ib.1 h2 (by omega)
    have l2 : x.toInt * z.toInt ≤ (scIv env a).2 * (scIv env b).2 := Int.mul_le_mul ia.2 ib.2 (by omega) (by omega)
    have l0 : 0 ≤ (scIv env a).1 * (scIv env b).1 := Int.mul_nonneg h1 h2
    have e : (x * z).toInt = x.toInt * z.toInt := sc_mul (by omega) (by omega)
    rw [e]
    exact scNk.new h l1 l2
  · exact scNk.top _ h
theorem sc_tdiv {x z : Int} (hz : 0 < z) : (0 ≤ x → 0 ≤ x.tdiv z ∧ x.tdiv z ≤ x) ∧ (x ≤ 0 → x ≤ x.tdiv z ∧ x.tdiv z ≤ 0) := by
  have key : ∀ w : Int, 0 ≤ w → 0 ≤ w.tdiv z ∧ w.tdiv z ≤ w := by
    intro w hw
    refine ⟨Int.tdiv_nonneg hw (Int.le_of_lt hz), ?_⟩
    rw [Int.tdiv_eq_ediv_of_nonneg hw]
    exact Int.ediv_le_self _ hw
  refine ⟨key x, fun hx => ?_⟩
  have h := key (-x) (by omega)
  rw [Int.neg_tdiv] at h
  omega
theorem scDiv_ok {env : List scI} {σ : List Int} {a b : scA} {x z : Int32} (h : scEk env σ) (ha : scEv σ a x.toInt) (hb : scEv σ b z.toInt) (hp : 0 < (scIv env b).1) : scNk env σ (scDiv env a) (x / z).toInt := by
  have ia := ha.iv h
  have ib := hb.iv h
  have hz : 0 < z.toInt := by omega
  have q := sc_tdiv (x := x.toInt) hz
  have r1 := x.le_toInt
  have r2 := x.toInt_lt
  have e : (x / z).toInt = x.toInt.tdiv z.toInt := by
    rw [Int32.toInt_div]
    rcases Int.le_total 0 x.toInt with h0 | h0
    · have := q.1 h0
      exact Int.bmod_eq_of_le (by omega) (by omega)
    · have := q.2 h0
      exact Int.bmod_eq_of_le (by omega) (by omega)
  rw [e]
  unfold scDiv
  rcases Int.le_total 0 x.toInt with h0 | h0
  · have := q.1 h0
    refine scNk.new h ?_ ?_
    · show (if _ then _ else _) ≤ _
      split <;> omega
    · show _ ≤ (if _ then _ else _)
      split <;> omega
  · have := q.2 h0
    refine scNk.new h ?_ ?_
    · show (if _ then _ else _) ≤ _
      split <;> omega
    · show _ ≤ (if _ then _ else _)
      split <;> omega
theorem sc_nz {env : List scI} {σ : List Int} {b : scA} {z : Int32} (h : scEk env σ) (hb : scEv σ b z.toInt) (hp : 0 < (scIv env b).1) : ¬ z = 0 := by
  have ib := hb.iv h
  intro e
  rw [e] at ib
  have : (0 : Int32).toInt = 0 := by decide
  omega
/-- what is masked by a number that isn't below 0 -/
def scAnd (env : List scI) (a b : scA) : scR := if decide (0 ≤ (scIv env b).1) then scNew env (0, (scIv env b).2) else if decide (0 ≤ (scIv env a).1) then scNew env (0, (scIv env a).2) else scNew env scTop
theorem scq_and {x z : Int32} (h : 0 ≤ z.toInt) : 0 ≤ (x &&& z).toInt ∧ (x &&& z).toInt ≤ z.toInt := by
  have hz : z.toInt = (z.toBitVec.toNat : Int) := by
    show z.toBitVec.toInt = _
    have h' : 0 ≤ z.toBitVec.toInt := h
    have := z.toBitVec.isLt
    rw [BitVec.toInt_eq_toNat_cond] at h' ⊢
    split <;> rename_i hc <;> simp only [hc, if_true, if_false] at h' ⊢ <;> omega
  have hl : z.toInt < 2 ^ 31 := z.toInt_lt
  have e : (x &&& z).toBitVec.toNat = x.toBitVec.toNat &&& z.toBitVec.toNat := by rw [Int32.toBitVec_and, BitVec.toNat_and]
  have e2 : (x &&& z).toBitVec.toNat ≤ z.toBitVec.toNat := by rw [e]; exact Nat.and_le_right
  have e3 : (x &&& z).toInt = ((x &&& z).toBitVec.toNat : Int) := by
    show (x &&& z).toBitVec.toInt = _
    rw [BitVec.toInt_eq_toNat_of_lt (by omega)]
  omega
theorem scq_andc (x z : Int32) : x &&& z = z &&& x := by
  apply Int32.toBitVec_inj.mp
  rw [Int32.toBitVec_and, Int32.toBitVec_and, BitVec.and_comm]
theorem scAnd_ok {env : List scI} {σ : List Int} {a b : scA} {x z : Int32} (h : scEk env σ) (ha : scEv σ a x.toInt) (hb : scEv σ b z.toInt) : scNk env σ (scAnd env a b) (x &&& z).toInt := by
  have ia := ha.iv h
  have ib := hb.iv h
  unfold scAnd
  split
  · rename_i hc
    simp only [decide_eq_true_eq] at hc
    have := scq_and (x := x) (z := z) (by omega)
    exact scNk.new h this.1 (by show _ ≤ (scIv env b).2; omega)
  · split
    · rename_i hc
      simp only [decide_eq_true_eq] at hc
      have := scq_and (x := z) (z := x) (by omega)
      rw [scq_andc]
      exact scNk.new h this.1 (by show _ ≤ (scIv env a).2; omega)
    · exact scNk.top _ h
end
