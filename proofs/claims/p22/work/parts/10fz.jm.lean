-- WHAT THE REFERENCE KEEPS BESIDE BOUNDS: its law is well-formed, its lives take hours
abbrev tC : Type := List (Nat × Nat)
/-- the stack's height behind such a code -/
def dpR : Nat → tC → Option Nat
  | d, [] => some d
  | d, c :: cs => if c.1 < 2 then (if c.1 = 1 ∧ 4 < c.2 then none else dpR (d + 1) cs) else (if 2 ≤ d then dpR (d - 1) cs else none)
def lwHas (m : Nat → Nat → Int32) (b : Nat) (cs : tC) : Prop := ∀ (i : Nat) (c : Nat × Nat), cs[i]? = some c → (m (b + i) 0).toInt = c.1 ∧ (m (b + i) 1).toInt = c.2
def jmOk (m : Nat → Nat → Int32) : Prop := (∃ cs : tC, (m 0 17).toInt = (cs.length : Int) ∧ cs.length ≤ 160 ∧ (cs = [] ∨ dpR 0 cs = some 1) ∧ lwHas m 91 cs) ∧ ∀ i : Nat, i < 8 → (i : Int) < (m 4 0).toInt → 1 ≤ (m (35 + i) 3).toInt
/-- places that it speaks of -/
def jmPr (k j : Nat) : Bool := (Nat.ble 91 k && Nat.blt k 251) || (Nat.beq k 0 && Nat.beq j 17) || (Nat.beq k 4 && Nat.beq j 0) || (Nat.ble 35 k && Nat.blt k 43 && Nat.beq j 3)
theorem jm_stable {m m' : Nat → Nat → Int32} (h : jmOk m) (e : ∀ k j, jmPr k j = true → m' k j = m k j) : jmOk m' := by
  obtain ⟨⟨cs, h1, h2, h3, h4⟩, h5⟩ := h
  refine ⟨⟨cs, ?_, h2, h3, fun i c hi => ?_⟩, fun i hi h8 => ?_⟩
  · rw [e 0 17 (by decide)]
    exact h1
  · have hl : i < cs.length := (List.getElem?_eq_some_iff.mp hi).1
    have hp : ∀ j, jmPr (91 + i) j = true := fun j => by
      have h1 : Nat.ble 91 (91 + i) = true := by simp
      have h2 : Nat.blt (91 + i) 251 = true := by simp; omega
      simp only [jmPr, h1, h2, Bool.and_self, Bool.true_or]
    rw [e _ _ (hp 0), e _ _ (hp 1)]
    exact h4 i c hi
  · rw [e 4 0 (by decide)] at h8
    have hp : jmPr (35 + i) 3 = true := by
      have h1 : Nat.ble 35 (35 + i) = true := by simp
      have h2 : Nat.blt (35 + i) 43 = true := by simp; omega
      have h3 : Nat.beq 3 3 = true := rfl
      simp only [jmPr, h1, h2, h3, Bool.and_self, Bool.or_true]
    rw [e _ _ hp]
    exact h5 i hi h8
def scMd (inv : Nat → List (Int × Int)) : Bool := match inv 999 with
  | [e] => decide (e = (1, 1))
  | _ => false
def scJ (inv : Nat → List (Int × Int)) (m : Nat → Nat → Int32) : Prop := scMd inv = true → jmOk m
/-- places a to a + n of cell k aren't of those -/
def jmFree (k a n : Nat) : Bool := !(Nat.ble 91 k && Nat.blt k 251) && !(Nat.beq k 0 && Nat.ble a 17 && Nat.ble 17 (a + n)) && !(Nat.beq k 4 && Nat.beq a 0) && !(Nat.ble 35 k && Nat.blt k 43 && Nat.ble a 3 && Nat.ble 3 (a + n))
def scFree (inv : Nat → List (Int × Int)) (k a n : Nat) : Bool := !scMd inv || jmFree k a n
theorem jmFree_ok {k a n j : Nat} (h : jmFree k a n = true) (h1 : a ≤ j) (h2 : j ≤ a + n) : jmPr k j = false := by
  simp only [jmFree, Bool.and_eq_true, Bool.not_eq_true', Bool.and_eq_false_iff, ← Bool.not_eq_true, Nat.ble_eq, Nat.blt_eq, Nat.beq_eq] at h
  simp only [jmPr, ← Bool.not_eq_true, Bool.or_eq_true, Bool.and_eq_true, Nat.ble_eq, Nat.blt_eq, Nat.beq_eq]
  omega
theorem scFree_ok {inv : Nat → List (Int × Int)} {k a n : Nat} {m m' : Nat → Nat → Int32} (h : scFree inv k a n = true) (hJ : scJ inv m) (e : ∀ k' j', ¬ (k' = k ∧ a ≤ j' ∧ j' ≤ a + n) → m' k' j' = m k' j') : scJ inv m' := by
  intro hm
  refine jm_stable (hJ hm) (fun k' j' hp => e k' j' ?_)
  rintro ⟨e1, h1, h2⟩
  subst e1
  rw [scFree, hm] at h
  have := jmFree_ok (j := j') (by simpa using h) h1 h2
  rw [this] at hp
  cases hp
