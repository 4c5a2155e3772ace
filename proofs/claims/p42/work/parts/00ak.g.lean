-- P 11d
section
-- THE REFERENCE READS LAWS
/-- since M, nothing has changed but the reading's own numbers and what is noted from place m on -/
def lwFr (m : Nat) (M M' : fmM) : Prop := (∀ k j, k ≠ 0 → ¬ (251 + m ≤ k ∧ k < 411) → M'.1 k j = M.1 k j) ∧ (∀ j, j ≠ 4 → j ≠ 5 → j ≠ 6 → j ≠ 8 → j ≠ 18 → M'.1 0 j = M.1 0 j) ∧ M'.2 = M.2
def lwRep (M : fmM) (m : Nat) (cs : tC) : Prop := ∀ i c, cs[i]? = some c → (M.1 (251 + m + i) 0).toInt = c.1 ∧ (M.1 (251 + m + i) 1).toInt = c.2
def lwOk (M M' : fmM) (tx : tX) (n q m : Nat) (cs : tC) : Prop := rS M' tx n q ∧ M'.1 0 5 = 0 ∧ M'.1 0 8 = M.1 0 8 ∧ (M'.1 0 18).toInt = ((m + cs.length : Nat) : Int) ∧ lwRep M' m cs ∧ lwFr m M M'
def lwBad (M M' : fmM) (tx : tX) (n k a m : Nat) : Prop := (∃ q, rS M' tx n q) ∧ (M'.1 0 5).toInt = k ∧ (M'.1 0 6).toInt = a ∧ k ≠ 0 ∧ lwFr m M M'
theorem lwFr.trans {m m' : Nat} {M M1 M2 : fmM} (h : lwFr m M M1) (h' : lwFr m' M1 M2) (hm : m ≤ m') : lwFr m M M2 := by
  refine ⟨fun k j h1 h2 => ?_, fun j a b c d e => ?_, h'.2.2.trans h.2.2⟩
  · rw [h'.1 k j h1 (by omega), h.1 k j h1 h2]
  · rw [h'.2.1 j a b c d e, h.2.1 j a b c d e]
theorem lwFr.refl (m : Nat) (M : fmM) : lwFr m M M := ⟨fun _ _ _ _ => rfl, fun _ _ _ _ _ _ => rfl, rfl⟩
theorem lwFr.set {m j : Nat} {M M1 : fmM} {x : Int32} (h : lwFr m M M1) (hj : j = 4 ∨ j = 5 ∨ j = 6 ∨ j = 8 ∨ j = 18) : lwFr m M (fmI M1 0 j x) := by
  refine ⟨fun k i h1 h2 => ?_, fun i a b c d e => ?_, h.2.2⟩
  · rw [fmI_k M1 x h1]
    exact h.1 k i h1 h2
  · rw [fmI_j M1 x (by omega)]
    exact h.2.1 i a b c d e
theorem lwBad.nz {M M' : fmM} {tx : tX} {n k a m : Nat} (h : lwBad M M' tx n k a m) : ¬ M'.1 0 5 = 0 := by
  intro e
  have h1 := h.2.1
  rw [e] at h1
  have e0 : (0 : Int32).toInt = 0 := by decide
  have := h.2.2.2.1
  omega
theorem lwOk.trans {M M1 M2 : fmM} {tx : tX} {n q q2 m : Nat} {cs ds : tC} (h : lwOk M M1 tx n q m cs) (h' : lwOk M1 M2 tx n q2 (m + cs.length) ds) (hl : m + cs.length ≤ 160) : lwOk M M2 tx n q2 m (cs ++ ds) := by
  obtain ⟨a1, a2, a3, a4, a5, a6⟩ := h
  obtain ⟨b1, b2, b3, b4, b5, b6⟩ := h'
  refine ⟨b1, b2, b3.trans a3, ?_, ?_, a6.trans b6 (by omega)⟩
  · rw [b4, List.length_append]
    omega
  · intro i c hi
    by_cases h : i < cs.length
    · rw [List.getElem?_append_left h] at hi
      have := a5 i c hi
      rw [b6.1 _ _ (by omega) (by omega), b6.1 _ _ (by omega) (by omega)]
      exact this
    · rw [List.getElem?_append_right (by omega)] at hi
      have := b5 (i - cs.length) c hi
      rw [show 251 + m + i = 251 + (m + cs.length) + (i - cs.length) by omega]
      exact this
theorem lwOk.bad {M M1 M2 : fmM} {tx : tX} {n q k a m : Nat} {cs : tC} (h : lwOk M M1 tx n q m cs) (h' : lwBad M1 M2 tx n k a (m + cs.length)) : lwBad M M2 tx n k a m := ⟨h'.1, h'.2.1, h'.2.2.1, h'.2.2.2.1, h.2.2.2.2.2.trans h'.2.2.2.2 (by omega)⟩
/-- only the place has moved -/
theorem lwOk.at {M : fmM} {tx : tX} {n p q m : Nat} {x : Int32} (hS : rS M tx n p) (hf : M.1 0 5 = 0) (hm : (M.1 0 18).toInt = m) (hx : x.toInt = q) (hq : q ≤ n) : lwOk M (fmI M 0 4 x) tx n q m [] := ⟨hS.set hx hq, hf, rfl, hm, fun i c h => (by cases h), (lwFr.refl m M).set (Or.inl rfl)⟩
theorem lwBad.at {M : fmM} {tx : tX} {n p q k a m : Nat} {x kk aa : Int32} (hS : rS M tx n p) (hx : x.toInt = q) (hq : q ≤ n) (hk : kk.toInt = k) (ha : aa.toInt = a) (h0 : k ≠ 0) : lwBad M (fmI (fmI (fmI M 0 4 x) 0 5 kk) 0 6 aa) tx n k a m := ⟨⟨q, (hS.set hx hq).of rfl rfl rfl⟩, hk, ha, h0, (((lwFr.refl m M).set (Or.inl rfl)).set (Or.inr (Or.inl rfl))).set (Or.inr (Or.inr (Or.inl rfl)))⟩
/-- a bracket is closed -/
theorem lwBad.opn {M M1 : fmM} {tx : tX} {n k a m : Nat} {x : Int32} (h : lwBad M M1 tx n k a m) : lwBad M (fmI M1 0 8 x) tx n k a m := by
  obtain ⟨⟨q, h1⟩, h2, h3, h4, h5⟩ := h
  exact ⟨⟨q, h1.of rfl rfl rfl⟩, h2, h3, h4, h5.set (by omega)⟩
theorem lwBad.pre {M0 M M1 : fmM} {tx : tX} {n k a m m' : Nat} (h : lwBad M M1 tx n k a m') (hf : lwFr m M0 M) (hm : m ≤ m') : lwBad M0 M1 tx n k a m := ⟨h.1, h.2.1, h.2.2.1, h.2.2.2.1, hf.trans h.2.2.2.2 hm⟩
theorem l_sign {M : fmM} {Q : fmR → fmM → Prop} {tx : tX} {n p m : Nat} {c : Int32} (ci : Int) (hci : c.toInt = ci ∧ 0 ≤ ci) (hS : rS M tx n p) (hf : M.1 0 5 = 0) (hm : (M.1 0 18).toInt = m) (hok : ∀ (M' : fmM) (q : Nat), spSign tx ci p = .inr ((), q) → lwOk M M' tx n q m [] → Q (.inl none) M') (hbad : ∀ (M' : fmM) (k a : Nat), spSign tx ci p = .inl (k, a) → lwBad M M' tx n k a m → Q (.inl none) M') : pvGood Tm 2 qX11_sign [.ref 0, .int c] M Q := by
  obtain ⟨e, h0⟩ := hci
  subst e
  exact c_sign hS hf (fun q x e hx hq => hok _ q e (lwOk.at hS hf hm hx hq)) (fun k a q x kk aa e hk ha hx hq => hbad _ k a e (lwBad.at hS hx hq hk ha (by have := (spSign_bad hS.2.2.2.1 hS.2.2.1 e).2.2; omega))) h0
theorem l_num {M : fmM} {Q : fmR → fmM → Prop} {tx : tX} {n p m : Nat} {lo hi : Int32} (li hj : Int) (hl : lo.toInt = li ∧ hi.toInt = hj ∧ hj < 100000) (hS : rS M tx n p) (hf : M.1 0 5 = 0) (hm : (M.1 0 18).toInt = m) (hok : ∀ (M' : fmM) (v q : Nat) (w : Int32), spNum tx li hj p = .inr (v, q) → w.toInt = v → lwOk M M' tx n q m [] → Q (.inl (some (.int w))) M') (hbad : ∀ (M' : fmM) (k a : Nat), spNum tx li hj p = .inl (k, a) → lwBad M M' tx n k a m → Q (.inl (some (.int 0))) M') : pvGood Tm 2 qX11_number [.ref 0, .int lo, .int hi] M Q := by
  obtain ⟨e1, e2, h0⟩ := hl
  subst e1
  subst e2
  exact c_number hS hf h0 (fun v q x w e hw hx => hok _ v q w e hw (lwOk.at hS hf hm hx (spNum_ok hS.2.2.2.1 hS.2.2.1 e).2.1)) (fun k a q x kk aa e hk ha hx hq => hbad _ k a e (lwBad.at hS hx hq hk ha (by have := (spNum_bad hS.2.2.2.1 hS.2.2.1 e).2.2; omega)))
theorem lwOk.tr {M M1 M2 : fmM} {tx : tX} {n q q2 m m' : Nat} {cs ds es : tC} (h : lwOk M M1 tx n q m cs) (h' : lwOk M1 M2 tx n q2 m' ds) (hl : m' < 160) (e : m' = m + cs.length := by simp [Nat.add_assoc]) (e2 : cs ++ ds = es := by simp) : lwOk M M2 tx n q2 m es := by
  subst e
  subst e2
  exact h.trans h' (by omega)
theorem lwOk.bd {M M1 M2 : fmM} {tx : tX} {n q k a m m' : Nat} {cs : tC} (h : lwOk M M1 tx n q m cs) (h' : lwBad M1 M2 tx n k a m') (e : m' = m + cs.length := by simp [Nat.add_assoc]) : lwBad M M2 tx n k a m := by
  subst e
  exact h.bad h'
/-- the row of a note -/
theorem lw_row {m : Nat} (hm : m < 160) : 251 + m < Tm.1 ∧ Tm.2.1 (251 + m) = 0 ∧ Tm.2.2.1 (251 + m) = 2 := by
  have h : ∀ i, i < 160 → 251 + i < Tm.1 ∧ Tm.2.1 (251 + i) = 0 ∧ Tm.2.2.1 (251 + i) = 2 := by decide +kernel
  exact h m hm
theorem lw_at {x : Int32} {m : Nat} (hx : x.toInt = m) (hm : m < 160) : Tm.2.2.2 21 x.toNatClampNeg = 251 + m ∧ vp_in x 160 := by
  have e : x.toNatClampNeg = m := by
    show x.toInt.toNat = m
    omega
  rw [e]
  exact ⟨rfl, vp_in_iff.mpr ⟨by omega, by omega⟩⟩
theorem op_6 {x : Int32} {o : Nat} (ho : x.toInt = o) (h : x = 6) : o = 6 := by
  rw [h] at ho
  have e : (6 : Int32).toInt = 6 := by decide
  omega
theorem op_n {x : Int32} {o : Nat} (ho : x.toInt = o) (h : ¬ x = 6) : ¬ o = 6 := by
  intro e
  apply h
  apply i32_ext
  rw [ho, e]
  decide
theorem sk_sk {tx : tX} {n p : Nat} (ht : tOk tx n) (hp : p ≤ n) : sk tx (sk tx p) = sk tx p := sp_f (sp_stop tB_1 ht hp)
def lwPre (M : fmM) (tx : tX) (n p o m : Nat) : Prop := rS M tx n p ∧ M.1 0 5 = 0 ∧ (M.1 0 8).toInt = o ∧ o ≤ 6 ∧ (M.1 0 18).toInt = m ∧ m ≤ p ∧ n ≤ 150
def lwPo (r : tR tC) (M : fmM) (tx : tX) (n m : Nat) (Q : fmM → Prop) : Prop := (∀ (M' : fmM) (cs : tC) (q : Nat), r = .inr (cs, q) → lwOk M M' tx n q m cs → Q M') ∧ ∀ (M' : fmM) (k a : Nat), r = .inl (k, a) → lwBad M M' tx n k a m → Q M'
def lwG (tx : tX) (n f md : Nat) : Prop := ∀ (o p m : Nat) (M : fmM) (Q : fmR → fmM → Prop), lwPre M tx n p o m → ¬ spL tx f md o p = .inl (9, 0) → lwPo (spL tx f md o p) M tx n m (Q (.inl none)) → match md with
  | 0 => pvGood Tm (8 + 3 * (6 - o)) qX11_sum [.ref 0] M Q
  | 1 => pvGood Tm (7 + 3 * (6 - o)) qX11_product [.ref 0] M Q
  | 2 => pvGood Tm (6 + 3 * (6 - o)) qX11_one [.ref 0] M Q
  | 3 => ∀ v : Option Value, pvEv Tm (8 + 3 * (6 - o)) qX11_sum 4 [some (.ref 0), v] [] M Q
  | _ => ∀ v : Option Value, pvEv Tm (7 + 3 * (6 - o)) qX11_product 4 [some (.ref 0), v] [] M Q
theorem lwPre.next {M M1 : fmM} {tx : tX} {n p o m q : Nat} {cs : tC} (h : lwPre M tx n p o m) (k : lwOk M M1 tx n q m cs) (hq : p + cs.length ≤ q) : lwPre M1 tx n q o (m + cs.length) := ⟨k.1, k.2.1, by rw [k.2.2.1]; exact h.2.2.1, h.2.2.2.1, k.2.2.2.1, by have := h.2.2.2.2.2.1; omega, h.2.2.2.2.2.2⟩
theorem lwPre.at {M : fmM} {tx : tX} {n p o m q : Nat} {x : Int32} (h : lwPre M tx n p o m) (hx : x.toInt = q) (hq : q ≤ n) (hp : p ≤ q) : lwPre (fmI M 0 4 x) tx n q o m := ⟨h.1.set hx hq, h.2.1, h.2.2.1, h.2.2.2.1, h.2.2.2.2.1, by have := h.2.2.2.2.2.1; omega, h.2.2.2.2.2.2⟩
theorem lwPre.lt {M : fmM} {tx : tX} {n p o m : Nat} (h : lwPre M tx n p o m) : m < 160 := by
  have h1 := h.1.2.2.1
  have h2 := h.2.2.2.2.2.1
  have h3 := h.2.2.2.2.2.2
  omega
theorem spApp_ok {r : tR tC} {k : Nat → tR tC} {cs ds : tC} {q q2 : Nat} (e : r = .inr (cs, q)) (e2 : k q = .inr (ds, q2)) : spApp r k = .inr (cs ++ ds, q2) := by
  unfold spApp
  rw [e]
  simp only [spBind]
  rw [e2]
theorem spApp_b1 {r : tR tC} {k : Nat → tR tC} {e : Nat × Nat} (h : r = .inl e) : spApp r k = .inl e := by
  unfold spApp
  rw [h]
  rfl
theorem spApp_b2 {r : tR tC} {k : Nat → tR tC} {cs : tC} {q : Nat} {e : Nat × Nat} (h : r = .inr (cs, q)) (h2 : k q = .inl e) : spApp r k = .inl e := by
  unfold spApp
  rw [h]
  simp only [spBind]
  rw [h2]
theorem spOp_ok {c : Nat} {r : tR tC} {k : Nat → tR tC} {cs ds : tC} {q q2 : Nat} (e : r = .inr (cs, q)) (e2 : k q = .inr (ds, q2)) : spOp c r k = .inr (cs ++ (c, 0) :: ds, q2) := by
  unfold spOp
  rw [e]
  simp only [spBind]
  rw [e2]
theorem spOp_b1 {c : Nat} {r : tR tC} {k : Nat → tR tC} {e : Nat × Nat} (h : r = .inl e) : spOp c r k = .inl e := by
  unfold spOp
  rw [h]
  rfl
theorem spOp_b2 {c : Nat} {r : tR tC} {k : Nat → tR tC} {cs : tC} {q : Nat} {e : Nat × Nat} (h : r = .inr (cs, q)) (h2 : k q = .inl e) : spOp c r k = .inl e := by
  unfold spOp
  rw [h]
  simp only [spBind]
  rw [h2]
/-- what came ahead of a note, the note, and what follows -/
theorem lwOk.op {M M1 M2 M3 : fmM} {tx : tX} {n q q2 m c : Nat} {cs ds : tC} (h : lwOk M M1 tx n q m cs) (h2 : lwOk M1 M2 tx n q (m + cs.length) [(c, 0)]) (h3 : lwOk M2 M3 tx n q2 (m + (cs.length + 1)) ds) (hl : m + cs.length < 160) : lwOk M M3 tx n q2 m (cs ++ (c, 0) :: ds) := by
  have a := (h.trans h2 (by omega)).trans (ds := ds) (M2 := M3) (q2 := q2) (by simpa using h3) (by simp; omega)
  rw [List.append_assoc] at a
  exact a
theorem lwOk.pre {M0 M M1 : fmM} {tx : tX} {n q m : Nat} {cs : tC} (h : lwOk M M1 tx n q m cs) (hf : lwFr m M0 M) (ho : M.1 0 8 = M0.1 0 8) : lwOk M0 M1 tx n q m cs := ⟨h.1, h.2.1, h.2.2.1.trans ho, h.2.2.2.1, h.2.2.2.2.1, hf.trans h.2.2.2.2.2 (Nat.le_refl _)⟩
theorem lwFr.at {m : Nat} {M : fmM} {x : Int32} : lwFr m M (fmI M 0 4 x) := (lwFr.refl m M).set (Or.inl rfl)
theorem i32_add_sub (x : Int32) : x + 1 - 1 = x := by
  apply Int32.toBitVec_inj.mp
  simp
theorem lwOk.cl {M0 M M5 : fmM} {tx : tX} {n q m : Nat} {cs : tC} (h : lwOk M M5 tx n q m cs) (hf : lwFr m M0 M) (ho : M.1 0 8 = M0.1 0 8 + 1) : lwOk M0 (fmI M5 0 8 (M5.1 0 8 - 1)) tx n q m cs := by
  obtain ⟨a1, a2, a3, a4, a5, a6⟩ := h
  refine ⟨a1.of rfl rfl rfl, a2, ?_, a4, fun i c h => (by rw [fmI_k _ _ (by omega)]; exact a5 i c h), (hf.trans a6 (Nat.le_refl _)).set (by omega)⟩
  rw [fmI_s, a3, ho, i32_add_sub]
theorem lwBad.cl {M0 M M5 : fmM} {tx : tX} {n k a m : Nat} (h : lwBad M M5 tx n k a m) (hf : lwFr m M0 M) : lwBad M0 (fmI M5 0 8 (M5.1 0 8 - 1)) tx n k a m := (h.pre hf (Nat.le_refl _)).opn
theorem spTwo_ne1 {tx : tX} {rc : Nat → tR tC} {c q q1 : Nat} {u : Unit} (h : ¬ spTwo tx rc c q = .inl (9, 0)) (e1 : spSign tx 91 q = .inr (u, q1)) : ¬ rc q1 = .inl (9, 0) := spBind_ne (spBind_ne2 h e1)
theorem spTwo_ne2 {tx : tX} {rc : Nat → tR tC} {c q q1 q2 q3 : Nat} {u v : Unit} {cs : tC} (h : ¬ spTwo tx rc c q = .inl (9, 0)) (e1 : spSign tx 91 q = .inr (u, q1)) (e2 : rc q1 = .inr (cs, q2)) (e3 : spSign tx 44 q2 = .inr (v, q3)) : ¬ rc q3 = .inl (9, 0) := spBind_ne (spBind_ne2 (spBind_ne2 (spBind_ne2 h e1) e2) e3)
theorem lwOk.cs {M M' : fmM} {tx : tX} {n q m : Nat} {cs ds : tC} (h : lwOk M M' tx n q m cs) (e : cs = ds) : lwOk M M' tx n q m ds := e ▸ h
theorem tw_len {M M' : fmM} {tx : tX} {n k a m m' : Nat} (h : lwBad M M' tx n k a m) (e : m = m' := by simp [Nat.add_assoc]) : lwBad M M' tx n k a m' := e ▸ h
theorem tw_l2 {M M' : fmM} {tx : tX} {n q m m' : Nat} {cs : tC} (h : lwOk M M' tx n q m cs) (e : m = m' := by simp [Nat.add_assoc]) : lwOk M M' tx n q m' cs := e ▸ h
theorem tw_b {m m' : Nat} (h : m < 160) (e : m = m' := by simp [Nat.add_assoc]) : m' ≤ 160 := by omega
/-- a bracket is opened -/
theorem lwPre.opn {M : fmM} {tx : tX} {n p o m : Nat} (h : lwPre M tx n p o m) (h6 : ¬ o = 6) : lwPre (fmI M 0 8 (M.1 0 8 + 1)) tx n p (o + 1) m := by
  have h1 := h.2.2.2.1
  refine ⟨h.1.of rfl rfl rfl, h.2.1, ?_, by omega, h.2.2.2.2.1, h.2.2.2.2.2.1, h.2.2.2.2.2.2⟩
  rw [fmI_s]
  exact i32_p1 h.2.2.1 (by omega)
/-- too many of them -/
theorem lwPre.full {M : fmM} {tx : tX} {n p o m k : Nat} {kk : Int32} (h : lwPre M tx n p o m) (hk : kk.toInt = k ∧ k ≠ 0) : lwBad M (fmI (fmI M 0 5 kk) 0 6 (M.1 0 4)) tx n k p m := ⟨⟨p, h.1.of rfl rfl rfl⟩, hk.1, h.1.2.1, hk.2, ((lwFr.refl m M).set (Or.inr (Or.inl rfl))).set (Or.inr (Or.inr (Or.inl rfl)))⟩
section SpOne
variable {tx : tX} {rc : Nat → tR tC} {o a : Nat}
theorem spOne_1 (e : wd tx a = lwLeast) : (¬ o = 6 → spOne tx rc o a = spTwo tx rc 6 (sp tW tx a)) ∧ (o = 6 → spOne tx rc o a = .inl (3, a)) := by
  unfold spOne
  rw [if_pos e]
  exact ⟨fun h => if_neg h, fun h => if_pos h⟩
theorem spOne_2 (e1 : ¬ wd tx a = lwLeast) (e : wd tx a = lwMost) : (¬ o = 6 → spOne tx rc o a = spTwo tx rc 7 (sp tW tx a)) ∧ (o = 6 → spOne tx rc o a = .inl (3, a)) := by
  unfold spOne
  rw [if_neg e1, if_pos e]
  exact ⟨fun h => if_neg h, fun h => if_pos h⟩
theorem spOne_3 (e1 : ¬ wd tx a = lwLeast) (e2 : ¬ wd tx a = lwMost) (e : tx a = 40) : (¬ o = 6 → spOne tx rc o a = spPar tx rc (a + 1)) ∧ (o = 6 → spOne tx rc o a = .inl (3, a)) := by
  unfold spOne
  rw [if_neg e1, if_neg e2, if_pos e]
  exact ⟨fun h => if_neg h, fun h => if_pos h⟩
theorem spOne_4 {k : Nat} (e1 : ¬ wd tx a = lwLeast) (e2 : ¬ wd tx a = lwMost) (e3 : ¬ tx a = 40) (e : lwK (wd tx a) = some k) : spOne tx rc o a = .inr ([(1, k)], sp tW tx a) := by
  unfold spOne
  rw [if_neg e1, if_neg e2, if_neg e3, e]
theorem spOne_5 {v q : Nat} (e1 : ¬ wd tx a = lwLeast) (e2 : ¬ wd tx a = lwMost) (e3 : ¬ tx a = 40) (e : lwK (wd tx a) = none) (e5 : spNum tx 0 999 a = .inr (v, q)) : spOne tx rc o a = .inr ([(0, v)], q) := by
  unfold spOne
  rw [if_neg e1, if_neg e2, if_neg e3, e, e5]
  rfl
theorem spOne_6 {b : Nat × Nat} (e1 : ¬ wd tx a = lwLeast) (e2 : ¬ wd tx a = lwMost) (e3 : ¬ tx a = 40) (e : lwK (wd tx a) = none) (e5 : spNum tx 0 999 a = .inl b) : spOne tx rc o a = .inl b := by
  unfold spOne
  rw [if_neg e1, if_neg e2, if_neg e3, e, e5]
  rfl
end SpOne
set_option maxRecDepth 20000 in
theorem c_notes {M : fmM} {Q : fmR → fmM → Prop} {m : Nat} {w v : Int32} (hf : M.1 0 5 = 0) (hm : (M.1 0 18).toInt = m) (hm6 : m < 160) (hq : Q (.inl none) (fmI (fmI (fmI M (251 + m) 0 w) (251 + m) 1 v) 0 18 (M.1 0 18 + 1))) : pvGood Tm 0 qX11_notes [.ref 0, .int w, .int v] M Q := by
  refine pvGood_of (Nat.le_of_ble_eq_true rfl) ?_
  show pvEv Tm 0 qX11_notes 0 [some (.ref 0), some (.int w), some (.int v)] [] M Q
  refine pv_aloadn (pc := 0) (n := 0) 0 rfl rfl (fm_dec dtX11_notes 0 rfl) ?_
  refine pv_getI (k := 0) (j := 5) (ci := 11) (pc := 1) pfl_X11_117 (by decide) rfl (by decide) (fm_dec dtX11_notes 1 rfl) ?_
  refine pv_if_eq (pc := 4) 8 (by decide) (fm_dec dtX11_notes 2 rfl) (fun _ => ?_) (fun hc4 => by exfalso; exact hc4 hf)
  refine pv_aloadn (pc := 8) (n := 0) 0 rfl rfl (fm_dec dtX11_notes 4 rfl) ?_
  refine pv_getR (k := 0) (j := 20) (ci := 11) (pc := 9) 21 rfl (by decide) pfl_X11_43 (by decide) rfl (by decide) (fm_dec dtX11_notes 5 rfl) ?_
  refine pv_aloadn (pc := 12) (n := 0) 0 rfl rfl (fm_dec dtX11_notes 6 rfl) ?_
  refine pv_getI (k := 0) (j := 18) (ci := 11) (pc := 13) pfl_X11_209 (by decide) rfl (by decide) (fm_dec dtX11_notes 7 rfl) ?_
  refine pv_aald (k := 21) (n := 160) (r := (251 + m)) (pc := 16) (by decide) (Or.inr (Or.inr rfl)) rfl (lw_at hm hm6).2 (lw_at hm hm6).1 (by omega) (fm_dec dtX11_notes 8 rfl) ?_
  refine pv_iconst (pc := 17) (v := 0) (by decide) (fm_dec dtX11_notes 9 rfl) ?_
  refine pv_iloadn (pc := 18) (n := 1) 1 rfl rfl (fm_dec dtX11_notes 10 rfl) ?_
  refine pv_iast (k := (251 + m)) (n := 2) (pc := 19) (lw_row hm6).1 (lw_row hm6).2.1 (lw_row hm6).2.2 (fm_inl (by decide)) (fm_dec dtX11_notes 11 rfl) ?_
  refine pv_aloadn (pc := 20) (n := 0) 0 rfl rfl (fm_dec dtX11_notes 12 rfl) ?_
  refine pv_getR (k := 0) (j := 20) (ci := 11) (pc := 21) 21 rfl (by decide) pfl_X11_43 (by decide) rfl (by decide) (fm_dec dtX11_notes 13 rfl) ?_
  refine pv_aloadn (pc := 24) (n := 0) 0 rfl rfl (fm_dec dtX11_notes 14 rfl) ?_
  refine pv_getI (k := 0) (j := 18) (ci := 11) (pc := 25) pfl_X11_209 (by decide) rfl (by decide) (fm_dec dtX11_notes 15 rfl) ?_
  refine pv_aald (k := 21) (n := 160) (r := (251 + m)) (pc := 28) (by decide) (Or.inr (Or.inr rfl)) rfl (lw_at (show ((fmI M (251 + m) 0 w).1 0 18).toInt = m by rw [fmI_k M w (by omega)]; exact hm) hm6).2 (lw_at (show ((fmI M (251 + m) 0 w).1 0 18).toInt = m by rw [fmI_k M w (by omega)]; exact hm) hm6).1 (by omega) (fm_dec dtX11_notes 16 rfl) ?_
  refine pv_iconst (pc := 29) (v := 1) (by decide) (fm_dec dtX11_notes 17 rfl) ?_
  refine pv_iloadn (pc := 30) (n := 2) 2 rfl rfl (fm_dec dtX11_notes 18 rfl) ?_
  refine pv_iast (k := (251 + m)) (n := 2) (pc := 31) (lw_row hm6).1 (lw_row hm6).2.1 (lw_row hm6).2.2 (fm_inl (by decide)) (fm_dec dtX11_notes 19 rfl) ?_
  refine pv_aloadn (pc := 32) (n := 0) 0 rfl rfl (fm_dec dtX11_notes 20 rfl) ?_
  refine pv_dup (pc := 33) rfl (fm_dec dtX11_notes 21 rfl) ?_
  refine pv_getI (k := 0) (j := 18) (ci := 11) (pc := 34) pfl_X11_209 (by decide) rfl (by decide) (fm_dec dtX11_notes 22 rfl) ?_
  refine pv_iconst (pc := 37) (v := 1) (by decide) (fm_dec dtX11_notes 23 rfl) ?_
  refine pv_iadd (pc := 38) (fm_dec dtX11_notes 24 rfl) ?_
  refine pv_putI (k := 0) (j := 18) (ci := 11) (pc := 39) pfl_X11_209 (by decide) rfl (by decide) (fm_dec dtX11_notes 25 rfl) ?_
  exact pv_return (pc := 42) rfl (fm_dec dtX11_notes 26 rfl) (by rw [fmI_k _ _ (show (0 : Nat) ≠ 251 + m by omega), fmI_k _ _ (show (0 : Nat) ≠ 251 + m by omega)]; exact hq)
set_option maxRecDepth 20000 in
theorem c_notes1 {M : fmM} {Q : fmR → fmM → Prop} {w v : Int32} (hf : ¬ M.1 0 5 = 0) (hq : Q (.inl none) M) : pvGood Tm 0 qX11_notes [.ref 0, .int w, .int v] M Q := by
  refine pvGood_of (Nat.le_of_ble_eq_true rfl) ?_
  show pvEv Tm 0 qX11_notes 0 [some (.ref 0), some (.int w), some (.int v)] [] M Q
  refine pv_aloadn (pc := 0) (n := 0) 0 rfl rfl (fm_dec dtX11_notes 0 rfl) ?_
  refine pv_getI (k := 0) (j := 5) (ci := 11) (pc := 1) pfl_X11_117 (by decide) rfl (by decide) (fm_dec dtX11_notes 1 rfl) ?_
  refine pv_if_eq (pc := 4) 8 (by decide) (fm_dec dtX11_notes 2 rfl) (fun hc4 => by exfalso; exact hf hc4) (fun _ => ?_)
  exact pv_return (pc := 7) rfl (fm_dec dtX11_notes 3 rfl) hq
theorem l_notes {M : fmM} {Q : fmR → fmM → Prop} {tx : tX} {n p m : Nat} {w v : Int32} (wn vn : Nat) (hS : rS M tx n p) (hf : M.1 0 5 = 0) (hm : (M.1 0 18).toInt = m) (hm6 : m < 160) (hw : w.toInt = wn) (hv : v.toInt = vn) (hok : ∀ M' : fmM, lwOk M M' tx n p m [(wn, vn)] → Q (.inl none) M') : pvGood Tm 0 qX11_notes [.ref 0, .int w, .int v] M Q := by
  refine c_notes hf hm hm6 (hok _ ?_)
  have e1 : ∀ j, (fmI (fmI (fmI M (251 + m) 0 w) (251 + m) 1 v) 0 18 (M.1 0 18 + 1)).1 0 j = if j = 18 then M.1 0 18 + 1 else M.1 0 j := by
    intro j
    by_cases e : j = 18
    · subst e
      rw [fmI_s]
      rfl
    · rw [fmI_j _ _ e, fmI_k _ _ (by omega), fmI_k _ _ (by omega), if_neg e]
  have e2 : ∀ k j, k ≠ 0 → k ≠ 251 + m → (fmI (fmI (fmI M (251 + m) 0 w) (251 + m) 1 v) 0 18 (M.1 0 18 + 1)).1 k j = M.1 k j := by
    intro k j h1 h2
    rw [fmI_k _ _ h1, fmI_k _ _ h2, fmI_k _ _ h2]
  refine ⟨hS.of (e1 2) (e1 4) (funext fun j => e2 1 j (by omega) (by omega)), by rw [e1]; exact hf, e1 8, ?_, ?_, ?_, ?_, rfl⟩
  · rw [e1]
    exact i32_p1 hm (by omega)
  · intro i c hi
    cases i with
    | zero =>
      cases hi
      have r0 : (fmI (fmI (fmI M (251 + m) 0 w) (251 + m) 1 v) 0 18 (M.1 0 18 + 1)).1 (251 + m) 0 = w := by rw [fmI_k _ _ (by omega), fmI_j _ _ (by omega), fmI_s]
      have r1 : (fmI (fmI (fmI M (251 + m) 0 w) (251 + m) 1 v) 0 18 (M.1 0 18 + 1)).1 (251 + m) 1 = v := by rw [fmI_k _ _ (by omega), fmI_s]
      rw [Nat.add_zero, r0, r1]
      exact ⟨hw, hv⟩
    | succ i => simp at hi
  · intro k j h1 h2
    exact e2 k j h1 (by omega)
  · intro j a b c d e
    rw [e1, if_neg e]
set_option maxRecDepth 20000 in
theorem c_opens {M : fmM} {Q : fmR → fmM → Prop} {tx : tX} {n p o : Nat} (hS : rS M tx n p) (hf : M.1 0 5 = 0) (ho : (M.1 0 8).toInt = o) (h6 : o = 6 → Q (.inl (some (.int 0))) (fmI (fmI M 0 5 3) 0 6 (M.1 0 4))) (hn : ¬ o = 6 → Q (.inl (some (.int 1))) (fmI M 0 8 (M.1 0 8 + 1))) : pvGood Tm 1 qX11_opens [.ref 0] M Q := by
  refine pvGood_of (Nat.le_of_ble_eq_true rfl) ?_
  show pvEv Tm 1 qX11_opens 0 [some (.ref 0)] [] M Q
  refine pv_aloadn (pc := 0) (n := 0) 0 rfl rfl (fm_dec dtX11_opens 0 rfl) ?_
  refine pv_getI (k := 0) (j := 5) (ci := 11) (pc := 1) pfl_X11_117 (by decide) rfl (by decide) (fm_dec dtX11_opens 1 rfl) ?_
  refine pv_if_ne (pc := 4) 28 (by decide) (fm_dec dtX11_opens 2 rfl) (fun hc4 => by exfalso; exact hc4 hf) (fun _ => ?_)
  refine pv_aloadn (pc := 7) (n := 0) 0 rfl rfl (fm_dec dtX11_opens 3 rfl) ?_
  refine pv_getI (k := 0) (j := 8) (ci := 11) (pc := 8) pfl_X11_160 (by decide) rfl (by decide) (fm_dec dtX11_opens 4 rfl) ?_
  refine pv_bipush (pc := 11) (v := 6) (by decide) (fm_dec dtX11_opens 5 rfl) ?_
  refine pv_icmp_ne (pc := 13) 28 (by decide) (fm_dec dtX11_opens 6 rfl) (fun hc13 => ?_) (fun hc13 => ?_)
  · refine pv_aloadn (pc := 28) (n := 0) 0 rfl rfl (fm_dec dtX11_opens 13 rfl) ?_
    refine pv_getI (k := 0) (j := 5) (ci := 11) (pc := 29) pfl_X11_117 (by decide) rfl (by decide) (fm_dec dtX11_opens 14 rfl) ?_
    refine pv_if_ne (pc := 32) 45 (by decide) (fm_dec dtX11_opens 15 rfl) (fun hc32 => by exfalso; exact hc32 hf) (fun _ => ?_)
    refine pv_aloadn (pc := 35) (n := 0) 0 rfl rfl (fm_dec dtX11_opens 16 rfl) ?_
    refine pv_dup (pc := 36) rfl (fm_dec dtX11_opens 17 rfl) ?_
    refine pv_getI (k := 0) (j := 8) (ci := 11) (pc := 37) pfl_X11_160 (by decide) rfl (by decide) (fm_dec dtX11_opens 18 rfl) ?_
    refine pv_iconst (pc := 40) (v := 1) (by decide) (fm_dec dtX11_opens 19 rfl) ?_
    refine pv_iadd (pc := 41) (fm_dec dtX11_opens 20 rfl) ?_
    refine pv_putI (k := 0) (j := 8) (ci := 11) (pc := 42) pfl_X11_160 (by decide) rfl (by decide) (fm_dec dtX11_opens 21 rfl) ?_
    refine pv_aloadn (pc := 45) (n := 0) 0 rfl rfl (fm_dec dtX11_opens 22 rfl) ?_
    refine pv_getI (k := 0) (j := 5) (ci := 11) (pc := 46) pfl_X11_117 (by decide) rfl (by decide) (fm_dec dtX11_opens 23 rfl) ?_
    refine pv_if_ne (pc := 49) 56 (by decide) (fm_dec dtX11_opens 24 rfl) (fun hc49 => by exfalso; exact hc49 hf) (fun _ => ?_)
    refine pv_iconst (pc := 52) (v := 1) (by decide) (fm_dec dtX11_opens 25 rfl) ?_
    refine pv_goto (pc := 53) 57 (by decide) (fm_dec dtX11_opens 26 rfl) ?_
    exact pv_zreturn (pc := 57) rfl (by first | exact Or.inr rfl | exact Or.inl rfl) (fm_dec dtX11_opens 28 rfl) (by first | exact h6 (op_6 ho hc13) | exact hn (op_n ho hc13))
  · refine pv_aloadn (pc := 16) (n := 0) 0 rfl rfl (fm_dec dtX11_opens 7 rfl) ?_
    refine pv_iconst (pc := 17) (v := 3) (by decide) (fm_dec dtX11_opens 8 rfl) ?_
    refine pv_aloadn (pc := 18) (n := 0) 0 rfl rfl (fm_dec dtX11_opens 9 rfl) ?_
    refine pv_getI (k := 0) (j := 4) (ci := 11) (pc := 19) pfl_X11_110 (by decide) rfl (by decide) (fm_dec dtX11_opens 10 rfl) ?_
    refine pv_invV2 (k := 0) (d' := 0) (pc := 22) pcv_X11_130 (by decide) rfl (Nat.le_of_ble_eq_true rfl) (by decide) (fm_dec dtX11_opens 11 rfl) ?_
    refine c_wrongAt (fun _ => ?_) (fun h9 => absurd hf h9) 
    refine pv_then0 ?_
    refine pv_goto (pc := 25) 45 (by decide) (fm_dec dtX11_opens 12 rfl) ?_
    refine pv_aloadn (pc := 45) (n := 0) 0 rfl rfl (fm_dec dtX11_opens 22 rfl) ?_
    refine pv_getI (k := 0) (j := 5) (ci := 11) (pc := 46) pfl_X11_117 (by decide) rfl (by decide) (fm_dec dtX11_opens 23 rfl) ?_
    refine pv_if_ne (pc := 49) 56 (by decide) (fm_dec dtX11_opens 24 rfl) (fun _ => ?_) (fun hc49 => by exfalso; exact absurd (show (3 : Int32) = 0 from hc49) (by decide))
    refine pv_iconst (pc := 56) (v := 0) (by decide) (fm_dec dtX11_opens 27 rfl) ?_
    exact pv_zreturn (pc := 57) rfl (by first | exact Or.inr rfl | exact Or.inl rfl) (fm_dec dtX11_opens 28 rfl) (by first | exact h6 (op_6 ho hc13) | exact hn (op_n ho hc13))
set_option maxRecDepth 20000 in
theorem out_sum {Q : fmR → fmM → Prop} {M : fmM} {o : Nat} {v : Option Value} (hf : ¬ M.1 0 5 = 0) (hq : Q (.inl none) M) : pvEv Tm (8 + 3 * (6 - o)) qX11_sum 4 [some (.ref 0), v] [] M Q := by
  refine pv_aloadn (pc := 4) (n := 0) 0 rfl rfl (fm_dec dtX11_sum 2 rfl) ?_
  refine pv_getI (k := 0) (j := 5) (ci := 11) (pc := 5) pfl_X11_117 (by decide) rfl (by decide) (fm_dec dtX11_sum 3 rfl) ?_
  refine pv_if_ne (pc := 8) 58 (by decide) (fm_dec dtX11_sum 4 rfl) (fun _ => ?_) (fun hc8 => by exfalso; exact hf hc8)
  exact pv_return (pc := 58) rfl (fm_dec dtX11_sum 30 rfl) hq
set_option maxRecDepth 20000 in
theorem out_product {Q : fmR → fmM → Prop} {M : fmM} {o : Nat} {v : Option Value} (hf : ¬ M.1 0 5 = 0) (hq : Q (.inl none) M) : pvEv Tm (7 + 3 * (6 - o)) qX11_product 4 [some (.ref 0), v] [] M Q := by
  refine pv_aloadn (pc := 4) (n := 0) 0 rfl rfl (fm_dec dtX11_product 2 rfl) ?_
  refine pv_getI (k := 0) (j := 5) (ci := 11) (pc := 5) pfl_X11_117 (by decide) rfl (by decide) (fm_dec dtX11_product 3 rfl) ?_
  refine pv_if_ne (pc := 8) 58 (by decide) (fm_dec dtX11_product 4 rfl) (fun _ => ?_) (fun hc8 => by exfalso; exact hf hc8)
  exact pv_return (pc := 58) rfl (fm_dec dtX11_product 30 rfl) hq
set_option maxRecDepth 20000 in
theorem c_knownHere {M : fmM} {Q : fmR → fmM → Prop} {tx : tX} {n a : Nat} (ha : sk tx a = a) (hS : rS M tx n a) (hf : M.1 0 5 = 0) (hy : ∀ (k : Nat) (x w : Int32), lwK (wd tx a) = some k → x.toInt = sp tW tx a → w.toInt = k → Q (.inl (some (.int w))) (fmI M 0 4 x)) (hn : ∀ x : Int32, lwK (wd tx a) = none → x.toInt = a → Q (.inl (some (.int (-1)))) (fmI M 0 4 x)) : pvGood Tm 5 qX11_knownHere [.ref 0] M Q := by
  refine pvGood_of (Nat.le_of_ble_eq_true rfl) ?_
  show pvEv Tm 5 qX11_knownHere 0 [some (.ref 0)] [] M Q
  refine pv_aloadn (pc := 0) (n := 0) 0 rfl rfl (fm_dec dtX11_knownHere 0 rfl) ?_
  refine pv_iconst (pc := 1) (v := 1) (by decide) (fm_dec dtX11_knownHere 1 rfl) ?_
  refine pv_bipush (pc := 2) (v := 7) (by decide) (fm_dec dtX11_knownHere 2 rfl) ?_
  refine pv_iconst (pc := 4) (v := 5) (by decide) (fm_dec dtX11_knownHere 3 rfl) ?_
  refine pv_iconst (pc := 5) (v := 0) (by decide) (fm_dec dtX11_knownHere 4 rfl) ?_
  refine pv_iconst (pc := 6) (v := 0) (by decide) (fm_dec dtX11_knownHere 5 rfl) ?_
  refine pv_invV5 (k := 0) (d' := 4) (pc := 7) pcv_X11_224 (by decide) rfl (Nat.le_of_ble_eq_true rfl) (by decide) (fm_dec dtX11_knownHere 6 rfl) ?_
  refine c_takes [97, 103, 101] ⟨by decide, by decide, by decide⟩ hS hf (fun x7 e7 hx7 => ?_) (fun x7 e7 hx7 => ?_)
  · refine pv_then1 ?_
    refine pv_if_eq (pc := 10) 15 (by decide) (fm_dec dtX11_knownHere 7 rfl) (fun hc10 => by exfalso; revert hc10; decide) (fun _ => ?_)
    refine pv_iconst (pc := 13) (v := 0) (by decide) (fm_dec dtX11_knownHere 8 rfl) ?_
    exact pv_ireturn (pc := 14) rfl (fm_dec dtX11_knownHere 9 rfl) (by rw [ha] at e7 hx7; (try simp only [fmI_fmI]); exact hy 0 x7 _ (by unfold lwK; rw [if_pos e7]) hx7 (by decide))
  · refine pv_then1 ?_
    refine pv_if_eq (pc := 10) 15 (by decide) (fm_dec dtX11_knownHere 7 rfl) (fun _ => ?_) (fun hc10 => by exfalso; revert hc10; decide)
    rw [ha] at e7 hx7
    have hS1 := hS.set hx7 hS.2.2.1
    refine pv_aloadn (pc := 15) (n := 0) 0 rfl rfl (fm_dec dtX11_knownHere 10 rfl) ?_
    refine pv_bipush (pc := 16) (v := 25) (by decide) (fm_dec dtX11_knownHere 11 rfl) ?_
    refine pv_iconst (pc := 18) (v := 5) (by decide) (fm_dec dtX11_knownHere 12 rfl) ?_
    refine pv_iconst (pc := 19) (v := 1) (by decide) (fm_dec dtX11_knownHere 13 rfl) ?_
    refine pv_bipush (pc := 20) (v := 18) (by decide) (fm_dec dtX11_knownHere 14 rfl) ?_
    refine pv_bipush (pc := 22) (v := 19) (by decide) (fm_dec dtX11_knownHere 15 rfl) ?_
    refine pv_invV5 (k := 0) (d' := 4) (pc := 24) pcv_X11_224 (by decide) rfl (Nat.le_of_ble_eq_true rfl) (by decide) (fm_dec dtX11_knownHere 16 rfl) ?_
    refine c_takes [121, 101, 97, 114, 115] ⟨by decide, by decide, by decide⟩ hS1 hf (fun x24 e24 hx24 => ?_) (fun x24 e24 hx24 => ?_)
    · refine pv_then1 ?_
      refine pv_if_eq (pc := 27) 32 (by decide) (fm_dec dtX11_knownHere 17 rfl) (fun hc27 => by exfalso; revert hc27; decide) (fun _ => ?_)
      refine pv_iconst (pc := 30) (v := 1) (by decide) (fm_dec dtX11_knownHere 18 rfl) ?_
      exact pv_ireturn (pc := 31) rfl (fm_dec dtX11_knownHere 19 rfl) (by rw [ha] at e24 hx24; (try simp only [fmI_fmI]); exact hy 1 x24 _ (by unfold lwK; rw [if_neg e7]; rw [if_pos e24]) hx24 (by decide))
    · refine pv_then1 ?_
      refine pv_if_eq (pc := 27) 32 (by decide) (fm_dec dtX11_knownHere 17 rfl) (fun _ => ?_) (fun hc27 => by exfalso; revert hc27; decide)
      rw [ha] at e24 hx24
      have hS2 := hS1.set hx24 hS1.2.2.1
      refine pv_aloadn (pc := 32) (n := 0) 0 rfl rfl (fm_dec dtX11_knownHere 20 rfl) ?_
      refine pv_bipush (pc := 33) (v := 23) (by decide) (fm_dec dtX11_knownHere 21 rfl) ?_
      refine pv_bipush (pc := 35) (v := 15) (by decide) (fm_dec dtX11_knownHere 22 rfl) ?_
      refine pv_bipush (pc := 37) (v := 18) (by decide) (fm_dec dtX11_knownHere 23 rfl) ?_
      refine pv_bipush (pc := 39) (v := 20) (by decide) (fm_dec dtX11_knownHere 24 rfl) ?_
      refine pv_bipush (pc := 41) (v := 8) (by decide) (fm_dec dtX11_knownHere 25 rfl) ?_
      refine pv_invV5 (k := 0) (d' := 4) (pc := 43) pcv_X11_224 (by decide) rfl (Nat.le_of_ble_eq_true rfl) (by decide) (fm_dec dtX11_knownHere 26 rfl) ?_
      refine c_takes [119, 111, 114, 116, 104] ⟨by decide, by decide, by decide⟩ hS2 hf (fun x43 e43 hx43 => ?_) (fun x43 e43 hx43 => ?_)
      · refine pv_then1 ?_
        refine pv_if_eq (pc := 46) 51 (by decide) (fm_dec dtX11_knownHere 27 rfl) (fun hc46 => by exfalso; revert hc46; decide) (fun _ => ?_)
        refine pv_iconst (pc := 49) (v := 2) (by decide) (fm_dec dtX11_knownHere 28 rfl) ?_
        exact pv_ireturn (pc := 50) rfl (fm_dec dtX11_knownHere 29 rfl) (by rw [ha] at e43 hx43; (try simp only [fmI_fmI]); exact hy 2 x43 _ (by unfold lwK; rw [if_neg e7]; rw [if_neg e24]; rw [if_pos e43]) hx43 (by decide))
      · refine pv_then1 ?_
        refine pv_if_eq (pc := 46) 51 (by decide) (fm_dec dtX11_knownHere 27 rfl) (fun _ => ?_) (fun hc46 => by exfalso; revert hc46; decide)
        rw [ha] at e43 hx43
        have hS3 := hS2.set hx43 hS2.2.2.1
        refine pv_aloadn (pc := 51) (n := 0) 0 rfl rfl (fm_dec dtX11_knownHere 30 rfl) ?_
        refine pv_iconst (pc := 52) (v := 4) (by decide) (fm_dec dtX11_knownHere 31 rfl) ?_
        refine pv_iconst (pc := 53) (v := 5) (by decide) (fm_dec dtX11_knownHere 32 rfl) ?_
        refine pv_iconst (pc := 54) (v := 1) (by decide) (fm_dec dtX11_knownHere 33 rfl) ?_
        refine pv_iconst (pc := 55) (v := 4) (by decide) (fm_dec dtX11_knownHere 34 rfl) ?_
        refine pv_iconst (pc := 56) (v := 0) (by decide) (fm_dec dtX11_knownHere 35 rfl) ?_
        refine pv_invV5 (k := 0) (d' := 4) (pc := 57) pcv_X11_224 (by decide) rfl (Nat.le_of_ble_eq_true rfl) (by decide) (fm_dec dtX11_knownHere 36 rfl) ?_
        refine c_takes [100, 101, 97, 100] ⟨by decide, by decide, by decide⟩ hS3 hf (fun x57 e57 hx57 => ?_) (fun x57 e57 hx57 => ?_)
        · refine pv_then1 ?_
          refine pv_if_eq (pc := 60) 65 (by decide) (fm_dec dtX11_knownHere 37 rfl) (fun hc60 => by exfalso; revert hc60; decide) (fun _ => ?_)
          refine pv_iconst (pc := 63) (v := 3) (by decide) (fm_dec dtX11_knownHere 38 rfl) ?_
          exact pv_ireturn (pc := 64) rfl (fm_dec dtX11_knownHere 39 rfl) (by rw [ha] at e57 hx57; (try simp only [fmI_fmI]); exact hy 3 x57 _ (by unfold lwK; rw [if_neg e7]; rw [if_neg e24]; rw [if_neg e43]; rw [if_pos e57]) hx57 (by decide))
        · refine pv_then1 ?_
          refine pv_if_eq (pc := 60) 65 (by decide) (fm_dec dtX11_knownHere 37 rfl) (fun _ => ?_) (fun hc60 => by exfalso; revert hc60; decide)
          rw [ha] at e57 hx57
          have hS4 := hS3.set hx57 hS3.2.2.1
          refine pv_aloadn (pc := 65) (n := 0) 0 rfl rfl (fm_dec dtX11_knownHere 40 rfl) ?_
          refine pv_bipush (pc := 66) (v := 6) (by decide) (fm_dec dtX11_knownHere 41 rfl) ?_
          refine pv_iconst (pc := 68) (v := 1) (by decide) (fm_dec dtX11_knownHere 42 rfl) ?_
          refine pv_iconst (pc := 69) (v := 3) (by decide) (fm_dec dtX11_knownHere 43 rfl) ?_
          refine pv_bipush (pc := 70) (v := 20) (by decide) (fm_dec dtX11_knownHere 44 rfl) ?_
          refine pv_bipush (pc := 72) (v := 19) (by decide) (fm_dec dtX11_knownHere 45 rfl) ?_
          refine pv_invV5 (k := 0) (d' := 4) (pc := 74) pcv_X11_224 (by decide) rfl (Nat.le_of_ble_eq_true rfl) (by decide) (fm_dec dtX11_knownHere 46 rfl) ?_
          refine c_takes [102, 97, 99, 116, 115] ⟨by decide, by decide, by decide⟩ hS4 hf (fun x74 e74 hx74 => ?_) (fun x74 e74 hx74 => ?_)
          · refine pv_then1 ?_
            refine pv_if_eq (pc := 77) 84 (by decide) (fm_dec dtX11_knownHere 47 rfl) (fun hc77 => by exfalso; revert hc77; decide) (fun _ => ?_)
            refine pv_iconst (pc := 80) (v := 4) (by decide) (fm_dec dtX11_knownHere 48 rfl) ?_
            refine pv_goto (pc := 81) 85 (by decide) (fm_dec dtX11_knownHere 49 rfl) ?_
            exact pv_ireturn (pc := 85) rfl (fm_dec dtX11_knownHere 51 rfl) (by first | exact (by rw [ha] at e74 hx74; (try simp only [fmI_fmI]); exact hy 4 x74 _ (by unfold lwK; rw [if_neg e7]; rw [if_neg e24]; rw [if_neg e43]; rw [if_neg e57]; rw [if_pos e74]) hx74 (by decide)) | (rw [ha] at e74 hx74; (try simp only [fmI_fmI]); exact hn x74 (by unfold lwK; rw [if_neg e7, if_neg e24, if_neg e43, if_neg e57, if_neg e74]) hx74))
          · refine pv_then1 ?_
            refine pv_if_eq (pc := 77) 84 (by decide) (fm_dec dtX11_knownHere 47 rfl) (fun _ => ?_) (fun hc77 => by exfalso; revert hc77; decide)
            refine pv_iconst (pc := 84) (v := (-1)) (by decide) (fm_dec dtX11_knownHere 50 rfl) ?_
            exact pv_ireturn (pc := 85) rfl (fm_dec dtX11_knownHere 51 rfl) (by first | exact (by rw [ha] at e74 hx74; (try simp only [fmI_fmI]); exact hy 4 x74 _ (by unfold lwK; rw [if_neg e7]; rw [if_neg e24]; rw [if_neg e43]; rw [if_neg e57]; rw [if_pos e74]) hx74 (by decide)) | (rw [ha] at e74 hx74; (try simp only [fmI_fmI]); exact hn x74 (by unfold lwK; rw [if_neg e7, if_neg e24, if_neg e43, if_neg e57, if_neg e74]) hx74))
set_option maxRecDepth 20000 in
theorem c_one1 {M : fmM} {Q : fmR → fmM → Prop}  (hf : ¬ M.1 0 5 = 0) (hq : Q (.inl none) M) : pvGood Tm 6 qX11_one [.ref 0] M Q := by
  refine pvGood_of (Nat.le_of_ble_eq_true rfl) ?_
  show pvEv Tm 6 qX11_one 0 [some (.ref 0), none, none] [] M Q
  refine pv_aloadn (pc := 0) (n := 0) 0 rfl rfl (fm_dec dtX11_one 0 rfl) ?_
  refine pv_getI (k := 0) (j := 5) (ci := 11) (pc := 1) pfl_X11_117 (by decide) rfl (by decide) (fm_dec dtX11_one 1 rfl) ?_
  refine pv_if_eq (pc := 4) 8 (by decide) (fm_dec dtX11_one 2 rfl) (fun hc4 => by exfalso; exact hf hc4) (fun _ => ?_)
  exact pv_return (pc := 7) rfl (fm_dec dtX11_one 3 rfl) hq
set_option maxRecDepth 20000 in
theorem c_product1 {M : fmM} {Q : fmR → fmM → Prop}  (hf : ¬ M.1 0 5 = 0) (hq : Q (.inl none) M) : pvGood Tm 7 qX11_product [.ref 0] M Q := by
  refine pvGood_of (Nat.le_of_ble_eq_true rfl) ?_
  show pvEv Tm 7 qX11_product 0 [some (.ref 0), none] [] M Q
  refine pv_aloadn (pc := 0) (n := 0) 0 rfl rfl (fm_dec dtX11_product 0 rfl) ?_
  refine pv_invV0 (k := 0) (d' := 6) (pc := 1) pcv_X11_221 (by decide) rfl (Nat.le_of_ble_eq_true rfl) (by decide) (fm_dec dtX11_product 1 rfl) ?_
  refine c_one1 hf ?_
  refine pv_then0 ?_
  refine pv_aloadn (pc := 4) (n := 0) 0 rfl rfl (fm_dec dtX11_product 2 rfl) ?_
  refine pv_getI (k := 0) (j := 5) (ci := 11) (pc := 5) pfl_X11_117 (by decide) rfl (by decide) (fm_dec dtX11_product 3 rfl) ?_
  refine pv_if_ne (pc := 8) 58 (by decide) (fm_dec dtX11_product 4 rfl) (fun _ => ?_) (fun hc8 => by exfalso; exact hf hc8)
  exact pv_return (pc := 58) rfl (fm_dec dtX11_product 30 rfl) hq
set_option maxRecDepth 20000 in
theorem c_sum1 {M : fmM} {Q : fmR → fmM → Prop}  (hf : ¬ M.1 0 5 = 0) (hq : Q (.inl none) M) : pvGood Tm 8 qX11_sum [.ref 0] M Q := by
  refine pvGood_of (Nat.le_of_ble_eq_true rfl) ?_
  show pvEv Tm 8 qX11_sum 0 [some (.ref 0), none] [] M Q
  refine pv_aloadn (pc := 0) (n := 0) 0 rfl rfl (fm_dec dtX11_sum 0 rfl) ?_
  refine pv_invV0 (k := 0) (d' := 7) (pc := 1) pcv_X11_212 (by decide) rfl (Nat.le_of_ble_eq_true rfl) (by decide) (fm_dec dtX11_sum 1 rfl) ?_
  refine c_product1 hf ?_
  refine pv_then0 ?_
  refine pv_aloadn (pc := 4) (n := 0) 0 rfl rfl (fm_dec dtX11_sum 2 rfl) ?_
  refine pv_getI (k := 0) (j := 5) (ci := 11) (pc := 5) pfl_X11_117 (by decide) rfl (by decide) (fm_dec dtX11_sum 3 rfl) ?_
  refine pv_if_ne (pc := 8) 58 (by decide) (fm_dec dtX11_sum 4 rfl) (fun _ => ?_) (fun hc8 => by exfalso; exact hf hc8)
  exact pv_return (pc := 58) rfl (fm_dec dtX11_sum 30 rfl) hq
set_option maxRecDepth 20000 in
theorem lw_sum0 {tx : tX} {n f : Nat} (ih1 : lwG tx n f 1) (ih3 : lwG tx n f 3) : lwG tx n (f + 1) 0 := by
  intro o p m M Q hP hne hpo
  refine pvGood_of (Nat.le_of_ble_eq_true rfl) ?_
  show pvEv Tm (8 + 3 * (6 - o)) qX11_sum 0 [some (.ref 0), none] [] M Q
  refine pv_aloadn (pc := 0) (n := 0) 0 rfl rfl (fm_dec dtX11_sum 0 rfl) ?_
  refine pv_invV0 (k := 0) (d' := (7 + 3 * (6 - o))) (pc := 1) pcv_X11_212 (by decide) rfl (Nat.le_of_ble_eq_true rfl) (by omega) (fm_dec dtX11_sum 1 rfl) ?_
  refine ih1 o p m M _ hP (spBind_ne hne) ⟨fun M1 cs1 q1 e1 k1 => ?_, fun M1 kb ab eb hB => ?_⟩  
  · refine pv_then0 ?_
    have l1 := spL_len hP.1.2.2.2.1 _ _ _ _ _ _ hP.1.2.2.1 e1
    have hP1 := hP.next k1 l1.1
    exact ih3 o q1 (m + cs1.length) M1 Q hP1 (spBind_ne (spBind_ne2 hne e1)) ⟨fun M2 ds q2 e2 k2 => hpo.1 M2 _ q2 (spApp_ok e1 e2) (k1.trans k2 (Nat.le_of_lt hP1.lt)), fun M2 k a e2 k2 => hpo.2 M2 k a (spApp_b2 e1 e2) (k1.bad k2)⟩ none
  · refine pv_then0 ?_
    exact out_sum hB.nz (hpo.2 M1 kb ab (spApp_b1 eb) hB)
set_option maxRecDepth 20000 in
theorem lw_sum3 {tx : tX} {n f : Nat} (ih1 : lwG tx n f 1) (ih3 : lwG tx n f 3) : lwG tx n (f + 1) 3 := by
  intro o p m M Q hP hne hpo v
  show pvEv Tm (8 + 3 * (6 - o)) qX11_sum 4 [some (.ref 0), v] [] M Q
  refine pv_aloadn (pc := 4) (n := 0) 0 rfl rfl (fm_dec dtX11_sum 2 rfl) ?_
  refine pv_getI (k := 0) (j := 5) (ci := 11) (pc := 5) pfl_X11_117 (by decide) rfl (by decide) (fm_dec dtX11_sum 3 rfl) ?_
  refine pv_if_ne (pc := 8) 58 (by decide) (fm_dec dtX11_sum 4 rfl) (fun hc8 => by exfalso; exact hc8 hP.2.1) (fun _ => ?_)
  refine pv_aloadn (pc := 11) (n := 0) 0 rfl rfl (fm_dec dtX11_sum 5 rfl) ?_
  refine pv_bipush (pc := 12) (v := 43) (by decide) (fm_dec dtX11_sum 6 rfl) ?_
  refine pv_invV1 (k := 0) (d' := 2) (pc := 14) pcv_X11_215 (by decide) rfl (Nat.le_of_ble_eq_true rfl) (by omega) (fm_dec dtX11_sum 7 rfl) ?_
  refine c_takesSign hP.1 hP.2.1 (by decide) (fun x14 e14 hx14 hl14 => ?_) (fun x14 e14 hx14 => ?_)
  · refine pv_then1 ?_
    refine pv_if_eq (pc := 17) 24 (by decide) (fm_dec dtX11_sum 8 rfl) (fun hc17 => by exfalso; revert hc17; decide) (fun _ => ?_)
    refine pv_iconst (pc := 20) (v := 2) (by decide) (fm_dec dtX11_sum 9 rfl) ?_
    refine pv_goto (pc := 21) 38 (by decide) (fm_dec dtX11_sum 10 rfl) ?_
    refine pv_istoren (pc := 38) (n := 1) 1 rfl (by decide) rfl (fm_dec dtX11_sum 18 rfl) ?_
    dsimp only [List.set_cons_zero, List.set_cons_succ]
    refine pv_iloadn (pc := 39) (n := 1) 1 rfl rfl (fm_dec dtX11_sum 19 rfl) ?_
    refine pv_iconst (pc := 40) (v := (-1)) (by decide) (fm_dec dtX11_sum 20 rfl) ?_
    refine pv_icmp_ne (pc := 41) 45 (by decide) (fm_dec dtX11_sum 21 rfl) (fun _ => ?_) (fun hc41 => by exfalso; revert hc41; decide)
    have ne46 : ¬ spOp 2 (spL tx f 1 o (sk tx p + 1)) (fun q => spL tx f 3 o q) = .inl (9, 0) := fun h9 => hne ((if_pos e14).trans h9)
    have hP46 := hP.at (x := x14) hx14 hl14 (Nat.le_succ_of_le (sp_ge p))
    refine pv_aloadn (pc := 45) (n := 0) 0 rfl rfl (fm_dec dtX11_sum 23 rfl) ?_
    refine pv_invV0 (k := 0) (d' := (7 + 3 * (6 - o))) (pc := 46) pcv_X11_212 (by decide) rfl (Nat.le_of_ble_eq_true rfl) (by omega) (fm_dec dtX11_sum 24 rfl) ?_
    refine ih1 o (sk tx p + 1) m (fmI M 0 4 x14) _ hP46 (spBind_ne ne46) ⟨fun M46 c46 q46 e46 k46 => ?_, fun M46 kb ab eb hB => ?_⟩  
    · refine pv_then0 ?_
      have l46 := spL_len hP.1.2.2.2.1 _ _ _ _ _ _ hP46.1.2.2.1 e46
      have hP2 := hP46.next k46 l46.1
      refine pv_aloadn (pc := 49) (n := 0) 0 rfl rfl (fm_dec dtX11_sum 25 rfl) ?_
      refine pv_iloadn (pc := 50) (n := 1) 1 rfl rfl (fm_dec dtX11_sum 26 rfl) ?_
      refine pv_iconst (pc := 51) (v := 0) (by decide) (fm_dec dtX11_sum 27 rfl) ?_
      refine pv_invV2 (k := 0) (d' := 0) (pc := 52) pcv_X11_218 (by decide) rfl (Nat.le_of_ble_eq_true rfl) (by omega) (fm_dec dtX11_sum 28 rfl) ?_
      refine l_notes 2 0 k46.1 k46.2.1 hP2.2.2.2.2.1 hP2.lt (by decide) (by decide) (fun M52 k52 => ?_) 
      refine pv_then0 ?_
      refine pv_goto (pc := 55) 4 (by decide) (fm_dec dtX11_sum 29 rfl) ?_
      have hP3 : lwPre M52 tx n q46 o (m + (c46.length + 1)) := ⟨k52.1, k52.2.1, (by rw [k52.2.2.1]; exact hP2.2.2.1), hP2.2.2.2.1, (by have h9 := k52.2.2.2.1; simpa [Nat.add_assoc] using h9), (by have := hP.2.2.2.2.2.1; have := sp_ge (P := tB) (tx := tx) p; unfold sk at l46; omega), hP2.2.2.2.2.2.2⟩
      have ne4 := spBind_ne (spBind_ne2 ne46 e46)
      exact ih3 o q46 (m + (c46.length + 1)) M52 Q hP3 ne4 ⟨fun M2 ds q2 e2 k2 => hpo.1 M2 _ q2 ((if_pos e14).trans (spOp_ok e46 e2)) ((k46.op k52 k2 hP2.lt).pre lwFr.at rfl), fun M2 k a e2 k2 => hpo.2 M2 k a ((if_pos e14).trans (spOp_b2 e46 e2)) (((k46.trans k52 (Nat.le_of_lt hP2.lt)).bad (by simpa using k2)).pre lwFr.at (Nat.le_refl _))⟩ _
    · refine pv_then0 ?_
      refine pv_aloadn (pc := 49) (n := 0) 0 rfl rfl (fm_dec dtX11_sum 25 rfl) ?_
      refine pv_iloadn (pc := 50) (n := 1) 1 rfl rfl (fm_dec dtX11_sum 26 rfl) ?_
      refine pv_iconst (pc := 51) (v := 0) (by decide) (fm_dec dtX11_sum 27 rfl) ?_
      refine pv_invV2 (k := 0) (d' := 0) (pc := 52) pcv_X11_218 (by decide) rfl (Nat.le_of_ble_eq_true rfl) (by omega) (fm_dec dtX11_sum 28 rfl) ?_
      refine c_notes1 hB.nz ?_
      refine pv_then0 ?_
      refine pv_goto (pc := 55) 4 (by decide) (fm_dec dtX11_sum 29 rfl) ?_
      exact out_sum hB.nz (hpo.2 _ kb ab ((if_pos e14).trans (spOp_b1 eb)) (hB.pre lwFr.at (Nat.le_refl _)))
  · refine pv_then1 ?_
    refine pv_if_eq (pc := 17) 24 (by decide) (fm_dec dtX11_sum 8 rfl) (fun _ => ?_) (fun hc17 => by exfalso; revert hc17; decide)
    refine pv_aloadn (pc := 24) (n := 0) 0 rfl rfl (fm_dec dtX11_sum 11 rfl) ?_
    refine pv_bipush (pc := 25) (v := 45) (by decide) (fm_dec dtX11_sum 12 rfl) ?_
    refine pv_invV1 (k := 0) (d' := 2) (pc := 27) pcv_X11_215 (by decide) rfl (Nat.le_of_ble_eq_true rfl) (by omega) (fm_dec dtX11_sum 13 rfl) ?_
    refine c_takesSign (hP.1.bl hx14) hP.2.1 (by decide) (fun x27 e27 hx27 hl27 => ?_) (fun x27 e27 hx27 => ?_)
    · refine pv_then1 ?_
      refine pv_if_eq (pc := 30) 37 (by decide) (fm_dec dtX11_sum 14 rfl) (fun hc30 => by exfalso; revert hc30; decide) (fun _ => ?_)
      refine pv_iconst (pc := 33) (v := 3) (by decide) (fm_dec dtX11_sum 15 rfl) ?_
      refine pv_goto (pc := 34) 38 (by decide) (fm_dec dtX11_sum 16 rfl) ?_
      refine pv_istoren (pc := 38) (n := 1) 1 rfl (by decide) rfl (fm_dec dtX11_sum 18 rfl) ?_
      dsimp only [List.set_cons_zero, List.set_cons_succ]
      refine pv_iloadn (pc := 39) (n := 1) 1 rfl rfl (fm_dec dtX11_sum 19 rfl) ?_
      refine pv_iconst (pc := 40) (v := (-1)) (by decide) (fm_dec dtX11_sum 20 rfl) ?_
      refine pv_icmp_ne (pc := 41) 45 (by decide) (fm_dec dtX11_sum 21 rfl) (fun _ => ?_) (fun hc41 => by exfalso; revert hc41; decide)
      rw [sk_sk hP.1.2.2.2.1 hP.1.2.2.1] at e27 hx27 hl27
      have ne46 : ¬ spOp 3 (spL tx f 1 o (sk tx p + 1)) (fun q => spL tx f 3 o q) = .inl (9, 0) := fun h9 => hne (((if_neg e14).trans (if_pos e27)).trans h9)
      have hP46 := (hP.at (x := x14) hx14 (hP.1.bl hx14).2.2.1 (sp_ge p)).at (x := x27) hx27 hl27 (Nat.le_succ _)
      refine pv_aloadn (pc := 45) (n := 0) 0 rfl rfl (fm_dec dtX11_sum 23 rfl) ?_
      refine pv_invV0 (k := 0) (d' := (7 + 3 * (6 - o))) (pc := 46) pcv_X11_212 (by decide) rfl (Nat.le_of_ble_eq_true rfl) (by omega) (fm_dec dtX11_sum 24 rfl) ?_
      refine ih1 o (sk tx p + 1) m (fmI (fmI M 0 4 x14) 0 4 x27) _ hP46 (spBind_ne ne46) ⟨fun M46 c46 q46 e46 k46 => ?_, fun M46 kb ab eb hB => ?_⟩  
      · refine pv_then0 ?_
        have l46 := spL_len hP.1.2.2.2.1 _ _ _ _ _ _ hP46.1.2.2.1 e46
        have hP2 := hP46.next k46 l46.1
        refine pv_aloadn (pc := 49) (n := 0) 0 rfl rfl (fm_dec dtX11_sum 25 rfl) ?_
        refine pv_iloadn (pc := 50) (n := 1) 1 rfl rfl (fm_dec dtX11_sum 26 rfl) ?_
        refine pv_iconst (pc := 51) (v := 0) (by decide) (fm_dec dtX11_sum 27 rfl) ?_
        refine pv_invV2 (k := 0) (d' := 0) (pc := 52) pcv_X11_218 (by decide) rfl (Nat.le_of_ble_eq_true rfl) (by omega) (fm_dec dtX11_sum 28 rfl) ?_
        refine l_notes 3 0 k46.1 k46.2.1 hP2.2.2.2.2.1 hP2.lt (by decide) (by decide) (fun M52 k52 => ?_) 
        refine pv_then0 ?_
        refine pv_goto (pc := 55) 4 (by decide) (fm_dec dtX11_sum 29 rfl) ?_
        have hP3 : lwPre M52 tx n q46 o (m + (c46.length + 1)) := ⟨k52.1, k52.2.1, (by rw [k52.2.2.1]; exact hP2.2.2.1), hP2.2.2.2.1, (by have h9 := k52.2.2.2.1; simpa [Nat.add_assoc] using h9), (by have := hP.2.2.2.2.2.1; have := sp_ge (P := tB) (tx := tx) p; unfold sk at l46; omega), hP2.2.2.2.2.2.2⟩
        have ne4 := spBind_ne (spBind_ne2 ne46 e46)
        exact ih3 o q46 (m + (c46.length + 1)) M52 Q hP3 ne4 ⟨fun M2 ds q2 e2 k2 => hpo.1 M2 _ q2 (((if_neg e14).trans (if_pos e27)).trans (spOp_ok e46 e2)) ((k46.op k52 k2 hP2.lt).pre (lwFr.at.trans lwFr.at (Nat.le_refl _)) rfl), fun M2 k a e2 k2 => hpo.2 M2 k a (((if_neg e14).trans (if_pos e27)).trans (spOp_b2 e46 e2)) (((k46.trans k52 (Nat.le_of_lt hP2.lt)).bad (by simpa using k2)).pre (lwFr.at.trans lwFr.at (Nat.le_refl _)) (Nat.le_refl _))⟩ _
      · refine pv_then0 ?_
        refine pv_aloadn (pc := 49) (n := 0) 0 rfl rfl (fm_dec dtX11_sum 25 rfl) ?_
        refine pv_iloadn (pc := 50) (n := 1) 1 rfl rfl (fm_dec dtX11_sum 26 rfl) ?_
        refine pv_iconst (pc := 51) (v := 0) (by decide) (fm_dec dtX11_sum 27 rfl) ?_
        refine pv_invV2 (k := 0) (d' := 0) (pc := 52) pcv_X11_218 (by decide) rfl (Nat.le_of_ble_eq_true rfl) (by omega) (fm_dec dtX11_sum 28 rfl) ?_
        refine c_notes1 hB.nz ?_
        refine pv_then0 ?_
        refine pv_goto (pc := 55) 4 (by decide) (fm_dec dtX11_sum 29 rfl) ?_
        exact out_sum hB.nz (hpo.2 _ kb ab (((if_neg e14).trans (if_pos e27)).trans (spOp_b1 eb)) (hB.pre (lwFr.at.trans lwFr.at (Nat.le_refl _)) (Nat.le_refl _)))
    · refine pv_then1 ?_
      refine pv_if_eq (pc := 30) 37 (by decide) (fm_dec dtX11_sum 14 rfl) (fun _ => ?_) (fun hc30 => by exfalso; revert hc30; decide)
      refine pv_iconst (pc := 37) (v := (-1)) (by decide) (fm_dec dtX11_sum 17 rfl) ?_
      refine pv_istoren (pc := 38) (n := 1) 1 rfl (by decide) rfl (fm_dec dtX11_sum 18 rfl) ?_
      dsimp only [List.set_cons_zero, List.set_cons_succ]
      refine pv_iloadn (pc := 39) (n := 1) 1 rfl rfl (fm_dec dtX11_sum 19 rfl) ?_
      refine pv_iconst (pc := 40) (v := (-1)) (by decide) (fm_dec dtX11_sum 20 rfl) ?_
      refine pv_icmp_ne (pc := 41) 45 (by decide) (fm_dec dtX11_sum 21 rfl) (fun hc41 => by exfalso; revert hc41; decide) (fun _ => ?_)
      exact pv_return (pc := 44) rfl (fm_dec dtX11_sum 22 rfl) (by rw [sk_sk hP.1.2.2.2.1 hP.1.2.2.1] at e27 hx27; have h9 := hpo.1 (fmI M 0 4 x27) [] (sk tx p) ((if_neg e14).trans (if_neg e27)) (lwOk.at hP.1 hP.2.1 hP.2.2.2.2.1 hx27 (hP.1.bl hx14).2.2.1); rw [fmI_fmI]; exact h9)
set_option maxRecDepth 20000 in
theorem lw_product0 {tx : tX} {n f : Nat} (ih2 : lwG tx n f 2) (ih4 : lwG tx n f 4) : lwG tx n (f + 1) 1 := by
  intro o p m M Q hP hne hpo
  refine pvGood_of (Nat.le_of_ble_eq_true rfl) ?_
  show pvEv Tm (7 + 3 * (6 - o)) qX11_product 0 [some (.ref 0), none] [] M Q
  refine pv_aloadn (pc := 0) (n := 0) 0 rfl rfl (fm_dec dtX11_product 0 rfl) ?_
  refine pv_invV0 (k := 0) (d' := (6 + 3 * (6 - o))) (pc := 1) pcv_X11_221 (by decide) rfl (Nat.le_of_ble_eq_true rfl) (by omega) (fm_dec dtX11_product 1 rfl) ?_
  refine ih2 o p m M _ hP (spBind_ne hne) ⟨fun M1 cs1 q1 e1 k1 => ?_, fun M1 kb ab eb hB => ?_⟩  
  · refine pv_then0 ?_
    have l1 := spL_len hP.1.2.2.2.1 _ _ _ _ _ _ hP.1.2.2.1 e1
    have hP1 := hP.next k1 l1.1
    exact ih4 o q1 (m + cs1.length) M1 Q hP1 (spBind_ne (spBind_ne2 hne e1)) ⟨fun M2 ds q2 e2 k2 => hpo.1 M2 _ q2 (spApp_ok e1 e2) (k1.trans k2 (Nat.le_of_lt hP1.lt)), fun M2 k a e2 k2 => hpo.2 M2 k a (spApp_b2 e1 e2) (k1.bad k2)⟩ none
  · refine pv_then0 ?_
    exact out_product hB.nz (hpo.2 M1 kb ab (spApp_b1 eb) hB)
set_option maxRecDepth 20000 in
theorem lw_product3 {tx : tX} {n f : Nat} (ih2 : lwG tx n f 2) (ih4 : lwG tx n f 4) : lwG tx n (f + 1) 4 := by
  intro o p m M Q hP hne hpo v
  show pvEv Tm (7 + 3 * (6 - o)) qX11_product 4 [some (.ref 0), v] [] M Q
  refine pv_aloadn (pc := 4) (n := 0) 0 rfl rfl (fm_dec dtX11_product 2 rfl) ?_
  refine pv_getI (k := 0) (j := 5) (ci := 11) (pc := 5) pfl_X11_117 (by decide) rfl (by decide) (fm_dec dtX11_product 3 rfl) ?_
  refine pv_if_ne (pc := 8) 58 (by decide) (fm_dec dtX11_product 4 rfl) (fun hc8 => by exfalso; exact hc8 hP.2.1) (fun _ => ?_)
  refine pv_aloadn (pc := 11) (n := 0) 0 rfl rfl (fm_dec dtX11_product 5 rfl) ?_
  refine pv_bipush (pc := 12) (v := 42) (by decide) (fm_dec dtX11_product 6 rfl) ?_
  refine pv_invV1 (k := 0) (d' := 2) (pc := 14) pcv_X11_215 (by decide) rfl (Nat.le_of_ble_eq_true rfl) (by omega) (fm_dec dtX11_product 7 rfl) ?_
  refine c_takesSign hP.1 hP.2.1 (by decide) (fun x14 e14 hx14 hl14 => ?_) (fun x14 e14 hx14 => ?_)
  · refine pv_then1 ?_
    refine pv_if_eq (pc := 17) 24 (by decide) (fm_dec dtX11_product 8 rfl) (fun hc17 => by exfalso; revert hc17; decide) (fun _ => ?_)
    refine pv_iconst (pc := 20) (v := 4) (by decide) (fm_dec dtX11_product 9 rfl) ?_
    refine pv_goto (pc := 21) 38 (by decide) (fm_dec dtX11_product 10 rfl) ?_
    refine pv_istoren (pc := 38) (n := 1) 1 rfl (by decide) rfl (fm_dec dtX11_product 18 rfl) ?_
    dsimp only [List.set_cons_zero, List.set_cons_succ]
    refine pv_iloadn (pc := 39) (n := 1) 1 rfl rfl (fm_dec dtX11_product 19 rfl) ?_
    refine pv_iconst (pc := 40) (v := (-1)) (by decide) (fm_dec dtX11_product 20 rfl) ?_
    refine pv_icmp_ne (pc := 41) 45 (by decide) (fm_dec dtX11_product 21 rfl) (fun _ => ?_) (fun hc41 => by exfalso; revert hc41; decide)
    have ne46 : ¬ spOp 4 (spL tx f 2 o (sk tx p + 1)) (fun q => spL tx f 4 o q) = .inl (9, 0) := fun h9 => hne ((if_pos e14).trans h9)
    have hP46 := hP.at (x := x14) hx14 hl14 (Nat.le_succ_of_le (sp_ge p))
    refine pv_aloadn (pc := 45) (n := 0) 0 rfl rfl (fm_dec dtX11_product 23 rfl) ?_
    refine pv_invV0 (k := 0) (d' := (6 + 3 * (6 - o))) (pc := 46) pcv_X11_221 (by decide) rfl (Nat.le_of_ble_eq_true rfl) (by omega) (fm_dec dtX11_product 24 rfl) ?_
    refine ih2 o (sk tx p + 1) m (fmI M 0 4 x14) _ hP46 (spBind_ne ne46) ⟨fun M46 c46 q46 e46 k46 => ?_, fun M46 kb ab eb hB => ?_⟩  
    · refine pv_then0 ?_
      have l46 := spL_len hP.1.2.2.2.1 _ _ _ _ _ _ hP46.1.2.2.1 e46
      have hP2 := hP46.next k46 l46.1
      refine pv_aloadn (pc := 49) (n := 0) 0 rfl rfl (fm_dec dtX11_product 25 rfl) ?_
      refine pv_iloadn (pc := 50) (n := 1) 1 rfl rfl (fm_dec dtX11_product 26 rfl) ?_
      refine pv_iconst (pc := 51) (v := 0) (by decide) (fm_dec dtX11_product 27 rfl) ?_
      refine pv_invV2 (k := 0) (d' := 0) (pc := 52) pcv_X11_218 (by decide) rfl (Nat.le_of_ble_eq_true rfl) (by omega) (fm_dec dtX11_product 28 rfl) ?_
      refine l_notes 4 0 k46.1 k46.2.1 hP2.2.2.2.2.1 hP2.lt (by decide) (by decide) (fun M52 k52 => ?_) 
      refine pv_then0 ?_
      refine pv_goto (pc := 55) 4 (by decide) (fm_dec dtX11_product 29 rfl) ?_
      have hP3 : lwPre M52 tx n q46 o (m + (c46.length + 1)) := ⟨k52.1, k52.2.1, (by rw [k52.2.2.1]; exact hP2.2.2.1), hP2.2.2.2.1, (by have h9 := k52.2.2.2.1; simpa [Nat.add_assoc] using h9), (by have := hP.2.2.2.2.2.1; have := sp_ge (P := tB) (tx := tx) p; unfold sk at l46; omega), hP2.2.2.2.2.2.2⟩
      have ne4 := spBind_ne (spBind_ne2 ne46 e46)
      exact ih4 o q46 (m + (c46.length + 1)) M52 Q hP3 ne4 ⟨fun M2 ds q2 e2 k2 => hpo.1 M2 _ q2 ((if_pos e14).trans (spOp_ok e46 e2)) ((k46.op k52 k2 hP2.lt).pre lwFr.at rfl), fun M2 k a e2 k2 => hpo.2 M2 k a ((if_pos e14).trans (spOp_b2 e46 e2)) (((k46.trans k52 (Nat.le_of_lt hP2.lt)).bad (by simpa using k2)).pre lwFr.at (Nat.le_refl _))⟩ _
    · refine pv_then0 ?_
      refine pv_aloadn (pc := 49) (n := 0) 0 rfl rfl (fm_dec dtX11_product 25 rfl) ?_
      refine pv_iloadn (pc := 50) (n := 1) 1 rfl rfl (fm_dec dtX11_product 26 rfl) ?_
      refine pv_iconst (pc := 51) (v := 0) (by decide) (fm_dec dtX11_product 27 rfl) ?_
      refine pv_invV2 (k := 0) (d' := 0) (pc := 52) pcv_X11_218 (by decide) rfl (Nat.le_of_ble_eq_true rfl) (by omega) (fm_dec dtX11_product 28 rfl) ?_
      refine c_notes1 hB.nz ?_
      refine pv_then0 ?_
      refine pv_goto (pc := 55) 4 (by decide) (fm_dec dtX11_product 29 rfl) ?_
      exact out_product hB.nz (hpo.2 _ kb ab ((if_pos e14).trans (spOp_b1 eb)) (hB.pre lwFr.at (Nat.le_refl _)))
  · refine pv_then1 ?_
    refine pv_if_eq (pc := 17) 24 (by decide) (fm_dec dtX11_product 8 rfl) (fun _ => ?_) (fun hc17 => by exfalso; revert hc17; decide)
    refine pv_aloadn (pc := 24) (n := 0) 0 rfl rfl (fm_dec dtX11_product 11 rfl) ?_
    refine pv_bipush (pc := 25) (v := 47) (by decide) (fm_dec dtX11_product 12 rfl) ?_
    refine pv_invV1 (k := 0) (d' := 2) (pc := 27) pcv_X11_215 (by decide) rfl (Nat.le_of_ble_eq_true rfl) (by omega) (fm_dec dtX11_product 13 rfl) ?_
    refine c_takesSign (hP.1.bl hx14) hP.2.1 (by decide) (fun x27 e27 hx27 hl27 => ?_) (fun x27 e27 hx27 => ?_)
    · refine pv_then1 ?_
      refine pv_if_eq (pc := 30) 37 (by decide) (fm_dec dtX11_product 14 rfl) (fun hc30 => by exfalso; revert hc30; decide) (fun _ => ?_)
      refine pv_iconst (pc := 33) (v := 5) (by decide) (fm_dec dtX11_product 15 rfl) ?_
      refine pv_goto (pc := 34) 38 (by decide) (fm_dec dtX11_product 16 rfl) ?_
      refine pv_istoren (pc := 38) (n := 1) 1 rfl (by decide) rfl (fm_dec dtX11_product 18 rfl) ?_
      dsimp only [List.set_cons_zero, List.set_cons_succ]
      refine pv_iloadn (pc := 39) (n := 1) 1 rfl rfl (fm_dec dtX11_product 19 rfl) ?_
      refine pv_iconst (pc := 40) (v := (-1)) (by decide) (fm_dec dtX11_product 20 rfl) ?_
      refine pv_icmp_ne (pc := 41) 45 (by decide) (fm_dec dtX11_product 21 rfl) (fun _ => ?_) (fun hc41 => by exfalso; revert hc41; decide)
      rw [sk_sk hP.1.2.2.2.1 hP.1.2.2.1] at e27 hx27 hl27
      have ne46 : ¬ spOp 5 (spL tx f 2 o (sk tx p + 1)) (fun q => spL tx f 4 o q) = .inl (9, 0) := fun h9 => hne (((if_neg e14).trans (if_pos e27)).trans h9)
      have hP46 := (hP.at (x := x14) hx14 (hP.1.bl hx14).2.2.1 (sp_ge p)).at (x := x27) hx27 hl27 (Nat.le_succ _)
      refine pv_aloadn (pc := 45) (n := 0) 0 rfl rfl (fm_dec dtX11_product 23 rfl) ?_
      refine pv_invV0 (k := 0) (d' := (6 + 3 * (6 - o))) (pc := 46) pcv_X11_221 (by decide) rfl (Nat.le_of_ble_eq_true rfl) (by omega) (fm_dec dtX11_product 24 rfl) ?_
      refine ih2 o (sk tx p + 1) m (fmI (fmI M 0 4 x14) 0 4 x27) _ hP46 (spBind_ne ne46) ⟨fun M46 c46 q46 e46 k46 => ?_, fun M46 kb ab eb hB => ?_⟩  
      · refine pv_then0 ?_
        have l46 := spL_len hP.1.2.2.2.1 _ _ _ _ _ _ hP46.1.2.2.1 e46
        have hP2 := hP46.next k46 l46.1
        refine pv_aloadn (pc := 49) (n := 0) 0 rfl rfl (fm_dec dtX11_product 25 rfl) ?_
        refine pv_iloadn (pc := 50) (n := 1) 1 rfl rfl (fm_dec dtX11_product 26 rfl) ?_
        refine pv_iconst (pc := 51) (v := 0) (by decide) (fm_dec dtX11_product 27 rfl) ?_
        refine pv_invV2 (k := 0) (d' := 0) (pc := 52) pcv_X11_218 (by decide) rfl (Nat.le_of_ble_eq_true rfl) (by omega) (fm_dec dtX11_product 28 rfl) ?_
        refine l_notes 5 0 k46.1 k46.2.1 hP2.2.2.2.2.1 hP2.lt (by decide) (by decide) (fun M52 k52 => ?_) 
        refine pv_then0 ?_
        refine pv_goto (pc := 55) 4 (by decide) (fm_dec dtX11_product 29 rfl) ?_
        have hP3 : lwPre M52 tx n q46 o (m + (c46.length + 1)) := ⟨k52.1, k52.2.1, (by rw [k52.2.2.1]; exact hP2.2.2.1), hP2.2.2.2.1, (by have h9 := k52.2.2.2.1; simpa [Nat.add_assoc] using h9), (by have := hP.2.2.2.2.2.1; have := sp_ge (P := tB) (tx := tx) p; unfold sk at l46; omega), hP2.2.2.2.2.2.2⟩
        have ne4 := spBind_ne (spBind_ne2 ne46 e46)
        exact ih4 o q46 (m + (c46.length + 1)) M52 Q hP3 ne4 ⟨fun M2 ds q2 e2 k2 => hpo.1 M2 _ q2 (((if_neg e14).trans (if_pos e27)).trans (spOp_ok e46 e2)) ((k46.op k52 k2 hP2.lt).pre (lwFr.at.trans lwFr.at (Nat.le_refl _)) rfl), fun M2 k a e2 k2 => hpo.2 M2 k a (((if_neg e14).trans (if_pos e27)).trans (spOp_b2 e46 e2)) (((k46.trans k52 (Nat.le_of_lt hP2.lt)).bad (by simpa using k2)).pre (lwFr.at.trans lwFr.at (Nat.le_refl _)) (Nat.le_refl _))⟩ _
      · refine pv_then0 ?_
        refine pv_aloadn (pc := 49) (n := 0) 0 rfl rfl (fm_dec dtX11_product 25 rfl) ?_
        refine pv_iloadn (pc := 50) (n := 1) 1 rfl rfl (fm_dec dtX11_product 26 rfl) ?_
        refine pv_iconst (pc := 51) (v := 0) (by decide) (fm_dec dtX11_product 27 rfl) ?_
        refine pv_invV2 (k := 0) (d' := 0) (pc := 52) pcv_X11_218 (by decide) rfl (Nat.le_of_ble_eq_true rfl) (by omega) (fm_dec dtX11_product 28 rfl) ?_
        refine c_notes1 hB.nz ?_
        refine pv_then0 ?_
        refine pv_goto (pc := 55) 4 (by decide) (fm_dec dtX11_product 29 rfl) ?_
        exact out_product hB.nz (hpo.2 _ kb ab (((if_neg e14).trans (if_pos e27)).trans (spOp_b1 eb)) (hB.pre (lwFr.at.trans lwFr.at (Nat.le_refl _)) (Nat.le_refl _)))
    · refine pv_then1 ?_
      refine pv_if_eq (pc := 30) 37 (by decide) (fm_dec dtX11_product 14 rfl) (fun _ => ?_) (fun hc30 => by exfalso; revert hc30; decide)
      refine pv_iconst (pc := 37) (v := (-1)) (by decide) (fm_dec dtX11_product 17 rfl) ?_
      refine pv_istoren (pc := 38) (n := 1) 1 rfl (by decide) rfl (fm_dec dtX11_product 18 rfl) ?_
      dsimp only [List.set_cons_zero, List.set_cons_succ]
      refine pv_iloadn (pc := 39) (n := 1) 1 rfl rfl (fm_dec dtX11_product 19 rfl) ?_
      refine pv_iconst (pc := 40) (v := (-1)) (by decide) (fm_dec dtX11_product 20 rfl) ?_
      refine pv_icmp_ne (pc := 41) 45 (by decide) (fm_dec dtX11_product 21 rfl) (fun hc41 => by exfalso; revert hc41; decide) (fun _ => ?_)
      exact pv_return (pc := 44) rfl (fm_dec dtX11_product 22 rfl) (by rw [sk_sk hP.1.2.2.2.1 hP.1.2.2.1] at e27 hx27; have h9 := hpo.1 (fmI M 0 4 x27) [] (sk tx p) ((if_neg e14).trans (if_neg e27)) (lwOk.at hP.1 hP.2.1 hP.2.2.2.2.1 hx27 (hP.1.bl hx14).2.2.1); rw [fmI_fmI]; exact h9)
set_option maxRecDepth 20000 in
theorem one_two {tx : tX} {n f o a m cn : Nat} {M : fmM} {Q : fmR → fmM → Prop} {c : Int32} {v2 : Option Value} (hcn : c.toInt = cn) (ho6 : o < 6) (ih0 : lwG tx n f 0) (hP : lwPre M tx n a (o + 1) m) (hne : ¬ spTwo tx (fun q => spL tx f 0 (o + 1) q) cn (sp tW tx a) = .inl (9, 0)) (hok : ∀ (M5 : fmM) (cs : tC) (q : Nat), spTwo tx (fun q => spL tx f 0 (o + 1) q) cn (sp tW tx a) = .inr (cs, q) → lwOk M M5 tx n q m cs → Q (.inl none) (fmI M5 0 8 (M5.1 0 8 - 1))) (hbad : ∀ (M5 : fmM) (k a1 : Nat), spTwo tx (fun q => spL tx f 0 (o + 1) q) cn (sp tW tx a) = .inl (k, a1) → lwBad M M5 tx n k a1 m → Q (.inl none) (fmI M5 0 8 (M5.1 0 8 - 1))) : pvEv Tm (6 + 3 * (6 - o)) qX11_one 68 [some (.ref 0), some (.int c), v2] [] M Q := by
  refine pv_aloadn (pc := 68) (n := 0) 0 rfl rfl (fm_dec dtX11_one 35 rfl) ?_
  refine pv_invV0 (k := 0) (d' := 1) (pc := 69) pcv_X11_154 (by decide) rfl (Nat.le_of_ble_eq_true rfl) (by omega) (fm_dec dtX11_one 36 rfl) ?_
  refine c_skipWord hP.1 (fun x69 hx69 => ?_)
  refine pv_then0 ?_
  have hw2 := sp_le (p := a) tW_1 hP.1.2.2.2.1 hP.1.2.2.1
  have hP1 := hP.at (x := x69) hx69 hw2 (sp_ge a)
  refine pv_aloadn (pc := 72) (n := 0) 0 rfl rfl (fm_dec dtX11_one 37 rfl) ?_
  refine pv_bipush (pc := 73) (v := 91) (by decide) (fm_dec dtX11_one 38 rfl) ?_
  refine pv_invV1 (k := 0) (d' := 2) (pc := 75) pcv_X11_173 (by decide) rfl (Nat.le_of_ble_eq_true rfl) (by omega) (fm_dec dtX11_one 39 rfl) ?_
  refine l_sign 91 ⟨by decide, by decide⟩ hP1.1 hP1.2.1 hP1.2.2.2.2.1 (fun M75 q75 e75 k75 => ?_) (fun Mb kb ab eb hB => ?_)  
  · refine pv_then0 ?_
    have hP2 : lwPre M75 tx n q75 (o + 1) m := hP1.next k75 (Nat.le_of_lt (spSign_ok hP.1.2.2.2.1 hw2 (by decide) e75).1)
    refine pv_aloadn (pc := 78) (n := 0) 0 rfl rfl (fm_dec dtX11_one 40 rfl) ?_
    refine pv_invV0 (k := 0) (d' := (8 + 3 * (6 - (o + 1)))) (pc := 79) pcv_X11_231 (by decide) rfl (Nat.le_of_ble_eq_true rfl) (by omega) (fm_dec dtX11_one 41 rfl) ?_
    refine ih0 (o + 1) q75 m M75 _ hP2 (spTwo_ne1 hne e75) ⟨fun M79 c79 q79 e79 k79 => ?_, fun Mb kb ab eb hB => ?_⟩  
    · refine pv_then0 ?_
      have l79 := spL_len hP.1.2.2.2.1 _ _ _ _ _ _ hP2.1.2.2.1 e79
      have hP3 := hP2.next k79 l79.1
      refine pv_aloadn (pc := 82) (n := 0) 0 rfl rfl (fm_dec dtX11_one 42 rfl) ?_
      refine pv_bipush (pc := 83) (v := 44) (by decide) (fm_dec dtX11_one 43 rfl) ?_
      refine pv_invV1 (k := 0) (d' := 2) (pc := 85) pcv_X11_173 (by decide) rfl (Nat.le_of_ble_eq_true rfl) (by omega) (fm_dec dtX11_one 44 rfl) ?_
      refine l_sign 44 ⟨by decide, by decide⟩ hP3.1 hP3.2.1 hP3.2.2.2.2.1 (fun M85 q85 e85 k85 => ?_) (fun Mb kb ab eb hB => ?_)  
      · refine pv_then0 ?_
        have hP4 : lwPre M85 tx n q85 (o + 1) (m + c79.length) := hP3.next k85 (Nat.le_of_lt (spSign_ok hP.1.2.2.2.1 hP3.1.2.2.1 (by decide) e85).1)
        refine pv_aloadn (pc := 88) (n := 0) 0 rfl rfl (fm_dec dtX11_one 45 rfl) ?_
        refine pv_invV0 (k := 0) (d' := (8 + 3 * (6 - (o + 1)))) (pc := 89) pcv_X11_231 (by decide) rfl (Nat.le_of_ble_eq_true rfl) (by omega) (fm_dec dtX11_one 46 rfl) ?_
        refine ih0 (o + 1) q85 (m + c79.length) M85 _ hP4 (spTwo_ne2 hne e75 e79 e85) ⟨fun M89 c89 q89 e89 k89 => ?_, fun Mb kb ab eb hB => ?_⟩  
        · refine pv_then0 ?_
          have l89 := spL_len hP.1.2.2.2.1 _ _ _ _ _ _ hP4.1.2.2.1 e89
          have hP5 := hP4.next k89 l89.1
          refine pv_aloadn (pc := 92) (n := 0) 0 rfl rfl (fm_dec dtX11_one 47 rfl) ?_
          refine pv_bipush (pc := 93) (v := 93) (by decide) (fm_dec dtX11_one 48 rfl) ?_
          refine pv_invV1 (k := 0) (d' := 2) (pc := 95) pcv_X11_173 (by decide) rfl (Nat.le_of_ble_eq_true rfl) (by omega) (fm_dec dtX11_one 49 rfl) ?_
          refine l_sign 93 ⟨by decide, by decide⟩ hP5.1 hP5.2.1 hP5.2.2.2.2.1 (fun M95 q95 e95 k95 => ?_) (fun Mb kb ab eb hB => ?_)  
          · refine pv_then0 ?_
            have hP6 : lwPre M95 tx n q95 (o + 1) (m + c79.length + c89.length) := hP5.next k95 (Nat.le_of_lt (spSign_ok hP.1.2.2.2.1 hP5.1.2.2.1 (by decide) e95).1)
            refine pv_aloadn (pc := 98) (n := 0) 0 rfl rfl (fm_dec dtX11_one 50 rfl) ?_
            refine pv_iloadn (pc := 99) (n := 1) 1 rfl rfl (fm_dec dtX11_one 51 rfl) ?_
            refine pv_iconst (pc := 100) (v := 0) (by decide) (fm_dec dtX11_one 52 rfl) ?_
            refine pv_invV2 (k := 0) (d' := 0) (pc := 101) pcv_X11_218 (by decide) rfl (Nat.le_of_ble_eq_true rfl) (by omega) (fm_dec dtX11_one 53 rfl) ?_
            refine l_notes cn 0 hP6.1 hP6.2.1 hP6.2.2.2.2.1 hP6.lt hcn (by decide) (fun M101 k101 => ?_) 
            refine pv_then0 ?_
            refine pv_aloadn (pc := 104) (n := 0) 0 rfl rfl (fm_dec dtX11_one 54 rfl) ?_
            refine pv_dup (pc := 105) rfl (fm_dec dtX11_one 55 rfl) ?_
            refine pv_getI (k := 0) (j := 8) (ci := 11) (pc := 106) pfl_X11_160 (by decide) rfl (by decide) (fm_dec dtX11_one 56 rfl) ?_
            refine pv_iconst (pc := 109) (v := 1) (by decide) (fm_dec dtX11_one 57 rfl) ?_
            refine pv_isub (pc := 110) (fm_dec dtX11_one 58 rfl) ?_
            refine pv_putI (k := 0) (j := 8) (ci := 11) (pc := 111) pfl_X11_160 (by decide) rfl (by decide) (fm_dec dtX11_one 59 rfl) ?_
            exact pv_return (pc := 114) rfl (fm_dec dtX11_one 60 rfl) (hok _ (c79 ++ c89 ++ [(cn, 0)]) q95 (by simp only [spTwo, spBind, e75, e79, e85, e89, e95]) ((((((k75.tr (es := c79) k79 hP2.lt).tr (es := c79) k85 hP3.lt).tr (es := c79 ++ c89) k89 hP4.lt).tr (es := c79 ++ c89) k95 hP5.lt).tr (es := c79 ++ c89 ++ [(cn, 0)]) k101 hP6.lt).pre (lwFr.at (x := x69)) rfl))
          · refine pv_then0 ?_
            refine pv_aloadn (pc := 98) (n := 0) 0 rfl rfl (fm_dec dtX11_one 50 rfl) ?_
            refine pv_iloadn (pc := 99) (n := 1) 1 rfl rfl (fm_dec dtX11_one 51 rfl) ?_
            refine pv_iconst (pc := 100) (v := 0) (by decide) (fm_dec dtX11_one 52 rfl) ?_
            refine pv_invV2 (k := 0) (d' := 0) (pc := 101) pcv_X11_218 (by decide) rfl (Nat.le_of_ble_eq_true rfl) (by omega) (fm_dec dtX11_one 53 rfl) ?_
            refine c_notes1 hB.nz ?_
            refine pv_then0 ?_
            refine pv_aloadn (pc := 104) (n := 0) 0 rfl rfl (fm_dec dtX11_one 54 rfl) ?_
            refine pv_dup (pc := 105) rfl (fm_dec dtX11_one 55 rfl) ?_
            refine pv_getI (k := 0) (j := 8) (ci := 11) (pc := 106) pfl_X11_160 (by decide) rfl (by decide) (fm_dec dtX11_one 56 rfl) ?_
            refine pv_iconst (pc := 109) (v := 1) (by decide) (fm_dec dtX11_one 57 rfl) ?_
            refine pv_isub (pc := 110) (fm_dec dtX11_one 58 rfl) ?_
            refine pv_putI (k := 0) (j := 8) (ci := 11) (pc := 111) pfl_X11_160 (by decide) rfl (by decide) (fm_dec dtX11_one 59 rfl) ?_
            exact pv_return (pc := 114) rfl (fm_dec dtX11_one 60 rfl) (hbad _ kb ab (by simp only [spTwo, spBind, e75, e79, e85, e89, eb]) (((((k75.tr (es := c79) k79 hP2.lt).tr (es := c79) k85 hP3.lt).tr (es := c79 ++ c89) k89 hP4.lt).bd hB).pre (lwFr.at (x := x69)) (Nat.le_refl _)))
        · refine pv_then0 ?_
          refine pv_aloadn (pc := 92) (n := 0) 0 rfl rfl (fm_dec dtX11_one 47 rfl) ?_
          refine pv_bipush (pc := 93) (v := 93) (by decide) (fm_dec dtX11_one 48 rfl) ?_
          refine pv_invV1 (k := 0) (d' := 2) (pc := 95) pcv_X11_173 (by decide) rfl (Nat.le_of_ble_eq_true rfl) (by omega) (fm_dec dtX11_one 49 rfl) ?_
          refine c_sign1 hB.nz ?_
          refine pv_then0 ?_
          refine pv_aloadn (pc := 98) (n := 0) 0 rfl rfl (fm_dec dtX11_one 50 rfl) ?_
          refine pv_iloadn (pc := 99) (n := 1) 1 rfl rfl (fm_dec dtX11_one 51 rfl) ?_
          refine pv_iconst (pc := 100) (v := 0) (by decide) (fm_dec dtX11_one 52 rfl) ?_
          refine pv_invV2 (k := 0) (d' := 0) (pc := 101) pcv_X11_218 (by decide) rfl (Nat.le_of_ble_eq_true rfl) (by omega) (fm_dec dtX11_one 53 rfl) ?_
          refine c_notes1 hB.nz ?_
          refine pv_then0 ?_
          refine pv_aloadn (pc := 104) (n := 0) 0 rfl rfl (fm_dec dtX11_one 54 rfl) ?_
          refine pv_dup (pc := 105) rfl (fm_dec dtX11_one 55 rfl) ?_
          refine pv_getI (k := 0) (j := 8) (ci := 11) (pc := 106) pfl_X11_160 (by decide) rfl (by decide) (fm_dec dtX11_one 56 rfl) ?_
          refine pv_iconst (pc := 109) (v := 1) (by decide) (fm_dec dtX11_one 57 rfl) ?_
          refine pv_isub (pc := 110) (fm_dec dtX11_one 58 rfl) ?_
          refine pv_putI (k := 0) (j := 8) (ci := 11) (pc := 111) pfl_X11_160 (by decide) rfl (by decide) (fm_dec dtX11_one 59 rfl) ?_
          exact pv_return (pc := 114) rfl (fm_dec dtX11_one 60 rfl) (hbad _ kb ab (by simp only [spTwo, spBind, e75, e79, e85, eb]) ((((k75.tr (es := c79) k79 hP2.lt).tr (es := c79) k85 hP3.lt).bd hB).pre (lwFr.at (x := x69)) (Nat.le_refl _)))
      · refine pv_then0 ?_
        refine pv_aloadn (pc := 88) (n := 0) 0 rfl rfl (fm_dec dtX11_one 45 rfl) ?_
        refine pv_invV0 (k := 0) (d' := 8) (pc := 89) pcv_X11_231 (by decide) rfl (Nat.le_of_ble_eq_true rfl) (by omega) (fm_dec dtX11_one 46 rfl) ?_
        refine c_sum1 hB.nz ?_
        refine pv_then0 ?_
        refine pv_aloadn (pc := 92) (n := 0) 0 rfl rfl (fm_dec dtX11_one 47 rfl) ?_
        refine pv_bipush (pc := 93) (v := 93) (by decide) (fm_dec dtX11_one 48 rfl) ?_
        refine pv_invV1 (k := 0) (d' := 2) (pc := 95) pcv_X11_173 (by decide) rfl (Nat.le_of_ble_eq_true rfl) (by omega) (fm_dec dtX11_one 49 rfl) ?_
        refine c_sign1 hB.nz ?_
        refine pv_then0 ?_
        refine pv_aloadn (pc := 98) (n := 0) 0 rfl rfl (fm_dec dtX11_one 50 rfl) ?_
        refine pv_iloadn (pc := 99) (n := 1) 1 rfl rfl (fm_dec dtX11_one 51 rfl) ?_
        refine pv_iconst (pc := 100) (v := 0) (by decide) (fm_dec dtX11_one 52 rfl) ?_
        refine pv_invV2 (k := 0) (d' := 0) (pc := 101) pcv_X11_218 (by decide) rfl (Nat.le_of_ble_eq_true rfl) (by omega) (fm_dec dtX11_one 53 rfl) ?_
        refine c_notes1 hB.nz ?_
        refine pv_then0 ?_
        refine pv_aloadn (pc := 104) (n := 0) 0 rfl rfl (fm_dec dtX11_one 54 rfl) ?_
        refine pv_dup (pc := 105) rfl (fm_dec dtX11_one 55 rfl) ?_
        refine pv_getI (k := 0) (j := 8) (ci := 11) (pc := 106) pfl_X11_160 (by decide) rfl (by decide) (fm_dec dtX11_one 56 rfl) ?_
        refine pv_iconst (pc := 109) (v := 1) (by decide) (fm_dec dtX11_one 57 rfl) ?_
        refine pv_isub (pc := 110) (fm_dec dtX11_one 58 rfl) ?_
        refine pv_putI (k := 0) (j := 8) (ci := 11) (pc := 111) pfl_X11_160 (by decide) rfl (by decide) (fm_dec dtX11_one 59 rfl) ?_
        exact pv_return (pc := 114) rfl (fm_dec dtX11_one 60 rfl) (hbad _ kb ab (by simp only [spTwo, spBind, e75, e79, eb]) (((k75.tr (es := c79) k79 hP2.lt).bd hB).pre (lwFr.at (x := x69)) (Nat.le_refl _)))
    · refine pv_then0 ?_
      refine pv_aloadn (pc := 82) (n := 0) 0 rfl rfl (fm_dec dtX11_one 42 rfl) ?_
      refine pv_bipush (pc := 83) (v := 44) (by decide) (fm_dec dtX11_one 43 rfl) ?_
      refine pv_invV1 (k := 0) (d' := 2) (pc := 85) pcv_X11_173 (by decide) rfl (Nat.le_of_ble_eq_true rfl) (by omega) (fm_dec dtX11_one 44 rfl) ?_
      refine c_sign1 hB.nz ?_
      refine pv_then0 ?_
      refine pv_aloadn (pc := 88) (n := 0) 0 rfl rfl (fm_dec dtX11_one 45 rfl) ?_
      refine pv_invV0 (k := 0) (d' := 8) (pc := 89) pcv_X11_231 (by decide) rfl (Nat.le_of_ble_eq_true rfl) (by omega) (fm_dec dtX11_one 46 rfl) ?_
      refine c_sum1 hB.nz ?_
      refine pv_then0 ?_
      refine pv_aloadn (pc := 92) (n := 0) 0 rfl rfl (fm_dec dtX11_one 47 rfl) ?_
      refine pv_bipush (pc := 93) (v := 93) (by decide) (fm_dec dtX11_one 48 rfl) ?_
      refine pv_invV1 (k := 0) (d' := 2) (pc := 95) pcv_X11_173 (by decide) rfl (Nat.le_of_ble_eq_true rfl) (by omega) (fm_dec dtX11_one 49 rfl) ?_
      refine c_sign1 hB.nz ?_
      refine pv_then0 ?_
      refine pv_aloadn (pc := 98) (n := 0) 0 rfl rfl (fm_dec dtX11_one 50 rfl) ?_
      refine pv_iloadn (pc := 99) (n := 1) 1 rfl rfl (fm_dec dtX11_one 51 rfl) ?_
      refine pv_iconst (pc := 100) (v := 0) (by decide) (fm_dec dtX11_one 52 rfl) ?_
      refine pv_invV2 (k := 0) (d' := 0) (pc := 101) pcv_X11_218 (by decide) rfl (Nat.le_of_ble_eq_true rfl) (by omega) (fm_dec dtX11_one 53 rfl) ?_
      refine c_notes1 hB.nz ?_
      refine pv_then0 ?_
      refine pv_aloadn (pc := 104) (n := 0) 0 rfl rfl (fm_dec dtX11_one 54 rfl) ?_
      refine pv_dup (pc := 105) rfl (fm_dec dtX11_one 55 rfl) ?_
      refine pv_getI (k := 0) (j := 8) (ci := 11) (pc := 106) pfl_X11_160 (by decide) rfl (by decide) (fm_dec dtX11_one 56 rfl) ?_
      refine pv_iconst (pc := 109) (v := 1) (by decide) (fm_dec dtX11_one 57 rfl) ?_
      refine pv_isub (pc := 110) (fm_dec dtX11_one 58 rfl) ?_
      refine pv_putI (k := 0) (j := 8) (ci := 11) (pc := 111) pfl_X11_160 (by decide) rfl (by decide) (fm_dec dtX11_one 59 rfl) ?_
      exact pv_return (pc := 114) rfl (fm_dec dtX11_one 60 rfl) (hbad _ kb ab (by simp only [spTwo, spBind, e75, eb]) ((k75.bd hB).pre (lwFr.at (x := x69)) (Nat.le_refl _)))
  · refine pv_then0 ?_
    refine pv_aloadn (pc := 78) (n := 0) 0 rfl rfl (fm_dec dtX11_one 40 rfl) ?_
    refine pv_invV0 (k := 0) (d' := 8) (pc := 79) pcv_X11_231 (by decide) rfl (Nat.le_of_ble_eq_true rfl) (by omega) (fm_dec dtX11_one 41 rfl) ?_
    refine c_sum1 hB.nz ?_
    refine pv_then0 ?_
    refine pv_aloadn (pc := 82) (n := 0) 0 rfl rfl (fm_dec dtX11_one 42 rfl) ?_
    refine pv_bipush (pc := 83) (v := 44) (by decide) (fm_dec dtX11_one 43 rfl) ?_
    refine pv_invV1 (k := 0) (d' := 2) (pc := 85) pcv_X11_173 (by decide) rfl (Nat.le_of_ble_eq_true rfl) (by omega) (fm_dec dtX11_one 44 rfl) ?_
    refine c_sign1 hB.nz ?_
    refine pv_then0 ?_
    refine pv_aloadn (pc := 88) (n := 0) 0 rfl rfl (fm_dec dtX11_one 45 rfl) ?_
    refine pv_invV0 (k := 0) (d' := 8) (pc := 89) pcv_X11_231 (by decide) rfl (Nat.le_of_ble_eq_true rfl) (by omega) (fm_dec dtX11_one 46 rfl) ?_
    refine c_sum1 hB.nz ?_
    refine pv_then0 ?_
    refine pv_aloadn (pc := 92) (n := 0) 0 rfl rfl (fm_dec dtX11_one 47 rfl) ?_
    refine pv_bipush (pc := 93) (v := 93) (by decide) (fm_dec dtX11_one 48 rfl) ?_
    refine pv_invV1 (k := 0) (d' := 2) (pc := 95) pcv_X11_173 (by decide) rfl (Nat.le_of_ble_eq_true rfl) (by omega) (fm_dec dtX11_one 49 rfl) ?_
    refine c_sign1 hB.nz ?_
    refine pv_then0 ?_
    refine pv_aloadn (pc := 98) (n := 0) 0 rfl rfl (fm_dec dtX11_one 50 rfl) ?_
    refine pv_iloadn (pc := 99) (n := 1) 1 rfl rfl (fm_dec dtX11_one 51 rfl) ?_
    refine pv_iconst (pc := 100) (v := 0) (by decide) (fm_dec dtX11_one 52 rfl) ?_
    refine pv_invV2 (k := 0) (d' := 0) (pc := 101) pcv_X11_218 (by decide) rfl (Nat.le_of_ble_eq_true rfl) (by omega) (fm_dec dtX11_one 53 rfl) ?_
    refine c_notes1 hB.nz ?_
    refine pv_then0 ?_
    refine pv_aloadn (pc := 104) (n := 0) 0 rfl rfl (fm_dec dtX11_one 54 rfl) ?_
    refine pv_dup (pc := 105) rfl (fm_dec dtX11_one 55 rfl) ?_
    refine pv_getI (k := 0) (j := 8) (ci := 11) (pc := 106) pfl_X11_160 (by decide) rfl (by decide) (fm_dec dtX11_one 56 rfl) ?_
    refine pv_iconst (pc := 109) (v := 1) (by decide) (fm_dec dtX11_one 57 rfl) ?_
    refine pv_isub (pc := 110) (fm_dec dtX11_one 58 rfl) ?_
    refine pv_putI (k := 0) (j := 8) (ci := 11) (pc := 111) pfl_X11_160 (by decide) rfl (by decide) (fm_dec dtX11_one 59 rfl) ?_
    exact pv_return (pc := 114) rfl (fm_dec dtX11_one 60 rfl) (hbad _ kb ab (by simp only [spTwo, spBind, eb]) (hB.pre (lwFr.at (x := x69)) (Nat.le_refl _)))
set_option maxRecDepth 20000 in
theorem one_par {tx : tX} {n f o a m : Nat} {M : fmM} {Q : fmR → fmM → Prop} {v1 v2 : Option Value} (ho6 : o < 6) (hlt : a + 1 ≤ n) (ih0 : lwG tx n f 0) (hP : lwPre M tx n a (o + 1) m) (hne : ¬ spPar tx (fun q => spL tx f 0 (o + 1) q) (a + 1) = .inl (9, 0)) (hok : ∀ (M5 : fmM) (cs : tC) (q : Nat), spPar tx (fun q => spL tx f 0 (o + 1) q) (a + 1) = .inr (cs, q) → lwOk M M5 tx n q m cs → Q (.inl none) (fmI M5 0 8 (M5.1 0 8 - 1))) (hbad : ∀ (M5 : fmM) (k a1 : Nat), spPar tx (fun q => spL tx f 0 (o + 1) q) (a + 1) = .inl (k, a1) → lwBad M M5 tx n k a1 m → Q (.inl none) (fmI M5 0 8 (M5.1 0 8 - 1))) : pvEv Tm (6 + 3 * (6 - o)) qX11_one 136 [some (.ref 0), v1, v2] [] M Q := by
  refine pv_aloadn (pc := 136) (n := 0) 0 rfl rfl (fm_dec dtX11_one 71 rfl) ?_
  refine pv_dup (pc := 137) rfl (fm_dec dtX11_one 72 rfl) ?_
  refine pv_getI (k := 0) (j := 4) (ci := 11) (pc := 138) pfl_X11_110 (by decide) rfl (by decide) (fm_dec dtX11_one 73 rfl) ?_
  refine pv_iconst (pc := 141) (v := 1) (by decide) (fm_dec dtX11_one 74 rfl) ?_
  refine pv_iadd (pc := 142) (fm_dec dtX11_one 75 rfl) ?_
  refine pv_putI (k := 0) (j := 4) (ci := 11) (pc := 143) pfl_X11_110 (by decide) rfl (by decide) (fm_dec dtX11_one 76 rfl) ?_
  have hP1 := hP.at (x := M.1 0 4 + 1) (i32_p1 hP.1.2.1 (by have := hP.1.2.2.2.1.1; omega)) hlt (Nat.le_succ a)
  refine pv_aloadn (pc := 146) (n := 0) 0 rfl rfl (fm_dec dtX11_one 77 rfl) ?_
  refine pv_invV0 (k := 0) (d' := (8 + 3 * (6 - (o + 1)))) (pc := 147) pcv_X11_231 (by decide) rfl (Nat.le_of_ble_eq_true rfl) (by omega) (fm_dec dtX11_one 78 rfl) ?_
  refine ih0 (o + 1) (a + 1) m (fmI M 0 4 (M.1 0 4 + 1)) _ hP1 (spBind_ne hne) ⟨fun M147 c147 q147 e147 k147 => ?_, fun Mb kb ab eb hB => ?_⟩  
  · refine pv_then0 ?_
    have l147 := spL_len hP.1.2.2.2.1 _ _ _ _ _ _ hP1.1.2.2.1 e147
    have hP2 := hP1.next k147 l147.1
    refine pv_aloadn (pc := 150) (n := 0) 0 rfl rfl (fm_dec dtX11_one 79 rfl) ?_
    refine pv_bipush (pc := 151) (v := 41) (by decide) (fm_dec dtX11_one 80 rfl) ?_
    refine pv_invV1 (k := 0) (d' := 2) (pc := 153) pcv_X11_173 (by decide) rfl (Nat.le_of_ble_eq_true rfl) (by omega) (fm_dec dtX11_one 81 rfl) ?_
    refine l_sign 41 ⟨by decide, by decide⟩ hP2.1 hP2.2.1 hP2.2.2.2.2.1 (fun M153 q153 e153 k153 => ?_) (fun Mb kb ab eb hB => ?_)  
    · refine pv_then0 ?_
      refine pv_aloadn (pc := 156) (n := 0) 0 rfl rfl (fm_dec dtX11_one 82 rfl) ?_
      refine pv_dup (pc := 157) rfl (fm_dec dtX11_one 83 rfl) ?_
      refine pv_getI (k := 0) (j := 8) (ci := 11) (pc := 158) pfl_X11_160 (by decide) rfl (by decide) (fm_dec dtX11_one 84 rfl) ?_
      refine pv_iconst (pc := 161) (v := 1) (by decide) (fm_dec dtX11_one 85 rfl) ?_
      refine pv_isub (pc := 162) (fm_dec dtX11_one 86 rfl) ?_
      refine pv_putI (k := 0) (j := 8) (ci := 11) (pc := 163) pfl_X11_160 (by decide) rfl (by decide) (fm_dec dtX11_one 87 rfl) ?_
      exact pv_return (pc := 166) rfl (fm_dec dtX11_one 88 rfl) (hok _ c147 q153 (by simp only [spPar, spBind, e147, e153]) ((k147.tr (es := c147) k153 hP2.lt).pre lwFr.at rfl))
    · refine pv_then0 ?_
      refine pv_aloadn (pc := 156) (n := 0) 0 rfl rfl (fm_dec dtX11_one 82 rfl) ?_
      refine pv_dup (pc := 157) rfl (fm_dec dtX11_one 83 rfl) ?_
      refine pv_getI (k := 0) (j := 8) (ci := 11) (pc := 158) pfl_X11_160 (by decide) rfl (by decide) (fm_dec dtX11_one 84 rfl) ?_
      refine pv_iconst (pc := 161) (v := 1) (by decide) (fm_dec dtX11_one 85 rfl) ?_
      refine pv_isub (pc := 162) (fm_dec dtX11_one 86 rfl) ?_
      refine pv_putI (k := 0) (j := 8) (ci := 11) (pc := 163) pfl_X11_160 (by decide) rfl (by decide) (fm_dec dtX11_one 87 rfl) ?_
      exact pv_return (pc := 166) rfl (fm_dec dtX11_one 88 rfl) (hbad _ kb ab (by simp only [spPar, spBind, e147, eb]) ((k147.bd hB).pre lwFr.at (Nat.le_refl _)))
  · refine pv_then0 ?_
    refine pv_aloadn (pc := 150) (n := 0) 0 rfl rfl (fm_dec dtX11_one 79 rfl) ?_
    refine pv_bipush (pc := 151) (v := 41) (by decide) (fm_dec dtX11_one 80 rfl) ?_
    refine pv_invV1 (k := 0) (d' := 2) (pc := 153) pcv_X11_173 (by decide) rfl (Nat.le_of_ble_eq_true rfl) (by omega) (fm_dec dtX11_one 81 rfl) ?_
    refine c_sign1 hB.nz ?_
    refine pv_then0 ?_
    refine pv_aloadn (pc := 156) (n := 0) 0 rfl rfl (fm_dec dtX11_one 82 rfl) ?_
    refine pv_dup (pc := 157) rfl (fm_dec dtX11_one 83 rfl) ?_
    refine pv_getI (k := 0) (j := 8) (ci := 11) (pc := 158) pfl_X11_160 (by decide) rfl (by decide) (fm_dec dtX11_one 84 rfl) ?_
    refine pv_iconst (pc := 161) (v := 1) (by decide) (fm_dec dtX11_one 85 rfl) ?_
    refine pv_isub (pc := 162) (fm_dec dtX11_one 86 rfl) ?_
    refine pv_putI (k := 0) (j := 8) (ci := 11) (pc := 163) pfl_X11_160 (by decide) rfl (by decide) (fm_dec dtX11_one 87 rfl) ?_
    exact pv_return (pc := 166) rfl (fm_dec dtX11_one 88 rfl) (hbad _ kb ab (by simp only [spPar, spBind, eb]) (hB.pre lwFr.at (Nat.le_refl _)))
set_option maxRecDepth 20000 in
theorem lw_one {tx : tX} {n f : Nat} (ih0 : lwG tx n f 0) : lwG tx n (f + 1) 2 := by
  intro o p m M Q hP hne hpo
  refine pvGood_of (Nat.le_of_ble_eq_true rfl) ?_
  show pvEv Tm (6 + 3 * (6 - o)) qX11_one 0 [some (.ref 0), none, none] [] M Q
  refine pv_aloadn (pc := 0) (n := 0) 0 rfl rfl (fm_dec dtX11_one 0 rfl) ?_
  refine pv_getI (k := 0) (j := 5) (ci := 11) (pc := 1) pfl_X11_117 (by decide) rfl (by decide) (fm_dec dtX11_one 1 rfl) ?_
  refine pv_if_eq (pc := 4) 8 (by decide) (fm_dec dtX11_one 2 rfl) (fun _ => ?_) (fun hc4 => by exfalso; exact hc4 hP.2.1)
  refine pv_aloadn (pc := 8) (n := 0) 0 rfl rfl (fm_dec dtX11_one 4 rfl) ?_
  refine pv_invV0 (k := 0) (d' := 1) (pc := 9) pcv_X11_123 (by decide) rfl (Nat.le_of_ble_eq_true rfl) (by omega) (fm_dec dtX11_one 5 rfl) ?_
  refine c_blanks hP.1 (fun x9 hx9 => ?_)
  refine pv_then0 ?_
  have hP1 := hP.at (x := x9) hx9 (hP.1.bl hx9).2.2.1 (sp_ge p)
  refine pv_aloadn (pc := 12) (n := 0) 0 rfl rfl (fm_dec dtX11_one 6 rfl) ?_
  refine pv_bipush (pc := 13) (v := 12) (by decide) (fm_dec dtX11_one 7 rfl) ?_
  refine pv_iconst (pc := 15) (v := 5) (by decide) (fm_dec dtX11_one 8 rfl) ?_
  refine pv_iconst (pc := 16) (v := 1) (by decide) (fm_dec dtX11_one 9 rfl) ?_
  refine pv_bipush (pc := 17) (v := 19) (by decide) (fm_dec dtX11_one 10 rfl) ?_
  refine pv_bipush (pc := 19) (v := 20) (by decide) (fm_dec dtX11_one 11 rfl) ?_
  refine pv_invV5 (k := 0) (d' := 3) (pc := 21) pcv_X11_150 (by decide) rfl (Nat.le_of_ble_eq_true rfl) (by omega) (fm_dec dtX11_one 12 rfl) ?_
  refine c_isWord [108, 101, 97, 115, 116] ⟨by decide, by decide, by decide⟩ hP1.1 hP1.2.1 (fun x21 e21 hx21 => ?_) (fun x21 e21 hx21 => ?_)
  · refine pv_then1 ?_
    rw [(sk_sk hP.1.2.2.2.1 hP.1.2.2.1)] at e21 hx21
    have hP2 := hP1.at (x := x21) hx21 (hP1.1).2.2.1 (Nat.le_refl _)
    refine pv_if_eq (pc := 24) 32 (by decide) (fm_dec dtX11_one 13 rfl) (fun hc24 => by exfalso; revert hc24; decide) (fun _ => ?_)
    refine pv_bipush (pc := 27) (v := 6) (by decide) (fm_dec dtX11_one 14 rfl) ?_
    refine pv_goto (pc := 29) 54 (by decide) (fm_dec dtX11_one 15 rfl) ?_
    refine pv_istoren (pc := 54) (n := 1) 1 rfl (by decide) rfl (fm_dec dtX11_one 27 rfl) ?_
    dsimp only [List.set_cons_zero, List.set_cons_succ]
    refine pv_iloadn (pc := 55) (n := 1) 1 rfl rfl (fm_dec dtX11_one 28 rfl) ?_
    refine pv_iconst (pc := 56) (v := (-1)) (by decide) (fm_dec dtX11_one 29 rfl) ?_
    refine pv_icmp_eq (pc := 57) 115 (by decide) (fm_dec dtX11_one 30 rfl) (fun hc57 => by exfalso; revert hc57; decide) (fun _ => ?_)
    refine pv_aloadn (pc := 60) (n := 0) 0 rfl rfl (fm_dec dtX11_one 31 rfl) ?_
    refine pv_invV0 (k := 0) (d' := 1) (pc := 61) pcv_X11_227 (by decide) rfl (Nat.le_of_ble_eq_true rfl) (by omega) (fm_dec dtX11_one 32 rfl) ?_
    refine c_opens hP2.1 hP2.2.1 hP2.2.2.1 (fun h61 => ?_) (fun h61 => ?_)  
    · refine pv_then1 ?_
      refine pv_if_ne (pc := 64) 68 (by decide) (fm_dec dtX11_one 33 rfl) (fun hc64 => by exfalso; revert hc64; decide) (fun _ => ?_)
      exact pv_return (pc := 67) rfl (fm_dec dtX11_one 34 rfl) (hpo.2 _ 3 (sk tx p) ((spOne_1 e21).2 h61) ((hP2.full (by decide)).pre (lwFr.at.trans lwFr.at (Nat.le_refl _)) (Nat.le_refl _)))
    · refine pv_then1 ?_
      refine pv_if_ne (pc := 64) 68 (by decide) (fm_dec dtX11_one 33 rfl) (fun _ => ?_) (fun hc64 => by exfalso; revert hc64; decide)
      have ho5 : o < 6 := (by have := hP.2.2.2.1; omega)
      refine one_two (o := o) (cn := 6) (by decide) ho5 ih0 (hP2.opn h61) (fun h9 => hne (((spOne_1 e21).1 h61).trans h9)) (fun M5 cs q e k => hpo.1 _ cs q (((spOne_1 e21).1 h61).trans e) (k.cl ((lwFr.at.trans lwFr.at (Nat.le_refl _)).set (by omega)) rfl)) (fun M5 k a e hb => hpo.2 _ k a (((spOne_1 e21).1 h61).trans e) (hb.cl ((lwFr.at.trans lwFr.at (Nat.le_refl _)).set (by omega))))
  · refine pv_then1 ?_
    rw [(sk_sk hP.1.2.2.2.1 hP.1.2.2.1)] at e21 hx21
    have hP2 := hP1.at (x := x21) hx21 (hP1.1).2.2.1 (Nat.le_refl _)
    refine pv_if_eq (pc := 24) 32 (by decide) (fm_dec dtX11_one 13 rfl) (fun _ => ?_) (fun hc24 => by exfalso; revert hc24; decide)
    refine pv_aloadn (pc := 32) (n := 0) 0 rfl rfl (fm_dec dtX11_one 16 rfl) ?_
    refine pv_bipush (pc := 33) (v := 13) (by decide) (fm_dec dtX11_one 17 rfl) ?_
    refine pv_bipush (pc := 35) (v := 15) (by decide) (fm_dec dtX11_one 18 rfl) ?_
    refine pv_bipush (pc := 37) (v := 19) (by decide) (fm_dec dtX11_one 19 rfl) ?_
    refine pv_bipush (pc := 39) (v := 20) (by decide) (fm_dec dtX11_one 20 rfl) ?_
    refine pv_iconst (pc := 41) (v := 0) (by decide) (fm_dec dtX11_one 21 rfl) ?_
    refine pv_invV5 (k := 0) (d' := 3) (pc := 42) pcv_X11_150 (by decide) rfl (Nat.le_of_ble_eq_true rfl) (by omega) (fm_dec dtX11_one 22 rfl) ?_
    refine c_isWord [109, 111, 115, 116] ⟨by decide, by decide, by decide⟩ hP2.1 hP2.2.1 (fun x42 e42 hx42 => ?_) (fun x42 e42 hx42 => ?_)
    · refine pv_then1 ?_
      rw [(sk_sk hP.1.2.2.2.1 hP.1.2.2.1)] at e42 hx42
      have hP3 := hP2.at (x := x42) hx42 (hP2.1).2.2.1 (Nat.le_refl _)
      refine pv_if_eq (pc := 45) 53 (by decide) (fm_dec dtX11_one 23 rfl) (fun hc45 => by exfalso; revert hc45; decide) (fun _ => ?_)
      refine pv_bipush (pc := 48) (v := 7) (by decide) (fm_dec dtX11_one 24 rfl) ?_
      refine pv_goto (pc := 50) 54 (by decide) (fm_dec dtX11_one 25 rfl) ?_
      refine pv_istoren (pc := 54) (n := 1) 1 rfl (by decide) rfl (fm_dec dtX11_one 27 rfl) ?_
      dsimp only [List.set_cons_zero, List.set_cons_succ]
      refine pv_iloadn (pc := 55) (n := 1) 1 rfl rfl (fm_dec dtX11_one 28 rfl) ?_
      refine pv_iconst (pc := 56) (v := (-1)) (by decide) (fm_dec dtX11_one 29 rfl) ?_
      refine pv_icmp_eq (pc := 57) 115 (by decide) (fm_dec dtX11_one 30 rfl) (fun hc57 => by exfalso; revert hc57; decide) (fun _ => ?_)
      refine pv_aloadn (pc := 60) (n := 0) 0 rfl rfl (fm_dec dtX11_one 31 rfl) ?_
      refine pv_invV0 (k := 0) (d' := 1) (pc := 61) pcv_X11_227 (by decide) rfl (Nat.le_of_ble_eq_true rfl) (by omega) (fm_dec dtX11_one 32 rfl) ?_
      refine c_opens hP3.1 hP3.2.1 hP3.2.2.1 (fun h61 => ?_) (fun h61 => ?_)  
      · refine pv_then1 ?_
        refine pv_if_ne (pc := 64) 68 (by decide) (fm_dec dtX11_one 33 rfl) (fun hc64 => by exfalso; revert hc64; decide) (fun _ => ?_)
        exact pv_return (pc := 67) rfl (fm_dec dtX11_one 34 rfl) (hpo.2 _ 3 (sk tx p) ((spOne_2 e21 e42).2 h61) ((hP3.full (by decide)).pre ((lwFr.at.trans lwFr.at (Nat.le_refl _)).trans lwFr.at (Nat.le_refl _)) (Nat.le_refl _)))
      · refine pv_then1 ?_
        refine pv_if_ne (pc := 64) 68 (by decide) (fm_dec dtX11_one 33 rfl) (fun _ => ?_) (fun hc64 => by exfalso; revert hc64; decide)
        have ho5 : o < 6 := (by have := hP.2.2.2.1; omega)
        refine one_two (o := o) (cn := 7) (by decide) ho5 ih0 (hP3.opn h61) (fun h9 => hne (((spOne_2 e21 e42).1 h61).trans h9)) (fun M5 cs q e k => hpo.1 _ cs q (((spOne_2 e21 e42).1 h61).trans e) (k.cl (((lwFr.at.trans lwFr.at (Nat.le_refl _)).trans lwFr.at (Nat.le_refl _)).set (by omega)) rfl)) (fun M5 k a e hb => hpo.2 _ k a (((spOne_2 e21 e42).1 h61).trans e) (hb.cl (((lwFr.at.trans lwFr.at (Nat.le_refl _)).trans lwFr.at (Nat.le_refl _)).set (by omega))))
    · refine pv_then1 ?_
      rw [(sk_sk hP.1.2.2.2.1 hP.1.2.2.1)] at e42 hx42
      have hP3 := hP2.at (x := x42) hx42 (hP2.1).2.2.1 (Nat.le_refl _)
      refine pv_if_eq (pc := 45) 53 (by decide) (fm_dec dtX11_one 23 rfl) (fun _ => ?_) (fun hc45 => by exfalso; revert hc45; decide)
      refine pv_iconst (pc := 53) (v := (-1)) (by decide) (fm_dec dtX11_one 26 rfl) ?_
      refine pv_istoren (pc := 54) (n := 1) 1 rfl (by decide) rfl (fm_dec dtX11_one 27 rfl) ?_
      dsimp only [List.set_cons_zero, List.set_cons_succ]
      refine pv_iloadn (pc := 55) (n := 1) 1 rfl rfl (fm_dec dtX11_one 28 rfl) ?_
      refine pv_iconst (pc := 56) (v := (-1)) (by decide) (fm_dec dtX11_one 29 rfl) ?_
      refine pv_icmp_eq (pc := 57) 115 (by decide) (fm_dec dtX11_one 30 rfl) (fun _ => ?_) (fun hc57 => by exfalso; revert hc57; decide)
      refine pv_aloadn (pc := 115) (n := 0) 0 rfl rfl (fm_dec dtX11_one 61 rfl) ?_
      refine pv_aloadn (pc := 116) (n := 0) 0 rfl rfl (fm_dec dtX11_one 62 rfl) ?_
      refine pv_getI (k := 0) (j := 4) (ci := 11) (pc := 117) pfl_X11_110 (by decide) rfl (by decide) (fm_dec dtX11_one 63 rfl) ?_
      refine pv_invV1 (k := 0) (d' := 0) (pc := 120) pcv_X11_113 (by decide) rfl (Nat.le_of_ble_eq_true rfl) (by omega) (fm_dec dtX11_one 64 rfl) ?_
      refine c_byteAt hP3.1 (sk tx p) hx42 (fun v120 hv120 => ?_)
      refine pv_then1 ?_
      refine pv_bipush (pc := 123) (v := 40) (by decide) (fm_dec dtX11_one 65 rfl) ?_
      refine pv_icmp_ne (pc := 125) 167 (by decide) (fm_dec dtX11_one 66 rfl) (fun hc125 => ?_) (fun hc125 => ?_)
      · refine pv_aloadn (pc := 167) (n := 0) 0 rfl rfl (fm_dec dtX11_one 89 rfl) ?_
        refine pv_invV0 (k := 0) (d' := 5) (pc := 168) pcv_X11_234 (by decide) rfl (Nat.le_of_ble_eq_true rfl) (by omega) (fm_dec dtX11_one 90 rfl) ?_
        refine c_knownHere (sk_sk hP.1.2.2.2.1 hP.1.2.2.1) hP3.1 hP3.2.1 (fun k168 x168 w168 e168 hx168 hw168 => ?_) (fun x168 e168 hx168 => ?_)  
        · refine pv_then1 ?_
          have hP4 := hP3.at (x := x168) hx168 (sp_le (p := sk tx p) tW_1 hP.1.2.2.2.1 hP3.1.2.2.1) (sp_ge _)
          refine pv_istoren (pc := 171) (n := 2) 2 rfl (by decide) rfl (fm_dec dtX11_one 91 rfl) ?_
          dsimp only [List.set_cons_zero, List.set_cons_succ]
          refine pv_iloadn (pc := 172) (n := 2) 2 rfl rfl (fm_dec dtX11_one 92 rfl) ?_
          refine pv_iconst (pc := 173) (v := (-1)) (by decide) (fm_dec dtX11_one 93 rfl) ?_
          refine pv_icmp_eq (pc := 174) 186 (by decide) (fm_dec dtX11_one 94 rfl) (fun hc174 => by exfalso; rw [hc174] at hw168; have h9 : (-1 : Int32).toInt = -1 := (by decide); omega) (fun _ => ?_)
          refine pv_aloadn (pc := 177) (n := 0) 0 rfl rfl (fm_dec dtX11_one 95 rfl) ?_
          refine pv_iconst (pc := 178) (v := 1) (by decide) (fm_dec dtX11_one 96 rfl) ?_
          refine pv_iloadn (pc := 179) (n := 2) 2 rfl rfl (fm_dec dtX11_one 97 rfl) ?_
          refine pv_invV2 (k := 0) (d' := 0) (pc := 180) pcv_X11_218 (by decide) rfl (Nat.le_of_ble_eq_true rfl) (by omega) (fm_dec dtX11_one 98 rfl) ?_
          refine l_notes 1 k168 hP4.1 hP4.2.1 hP4.2.2.2.2.1 hP4.lt (by decide) hw168 (fun M180 k180 => ?_) 
          refine pv_then0 ?_
          refine pv_goto (pc := 183) 199 (by decide) (fm_dec dtX11_one 99 rfl) ?_
          exact pv_return (pc := 199) rfl (fm_dec dtX11_one 107 rfl) (hpo.1 _ _ _ (spOne_4 e21 e42 (fun h9 => hc125 (i32_ext (by rw [hv120, h9]; decide))) e168) (k180.pre (((lwFr.at.trans lwFr.at (Nat.le_refl _)).trans lwFr.at (Nat.le_refl _)).trans lwFr.at (Nat.le_refl _)) rfl))
        · refine pv_then1 ?_
          have hP4 := hP3.at (x := x168) hx168 hP3.1.2.2.1 (Nat.le_refl _)
          refine pv_istoren (pc := 171) (n := 2) 2 rfl (by decide) rfl (fm_dec dtX11_one 91 rfl) ?_
          dsimp only [List.set_cons_zero, List.set_cons_succ]
          refine pv_iloadn (pc := 172) (n := 2) 2 rfl rfl (fm_dec dtX11_one 92 rfl) ?_
          refine pv_iconst (pc := 173) (v := (-1)) (by decide) (fm_dec dtX11_one 93 rfl) ?_
          refine pv_icmp_eq (pc := 174) 186 (by decide) (fm_dec dtX11_one 94 rfl) (fun _ => ?_) (fun hc174 => by exfalso; revert hc174; decide)
          refine pv_aloadn (pc := 186) (n := 0) 0 rfl rfl (fm_dec dtX11_one 100 rfl) ?_
          refine pv_iconst (pc := 187) (v := 0) (by decide) (fm_dec dtX11_one 101 rfl) ?_
          refine pv_aloadn (pc := 188) (n := 0) 0 rfl rfl (fm_dec dtX11_one 102 rfl) ?_
          refine pv_iconst (pc := 189) (v := 0) (by decide) (fm_dec dtX11_one 103 rfl) ?_
          refine pv_sipush (pc := 190) (v := 999) (by decide) (fm_dec dtX11_one 104 rfl) ?_
          refine pv_invV2 (k := 0) (d' := 2) (pc := 193) pcv_X11_163 (by decide) rfl (Nat.le_of_ble_eq_true rfl) (by omega) (fm_dec dtX11_one 105 rfl) ?_
          refine l_num 0 999 ⟨by decide, by decide, by decide⟩ hP4.1 hP4.2.1 hP4.2.2.2.2.1 (fun M193 v193 q193 w193 e193 hw193 k193 => ?_) (fun Mb kb ab eb hB => ?_)  
          · refine pv_then1 ?_
            have n193 := spNum_ok hP.1.2.2.2.1 hP4.1.2.2.1 e193
            have hP5 : lwPre M193 tx n q193 o m := hP4.next k193 (Nat.le_of_lt n193.1)
            refine pv_invV2 (k := 0) (d' := 0) (pc := 196) pcv_X11_218 (by decide) rfl (Nat.le_of_ble_eq_true rfl) (by omega) (fm_dec dtX11_one 106 rfl) ?_
            refine l_notes 0 v193 k193.1 k193.2.1 hP5.2.2.2.2.1 hP5.lt (by decide) hw193 (fun M196 k196 => ?_) 
            refine pv_then0 ?_
            exact pv_return (pc := 199) rfl (fm_dec dtX11_one 107 rfl) (hpo.1 _ _ _ (spOne_5 e21 e42 (fun h9 => hc125 (i32_ext (by rw [hv120, h9]; decide))) e168 e193) ((k193.tr (es := [(0, v193)]) k196 hP5.lt).pre (((lwFr.at.trans lwFr.at (Nat.le_refl _)).trans lwFr.at (Nat.le_refl _)).trans lwFr.at (Nat.le_refl _)) rfl))
          · refine pv_then1 ?_
            refine pv_invV2 (k := 0) (d' := 0) (pc := 196) pcv_X11_218 (by decide) rfl (Nat.le_of_ble_eq_true rfl) (by omega) (fm_dec dtX11_one 106 rfl) ?_
            refine c_notes1 hB.nz ?_
            refine pv_then0 ?_
            exact pv_return (pc := 199) rfl (fm_dec dtX11_one 107 rfl) (hpo.2 _ kb ab (spOne_6 e21 e42 (fun h9 => hc125 (i32_ext (by rw [hv120, h9]; decide))) e168 eb) (hB.pre (((lwFr.at.trans lwFr.at (Nat.le_refl _)).trans lwFr.at (Nat.le_refl _)).trans lwFr.at (Nat.le_refl _)) (Nat.le_refl _)))
      · refine pv_aloadn (pc := 128) (n := 0) 0 rfl rfl (fm_dec dtX11_one 67 rfl) ?_
        refine pv_invV0 (k := 0) (d' := 1) (pc := 129) pcv_X11_227 (by decide) rfl (Nat.le_of_ble_eq_true rfl) (by omega) (fm_dec dtX11_one 68 rfl) ?_
        refine c_opens hP3.1 hP3.2.1 hP3.2.2.1 (fun h61 => ?_) (fun h61 => ?_)  
        · refine pv_then1 ?_
          refine pv_if_ne (pc := 132) 136 (by decide) (fm_dec dtX11_one 69 rfl) (fun hc132 => by exfalso; revert hc132; decide) (fun _ => ?_)
          exact pv_return (pc := 135) rfl (fm_dec dtX11_one 70 rfl) (hpo.2 _ 3 (sk tx p) ((spOne_3 e21 e42 (by rw [← hv120, hc125]; decide)).2 h61) ((hP3.full (by decide)).pre ((lwFr.at.trans lwFr.at (Nat.le_refl _)).trans lwFr.at (Nat.le_refl _)) (Nat.le_refl _)))
        · refine pv_then1 ?_
          refine pv_if_ne (pc := 132) 136 (by decide) (fm_dec dtX11_one 69 rfl) (fun _ => ?_) (fun hc132 => by exfalso; revert hc132; decide)
          have ho5 : o < 6 := (by have := hP.2.2.2.1; omega)
          have e40 : tx (sk tx p) = 40 := (by rw [← hv120, hc125]; decide)
          have hlt := hP3.1.lt (by omega)
          refine one_par (o := o) ho5 hlt ih0 (hP3.opn h61) (fun h9 => hne (((spOne_3 e21 e42 e40).1 h61).trans h9)) (fun M5 cs q e k => hpo.1 _ cs q (((spOne_3 e21 e42 e40).1 h61).trans e) (k.cl (((lwFr.at.trans lwFr.at (Nat.le_refl _)).trans lwFr.at (Nat.le_refl _)).set (by omega)) rfl)) (fun M5 k a e hb => hpo.2 _ k a (((spOne_3 e21 e42 e40).1 h61).trans e) (hb.cl (((lwFr.at.trans lwFr.at (Nat.le_refl _)).trans lwFr.at (Nat.le_refl _)).set (by omega))))
theorem lw_all {tx : tX} {n : Nat} : ∀ f md, lwG tx n f md := by
  intro f
  induction f with
  | zero => intro md o p m M Q hP hne hpo; exact absurd rfl hne
  | succ f ih =>
    intro md
    match md with
    | 0 => exact lw_sum0 (ih 1) (ih 3)
    | 1 => exact lw_product0 (ih 2) (ih 4)
    | 2 => exact lw_one (ih 0)
    | 3 => exact lw_sum3 (ih 1) (ih 3)
    | md + 4 => exact lw_product3 (ih 2) (ih 4)
end
-- P 11e
section
-- THE REFERENCE READS, in short words
def rdFr (M M' : fmM) : Prop := (∀ k j, k ≠ 0 → M'.1 k j = M.1 k j) ∧ (∀ j, j ≠ 4 → j ≠ 5 → j ≠ 6 → M'.1 0 j = M.1 0 j) ∧ M'.2 = M.2
def rdOk (M M' : fmM) (tx : tX) (n q : Nat) : Prop := rS M' tx n q ∧ M'.1 0 5 = 0 ∧ rdFr M M'
def rdBad (M M' : fmM) (tx : tX) (n k a : Nat) : Prop := (∃ q, rS M' tx n q) ∧ (M'.1 0 5).toInt = k ∧ (M'.1 0 6).toInt = a ∧ k ≠ 0 ∧ rdFr M M'
theorem rdFr.refl (M : fmM) : rdFr M M := ⟨fun _ _ _ => rfl, fun _ _ _ _ => rfl, rfl⟩
theorem rdFr.trans {M M1 M2 : fmM} (h : rdFr M M1) (h' : rdFr M1 M2) : rdFr M M2 := ⟨fun k j a => (h'.1 k j a).trans (h.1 k j a), fun j a b c => (h'.2.1 j a b c).trans (h.2.1 j a b c), h'.2.2.trans h.2.2⟩
theorem rdFr.set {j : Nat} {M M1 : fmM} {x : Int32} (h : rdFr M M1) (hj : j = 4 ∨ j = 5 ∨ j = 6) : rdFr M (fmI M1 0 j x) := by
  refine ⟨fun k i h1 => ?_, fun i a b c => ?_, h.2.2⟩
  · rw [fmI_k M1 x h1]
    exact h.1 k i h1
  · rw [fmI_j M1 x (by omega)]
    exact h.2.1 i a b c
theorem rdBad.nz {M M' : fmM} {tx : tX} {n k a : Nat} (h : rdBad M M' tx n k a) : ¬ M'.1 0 5 = 0 := by
  intro e
  have h1 := h.2.1
  rw [e] at h1
  have e0 : (0 : Int32).toInt = 0 := by decide
  have := h.2.2.2.1
  omega
theorem rdOk.at {M : fmM} {tx : tX} {n p q : Nat} {x : Int32} (hS : rS M tx n p) (hf : M.1 0 5 = 0) (hx : x.toInt = q) (hq : q ≤ n) : rdOk M (fmI M 0 4 x) tx n q := ⟨hS.set hx hq, hf, (rdFr.refl M).set (Or.inl rfl)⟩
theorem rdBad.at {M : fmM} {tx : tX} {n p q k a : Nat} {x kk aa : Int32} (hS : rS M tx n p) (hx : x.toInt = q) (hq : q ≤ n) (hk : kk.toInt = k) (ha : aa.toInt = a) (h0 : k ≠ 0) : rdBad M (fmI (fmI (fmI M 0 4 x) 0 5 kk) 0 6 aa) tx n k a := ⟨⟨q, (hS.set hx hq).of rfl rfl rfl⟩, hk, ha, h0, (((rdFr.refl M).set (Or.inl rfl)).set (Or.inr (Or.inl rfl))).set (Or.inr (Or.inr rfl))⟩
theorem rdBad.at0 {M : fmM} {tx : tX} {n p k a : Nat} {kk aa : Int32} (hS : rS M tx n p) (hk : kk.toInt = k) (ha : aa.toInt = a) (h0 : k ≠ 0) : rdBad M (fmI (fmI M 0 5 kk) 0 6 aa) tx n k a := ⟨⟨p, hS.of rfl rfl rfl⟩, hk, ha, h0, ((rdFr.refl M).set (Or.inr (Or.inl rfl))).set (Or.inr (Or.inr rfl))⟩
theorem rdOk.ok {M M1 M2 : fmM} {tx : tX} {n q q2 : Nat} (h : rdOk M M1 tx n q) (h' : rdOk M1 M2 tx n q2) : rdOk M M2 tx n q2 := ⟨h'.1, h'.2.1, h.2.2.trans h'.2.2⟩
theorem rdOk.bad {M M1 M2 : fmM} {tx : tX} {n q k a : Nat} (h : rdOk M M1 tx n q) (h' : rdBad M1 M2 tx n k a) : rdBad M M2 tx n k a := ⟨h'.1, h'.2.1, h'.2.2.1, h'.2.2.2.1, h.2.2.trans h'.2.2.2.2⟩
theorem rdBad.pre {M0 M M1 : fmM} {tx : tX} {n k a : Nat} (h : rdBad M M1 tx n k a) (hf : rdFr M0 M) : rdBad M0 M1 tx n k a := ⟨h.1, h.2.1, h.2.2.1, h.2.2.2.1, hf.trans h.2.2.2.2⟩
theorem r_sign {M : fmM} {Q : fmR → fmM → Prop} {tx : tX} {n p : Nat} {c : Int32} (ci : Int) (hci : c.toInt = ci ∧ 0 ≤ ci) (hS : rS M tx n p) (hf : M.1 0 5 = 0) (hok : ∀ (M' : fmM) (q : Nat), spSign tx ci p = .inr ((), q) → rdOk M M' tx n q → Q (.inl none) M') (hbad : ∀ (M' : fmM) (k a : Nat), spSign tx ci p = .inl (k, a) → rdBad M M' tx n k a → Q (.inl none) M') : pvGood Tm 2 qX11_sign [.ref 0, .int c] M Q := by
  obtain ⟨e, h0⟩ := hci
  subst e
  exact c_sign hS hf (fun q x e hx hq => hok _ q e (rdOk.at hS hf hx hq)) (fun k a q x kk aa e hk ha hx hq => hbad _ k a e (rdBad.at hS hx hq hk ha (by have := (spSign_bad hS.2.2.2.1 hS.2.2.1 e).2.2; omega))) h0
theorem r_num {M : fmM} {Q : fmR → fmM → Prop} {tx : tX} {n p : Nat} {lo hi : Int32} (li hj : Int) (hl : lo.toInt = li ∧ hi.toInt = hj ∧ hj < 100000) (hS : rS M tx n p) (hf : M.1 0 5 = 0) (hok : ∀ (M' : fmM) (v q : Nat) (w : Int32), spNum tx li hj p = .inr (v, q) → w.toInt = v → rdOk M M' tx n q → Q (.inl (some (.int w))) M') (hbad : ∀ (M' : fmM) (k a : Nat), spNum tx li hj p = .inl (k, a) → rdBad M M' tx n k a → Q (.inl (some (.int 0))) M') : pvGood Tm 2 qX11_number [.ref 0, .int lo, .int hi] M Q := by
  obtain ⟨e1, e2, h0⟩ := hl
  subst e1
  subst e2
  exact c_number hS hf h0 (fun v q x w e hw hx => hok _ v q w e hw (rdOk.at hS hf hx (spNum_ok hS.2.2.2.1 hS.2.2.1 e).2.1)) (fun k a q x kk aa e hk ha hx hq => hbad _ k a e (rdBad.at hS hx hq hk ha (by have := (spNum_bad hS.2.2.2.1 hS.2.2.1 e).2.2; omega)))
theorem r_blanks {M : fmM} {Q : fmR → fmM → Prop} {tx : tX} {n p : Nat} (hS : rS M tx n p) (hf : M.1 0 5 = 0) (hok : ∀ M' : fmM, rdOk M M' tx n (sk tx p) → Q (.inl none) M') : pvGood Tm 1 qX11_blanks [.ref 0] M Q := c_blanks hS (fun x hx => hok _ (rdOk.at hS hf hx (hS.bl hx).2.2.1))
theorem r_blanks1 {M M0 : fmM} {Q : fmR → fmM → Prop} {tx : tX} {n k a : Nat} (hB : rdBad M0 M tx n k a) (hbad : ∀ M' : fmM, rdBad M0 M' tx n k a → Q (.inl none) M') : pvGood Tm 1 qX11_blanks [.ref 0] M Q := by
  obtain ⟨⟨q, hS⟩, h2, h3, h4, h5⟩ := hB
  exact c_blanks hS (fun x hx => hbad _ ⟨⟨_, hS.bl hx⟩, h2, h3, h4, h5.set (Or.inl rfl)⟩)
theorem fmI_at (M : fmM) (k j k' j' : Nat) (v : Int32) : (fmI M k j v).1 k' j' = if k' = k ∧ j' = j then v else M.1 k' j' := by
  by_cases h : k' = k
  · subst h
    by_cases h2 : j' = j
    · subst h2
      rw [fmI_s, if_pos ⟨rfl, rfl⟩]
    · rw [fmI_j M v h2, if_neg (fun h => h2 h.2)]
  · rw [fmI_k M v h, if_neg (fun h9 => h h9.1)]
/-- rows k to c of one table are laid into another -/
def lyOk (bs bt w k c : Nat) (M M' : fmM) : Prop := (∀ i j, k ≤ i → i < c → j < w → M'.1 (bt + i) j = M.1 (bs + i) j) ∧ (∀ q j, ¬ (bt + k ≤ q ∧ q < bt + c) → M'.1 q j = M.1 q j) ∧ M'.2 = M.2
theorem lyOk.nil {bs bt w c : Nat} {M : fmM} : lyOk bs bt w c c M M := ⟨fun i j h1 h2 => by omega, fun _ _ _ => rfl, rfl⟩
theorem lyOk.step {bs bt w k c N : Nat} {M M1 M' : fmM} (h : lyOk bs bt w (k + 1) c M1 M') (hk : k < c) (hc : c ≤ N) (hd : bs + N ≤ bt ∨ bt + N ≤ bs) (h1 : ∀ j, j < w → M1.1 (bt + k) j = M.1 (bs + k) j) (h2 : ∀ q j, q ≠ bt + k → M1.1 q j = M.1 q j) (h3 : M1.2 = M.2) : lyOk bs bt w k c M M' := by
  refine ⟨fun i j a b d => ?_, fun q j hq => ?_, h.2.2.trans h3⟩
  · by_cases e : i = k
    · subst e
      rw [h.2.1 _ _ (by omega)]
      exact h1 j d
    · rw [h.1 i j (by omega) b d]
      exact h2 _ _ (by omega)
  · rw [h.2.1 q j (by omega)]
    exact h2 _ _ (by omega)
/-- the rows of a table -/
def rwOk (o b w N : Nat) : Prop := o < Tm.1 ∧ Tm.2.1 o = 5 ∧ Tm.2.2.1 o = N ∧ ∀ i, i < N → Tm.2.2.2 o i = b + i ∧ b + i < 1000 ∧ b + i < Tm.1 ∧ Tm.2.1 (b + i) = 0 ∧ Tm.2.2.1 (b + i) = w
theorem rw_readLaw : rwOk 21 251 2 160 := ⟨by decide, rfl, rfl, by decide +kernel⟩
theorem rw_law : rwOk 20 91 2 160 := ⟨by decide, rfl, rfl, by decide +kernel⟩
theorem rw_readLife : rwOk 16 27 6 8 := ⟨by decide, rfl, rfl, by decide +kernel⟩
theorem rw_life : rwOk 17 35 6 8 := ⟨by decide, rfl, rfl, by decide +kernel⟩
theorem rw_readFact : rwOk 18 43 3 24 := ⟨by decide, rfl, rfl, by decide +kernel⟩
theorem rw_fact : rwOk 19 67 3 24 := ⟨by decide, rfl, rfl, by decide +kernel⟩
theorem rw_page : rwOk 22 411 2 6 := ⟨by decide, rfl, rfl, by decide +kernel⟩
theorem rw_readPage : rwOk 23 417 2 6 := ⟨by decide, rfl, rfl, by decide +kernel⟩
theorem rw_step : rwOk 24 423 3 80 := ⟨by decide, rfl, rfl, by decide +kernel⟩
theorem rw_before : rwOk 25 503 14 16 := ⟨by decide, rfl, rfl, by decide +kernel⟩
theorem i32_cl {x : Int32} {k : Nat} (h : x.toInt = k) : x.toNatClampNeg = k := by
  show x.toInt.toNat = k
  omega
theorem rwOk.at {o b w N k : Nat} {x : Int32} (h : rwOk o b w N) (hx : x.toInt = k) (hk : k < N) : Tm.2.2.2 o x.toNatClampNeg = b + k := by
  rw [i32_cl hx]
  exact (h.2.2.2 k hk).1
theorem rwOk.inb {o b w N k : Nat} {x : Int32} (h : rwOk o b w N) (hx : x.toInt = k) (hk : k < N) : vp_in x N := vp_in_iff.mpr ⟨by omega, by omega⟩
set_option maxRecDepth 20000 in
theorem ly_law {Q : fmR → fmM → Prop} {many : Int32} {c : Nat} (hmany : many.toInt = c) (hN : c ≤ 160) : ∀ (m : Nat) (M : fmM) (k : Nat) (kk : Int32) (v4 : Option Value), kk.toInt = k → k + m = c → (∀ M' : fmM, lyOk 251 91 2 k c M M' → Q (.inl none) M') → pvEv Tm 0 qX11_lays 2 [some (.ref 21), some (.ref 20), some (.int many), some (.int kk), v4] [] M Q := by
  intro m
  induction m using Nat.strongRecOn with
  | _ m ih =>
    intro M k kk v4 hk hm hq
    refine pv_iloadn (pc := 2) (n := 3) 3 rfl rfl (fm_dec dtX11_lays 2 rfl) ?_
    refine pv_iloadn (pc := 3) (n := 2) 2 rfl rfl (fm_dec dtX11_lays 3 rfl) ?_
    refine pv_icmp_ge (pc := 4) 43 (by decide) (fm_dec dtX11_lays 4 rfl) (fun hc4 => ?_) (fun hc4 => ?_)
    · exact pv_return (pc := 43) rfl (fm_dec dtX11_lays 27 rfl) (hq M (by have : k = c := (by rw [sc_le] at hc4; omega); subst this; exact lyOk.nil))
    · have hkc : k < c := (by rw [sc_le] at hc4; omega)
      refine pv_iconst (pc := 7) (v := 0) (by decide) (fm_dec dtX11_lays 5 rfl) ?_
      refine pv_istore (pc := 8) (i := 4) (by decide) rfl (fm_dec dtX11_lays 6 rfl) ?_
      dsimp only [List.set_cons_zero, List.set_cons_succ]
      refine pv_iload (pc := 10) (i := 4) rfl (fm_dec dtX11_lays 7 rfl) ?_
      refine pv_aloadn (pc := 12) (n := 1) 1 rfl rfl (fm_dec dtX11_lays 8 rfl) ?_
      refine pv_iloadn (pc := 13) (n := 3) 3 rfl rfl (fm_dec dtX11_lays 9 rfl) ?_
      refine pv_aald (k := 20) (n := 160) (r := (91 + k)) (pc := 14) (by decide) (Or.inr (Or.inr rfl)) rfl (rw_law.inb hk (by omega)) (rw_law.at hk (by omega)) (rw_law.2.2.2 k (by omega)).2.1 (fm_dec dtX11_lays 10 rfl) ?_
      refine pv_alenI (k := (91 + k)) (n := 2) (v := 2) (pc := 15) (rw_law.2.2.2 k (by omega)).2.2.1 (rw_law.2.2.2 k (by omega)).2.2.2.1 (rw_law.2.2.2 k (by omega)).2.2.2.2 (by decide) (fm_dec dtX11_lays 11 rfl) ?_
      refine pv_icmp_ge (pc := 16) 37 (by decide) (fm_dec dtX11_lays 12 rfl) (fun hc16 => by exfalso; revert hc16; decide) (fun _ => ?_)
      refine pv_aloadn (pc := 19) (n := 1) 1 rfl rfl (fm_dec dtX11_lays 13 rfl) ?_
      refine pv_iloadn (pc := 20) (n := 3) 3 rfl rfl (fm_dec dtX11_lays 14 rfl) ?_
      refine pv_aald (k := 20) (n := 160) (r := (91 + k)) (pc := 21) (by decide) (Or.inr (Or.inr rfl)) rfl (rw_law.inb hk (by omega)) (rw_law.at hk (by omega)) (rw_law.2.2.2 k (by omega)).2.1 (fm_dec dtX11_lays 15 rfl) ?_
      refine pv_iload (pc := 22) (i := 4) rfl (fm_dec dtX11_lays 16 rfl) ?_
      refine pv_aloadn (pc := 24) (n := 0) 0 rfl rfl (fm_dec dtX11_lays 17 rfl) ?_
      refine pv_iloadn (pc := 25) (n := 3) 3 rfl rfl (fm_dec dtX11_lays 18 rfl) ?_
      refine pv_aald (k := 21) (n := 160) (r := (251 + k)) (pc := 26) (by decide) (Or.inr (Or.inr rfl)) rfl (rw_readLaw.inb hk (by omega)) (rw_readLaw.at hk (by omega)) (rw_readLaw.2.2.2 k (by omega)).2.1 (fm_dec dtX11_lays 19 rfl) ?_
      refine pv_iload (pc := 27) (i := 4) rfl (fm_dec dtX11_lays 20 rfl) ?_
      refine pv_iald (k := (251 + k)) (n := 2) (pc := 29) (rw_readLaw.2.2.2 k (by omega)).2.2.1 (rw_readLaw.2.2.2 k (by omega)).2.2.2.1 (rw_readLaw.2.2.2 k (by omega)).2.2.2.2 (fm_inl (by decide)) (fm_dec dtX11_lays 21 rfl) ?_
      refine pv_iast (k := (91 + k)) (n := 2) (pc := 30) (rw_law.2.2.2 k (by omega)).2.2.1 (rw_law.2.2.2 k (by omega)).2.2.2.1 (rw_law.2.2.2 k (by omega)).2.2.2.2 (fm_inl (by decide)) (fm_dec dtX11_lays 22 rfl) ?_
      refine pv_iincc (pc := 31) 4 1 (by decide) rfl (by decide) rfl (fm_dec dtX11_lays 23 rfl) ?_
      dsimp only [List.set_cons_zero, List.set_cons_succ]
      rw [show (0 : Int32) + 1 = 1 by decide]
      refine pv_goto (pc := 34) 10 (by decide) (fm_dec dtX11_lays 24 rfl) ?_
      refine pv_iload (pc := 10) (i := 4) rfl (fm_dec dtX11_lays 7 rfl) ?_
      refine pv_aloadn (pc := 12) (n := 1) 1 rfl rfl (fm_dec dtX11_lays 8 rfl) ?_
      refine pv_iloadn (pc := 13) (n := 3) 3 rfl rfl (fm_dec dtX11_lays 9 rfl) ?_
      refine pv_aald (k := 20) (n := 160) (r := (91 + k)) (pc := 14) (by decide) (Or.inr (Or.inr rfl)) rfl (rw_law.inb hk (by omega)) (rw_law.at hk (by omega)) (rw_law.2.2.2 k (by omega)).2.1 (fm_dec dtX11_lays 10 rfl) ?_
      refine pv_alenI (k := (91 + k)) (n := 2) (v := 2) (pc := 15) (rw_law.2.2.2 k (by omega)).2.2.1 (rw_law.2.2.2 k (by omega)).2.2.2.1 (rw_law.2.2.2 k (by omega)).2.2.2.2 (by decide) (fm_dec dtX11_lays 11 rfl) ?_
      refine pv_icmp_ge (pc := 16) 37 (by decide) (fm_dec dtX11_lays 12 rfl) (fun hc16 => by exfalso; revert hc16; decide) (fun _ => ?_)
      refine pv_aloadn (pc := 19) (n := 1) 1 rfl rfl (fm_dec dtX11_lays 13 rfl) ?_
      refine pv_iloadn (pc := 20) (n := 3) 3 rfl rfl (fm_dec dtX11_lays 14 rfl) ?_
      refine pv_aald (k := 20) (n := 160) (r := (91 + k)) (pc := 21) (by decide) (Or.inr (Or.inr rfl)) rfl (rw_law.inb hk (by omega)) (rw_law.at hk (by omega)) (rw_law.2.2.2 k (by omega)).2.1 (fm_dec dtX11_lays 15 rfl) ?_
      refine pv_iload (pc := 22) (i := 4) rfl (fm_dec dtX11_lays 16 rfl) ?_
      refine pv_aloadn (pc := 24) (n := 0) 0 rfl rfl (fm_dec dtX11_lays 17 rfl) ?_
      refine pv_iloadn (pc := 25) (n := 3) 3 rfl rfl (fm_dec dtX11_lays 18 rfl) ?_
      refine pv_aald (k := 21) (n := 160) (r := (251 + k)) (pc := 26) (by decide) (Or.inr (Or.inr rfl)) rfl (rw_readLaw.inb hk (by omega)) (rw_readLaw.at hk (by omega)) (rw_readLaw.2.2.2 k (by omega)).2.1 (fm_dec dtX11_lays 19 rfl) ?_
      refine pv_iload (pc := 27) (i := 4) rfl (fm_dec dtX11_lays 20 rfl) ?_
      refine pv_iald (k := (251 + k)) (n := 2) (pc := 29) (rw_readLaw.2.2.2 k (by omega)).2.2.1 (rw_readLaw.2.2.2 k (by omega)).2.2.2.1 (rw_readLaw.2.2.2 k (by omega)).2.2.2.2 (fm_inl (by decide)) (fm_dec dtX11_lays 21 rfl) ?_
      refine pv_iast (k := (91 + k)) (n := 2) (pc := 30) (rw_law.2.2.2 k (by omega)).2.2.1 (rw_law.2.2.2 k (by omega)).2.2.2.1 (rw_law.2.2.2 k (by omega)).2.2.2.2 (fm_inl (by decide)) (fm_dec dtX11_lays 22 rfl) ?_
      refine pv_iincc (pc := 31) 4 1 (by decide) rfl (by decide) rfl (fm_dec dtX11_lays 23 rfl) ?_
      dsimp only [List.set_cons_zero, List.set_cons_succ]
      rw [show (1 : Int32) + 1 = 2 by decide]
      refine pv_goto (pc := 34) 10 (by decide) (fm_dec dtX11_lays 24 rfl) ?_
      refine pv_iload (pc := 10) (i := 4) rfl (fm_dec dtX11_lays 7 rfl) ?_
      refine pv_aloadn (pc := 12) (n := 1) 1 rfl rfl (fm_dec dtX11_lays 8 rfl) ?_
      refine pv_iloadn (pc := 13) (n := 3) 3 rfl rfl (fm_dec dtX11_lays 9 rfl) ?_
      refine pv_aald (k := 20) (n := 160) (r := (91 + k)) (pc := 14) (by decide) (Or.inr (Or.inr rfl)) rfl (rw_law.inb hk (by omega)) (rw_law.at hk (by omega)) (rw_law.2.2.2 k (by omega)).2.1 (fm_dec dtX11_lays 10 rfl) ?_
      refine pv_alenI (k := (91 + k)) (n := 2) (v := 2) (pc := 15) (rw_law.2.2.2 k (by omega)).2.2.1 (rw_law.2.2.2 k (by omega)).2.2.2.1 (rw_law.2.2.2 k (by omega)).2.2.2.2 (by decide) (fm_dec dtX11_lays 11 rfl) ?_
      refine pv_icmp_ge (pc := 16) 37 (by decide) (fm_dec dtX11_lays 12 rfl) (fun _ => ?_) (fun hc16 => by exfalso; revert hc16; decide)
      refine pv_iincc (pc := 37) 3 1 (by decide) rfl (by decide) rfl (fm_dec dtX11_lays 25 rfl) ?_
      dsimp only [List.set_cons_zero, List.set_cons_succ]
      refine pv_goto (pc := 40) 2 (by decide) (fm_dec dtX11_lays 26 rfl) ?_
      refine ih (m - 1) (by omega) _ (k + 1) _ _ (i32_p1 hk (by omega)) (by omega) (fun M' h' => hq M' (h'.step (N := 160) (by omega) hN (by omega) (fun j hj => ?_) (fun q j hq9 => ?_) rfl))
      · rcases (show j = 0 ∨ j = 1 by omega) with rfl | rfl <;> simp [fmI_at, show ¬ (251 + k = 91 + k) by omega]
      · simp [fmI_at, hq9]
theorem c_lays_law {M : fmM} {Q : fmR → fmM → Prop} {many : Int32} {c : Nat} (hmany : many.toInt = c) (hN : c ≤ 160) (hq : ∀ M' : fmM, lyOk 251 91 2 0 c M M' → Q (.inl none) M') : pvGood Tm 0 qX11_lays [.ref 21, .ref 20, .int many] M Q := by
  refine pvGood_of (Nat.le_of_ble_eq_true rfl) ?_
  show pvEv Tm 0 qX11_lays 0 [some (.ref 21), some (.ref 20), some (.int many), none, none] [] M Q
  refine pv_iconst (pc := 0) (v := 0) (by decide) (fm_dec dtX11_lays 0 rfl) ?_
  refine pv_istoren (pc := 1) (n := 3) 3 rfl (by decide) rfl (fm_dec dtX11_lays 1 rfl) ?_
  exact ly_law hmany hN c M 0 0 none (by decide) (by omega) hq
set_option maxRecDepth 20000 in
theorem ly_life {Q : fmR → fmM → Prop} {many : Int32} {c : Nat} (hmany : many.toInt = c) (hN : c ≤ 8) : ∀ (m : Nat) (M : fmM) (k : Nat) (kk : Int32) (v4 : Option Value), kk.toInt = k → k + m = c → (∀ M' : fmM, lyOk 27 35 6 k c M M' → Q (.inl none) M') → pvEv Tm 0 qX11_lays 2 [some (.ref 16), some (.ref 17), some (.int many), some (.int kk), v4] [] M Q := by
  intro m
  induction m using Nat.strongRecOn with
  | _ m ih =>
    intro M k kk v4 hk hm hq
    refine pv_iloadn (pc := 2) (n := 3) 3 rfl rfl (fm_dec dtX11_lays 2 rfl) ?_
    refine pv_iloadn (pc := 3) (n := 2) 2 rfl rfl (fm_dec dtX11_lays 3 rfl) ?_
    refine pv_icmp_ge (pc := 4) 43 (by decide) (fm_dec dtX11_lays 4 rfl) (fun hc4 => ?_) (fun hc4 => ?_)
    · exact pv_return (pc := 43) rfl (fm_dec dtX11_lays 27 rfl) (hq M (by have : k = c := (by rw [sc_le] at hc4; omega); subst this; exact lyOk.nil))
    · have hkc : k < c := (by rw [sc_le] at hc4; omega)
      refine pv_iconst (pc := 7) (v := 0) (by decide) (fm_dec dtX11_lays 5 rfl) ?_
      refine pv_istore (pc := 8) (i := 4) (by decide) rfl (fm_dec dtX11_lays 6 rfl) ?_
      dsimp only [List.set_cons_zero, List.set_cons_succ]
      refine pv_iload (pc := 10) (i := 4) rfl (fm_dec dtX11_lays 7 rfl) ?_
      refine pv_aloadn (pc := 12) (n := 1) 1 rfl rfl (fm_dec dtX11_lays 8 rfl) ?_
      refine pv_iloadn (pc := 13) (n := 3) 3 rfl rfl (fm_dec dtX11_lays 9 rfl) ?_
      refine pv_aald (k := 17) (n := 8) (r := (35 + k)) (pc := 14) (by decide) (Or.inr (Or.inr rfl)) rfl (rw_life.inb hk (by omega)) (rw_life.at hk (by omega)) (rw_life.2.2.2 k (by omega)).2.1 (fm_dec dtX11_lays 10 rfl) ?_
      refine pv_alenI (k := (35 + k)) (n := 6) (v := 6) (pc := 15) (rw_life.2.2.2 k (by omega)).2.2.1 (rw_life.2.2.2 k (by omega)).2.2.2.1 (rw_life.2.2.2 k (by omega)).2.2.2.2 (by decide) (fm_dec dtX11_lays 11 rfl) ?_
      refine pv_icmp_ge (pc := 16) 37 (by decide) (fm_dec dtX11_lays 12 rfl) (fun hc16 => by exfalso; revert hc16; decide) (fun _ => ?_)
      refine pv_aloadn (pc := 19) (n := 1) 1 rfl rfl (fm_dec dtX11_lays 13 rfl) ?_
      refine pv_iloadn (pc := 20) (n := 3) 3 rfl rfl (fm_dec dtX11_lays 14 rfl) ?_
      refine pv_aald (k := 17) (n := 8) (r := (35 + k)) (pc := 21) (by decide) (Or.inr (Or.inr rfl)) rfl (rw_life.inb hk (by omega)) (rw_life.at hk (by omega)) (rw_life.2.2.2 k (by omega)).2.1 (fm_dec dtX11_lays 15 rfl) ?_
      refine pv_iload (pc := 22) (i := 4) rfl (fm_dec dtX11_lays 16 rfl) ?_
      refine pv_aloadn (pc := 24) (n := 0) 0 rfl rfl (fm_dec dtX11_lays 17 rfl) ?_
      refine pv_iloadn (pc := 25) (n := 3) 3 rfl rfl (fm_dec dtX11_lays 18 rfl) ?_
      refine pv_aald (k := 16) (n := 8) (r := (27 + k)) (pc := 26) (by decide) (Or.inr (Or.inr rfl)) rfl (rw_readLife.inb hk (by omega)) (rw_readLife.at hk (by omega)) (rw_readLife.2.2.2 k (by omega)).2.1 (fm_dec dtX11_lays 19 rfl) ?_
      refine pv_iload (pc := 27) (i := 4) rfl (fm_dec dtX11_lays 20 rfl) ?_
      refine pv_iald (k := (27 + k)) (n := 6) (pc := 29) (rw_readLife.2.2.2 k (by omega)).2.2.1 (rw_readLife.2.2.2 k (by omega)).2.2.2.1 (rw_readLife.2.2.2 k (by omega)).2.2.2.2 (fm_inl (by decide)) (fm_dec dtX11_lays 21 rfl) ?_
      refine pv_iast (k := (35 + k)) (n := 6) (pc := 30) (rw_life.2.2.2 k (by omega)).2.2.1 (rw_life.2.2.2 k (by omega)).2.2.2.1 (rw_life.2.2.2 k (by omega)).2.2.2.2 (fm_inl (by decide)) (fm_dec dtX11_lays 22 rfl) ?_
      refine pv_iincc (pc := 31) 4 1 (by decide) rfl (by decide) rfl (fm_dec dtX11_lays 23 rfl) ?_
      dsimp only [List.set_cons_zero, List.set_cons_succ]
      rw [show (0 : Int32) + 1 = 1 by decide]
      refine pv_goto (pc := 34) 10 (by decide) (fm_dec dtX11_lays 24 rfl) ?_
      refine pv_iload (pc := 10) (i := 4) rfl (fm_dec dtX11_lays 7 rfl) ?_
      refine pv_aloadn (pc := 12) (n := 1) 1 rfl rfl (fm_dec dtX11_lays 8 rfl) ?_
      refine pv_iloadn (pc := 13) (n := 3) 3 rfl rfl (fm_dec dtX11_lays 9 rfl) ?_
      refine pv_aald (k := 17) (n := 8) (r := (35 + k)) (pc := 14) (by decide) (Or.inr (Or.inr rfl)) rfl (rw_life.inb hk (by omega)) (rw_life.at hk (by omega)) (rw_life.2.2.2 k (by omega)).2.1 (fm_dec dtX11_lays 10 rfl) ?_
      refine pv_alenI (k := (35 + k)) (n := 6) (v := 6) (pc := 15) (rw_life.2.2.2 k (by omega)).2.2.1 (rw_life.2.2.2 k (by omega)).2.2.2.1 (rw_life.2.2.2 k (by omega)).2.2.2.2 (by decide) (fm_dec dtX11_lays 11 rfl) ?_
      refine pv_icmp_ge (pc := 16) 37 (by decide) (fm_dec dtX11_lays 12 rfl) (fun hc16 => by exfalso; revert hc16; decide) (fun _ => ?_)
      refine pv_aloadn (pc := 19) (n := 1) 1 rfl rfl (fm_dec dtX11_lays 13 rfl) ?_
      refine pv_iloadn (pc := 20) (n := 3) 3 rfl rfl (fm_dec dtX11_lays 14 rfl) ?_
      refine pv_aald (k := 17) (n := 8) (r := (35 + k)) (pc := 21) (by decide) (Or.inr (Or.inr rfl)) rfl (rw_life.inb hk (by omega)) (rw_life.at hk (by omega)) (rw_life.2.2.2 k (by omega)).2.1 (fm_dec dtX11_lays 15 rfl) ?_
      refine pv_iload (pc := 22) (i := 4) rfl (fm_dec dtX11_lays 16 rfl) ?_
      refine pv_aloadn (pc := 24) (n := 0) 0 rfl rfl (fm_dec dtX11_lays 17 rfl) ?_
      refine pv_iloadn (pc := 25) (n := 3) 3 rfl rfl (fm_dec dtX11_lays 18 rfl) ?_
      refine pv_aald (k := 16) (n := 8) (r := (27 + k)) (pc := 26) (by decide) (Or.inr (Or.inr rfl)) rfl (rw_readLife.inb hk (by omega)) (rw_readLife.at hk (by omega)) (rw_readLife.2.2.2 k (by omega)).2.1 (fm_dec dtX11_lays 19 rfl) ?_
      refine pv_iload (pc := 27) (i := 4) rfl (fm_dec dtX11_lays 20 rfl) ?_
      refine pv_iald (k := (27 + k)) (n := 6) (pc := 29) (rw_readLife.2.2.2 k (by omega)).2.2.1 (rw_readLife.2.2.2 k (by omega)).2.2.2.1 (rw_readLife.2.2.2 k (by omega)).2.2.2.2 (fm_inl (by decide)) (fm_dec dtX11_lays 21 rfl) ?_
      refine pv_iast (k := (35 + k)) (n := 6) (pc := 30) (rw_life.2.2.2 k (by omega)).2.2.1 (rw_life.2.2.2 k (by omega)).2.2.2.1 (rw_life.2.2.2 k (by omega)).2.2.2.2 (fm_inl (by decide)) (fm_dec dtX11_lays 22 rfl) ?_
      refine pv_iincc (pc := 31) 4 1 (by decide) rfl (by decide) rfl (fm_dec dtX11_lays 23 rfl) ?_
      dsimp only [List.set_cons_zero, List.set_cons_succ]
      rw [show (1 : Int32) + 1 = 2 by decide]
      refine pv_goto (pc := 34) 10 (by decide) (fm_dec dtX11_lays 24 rfl) ?_
      refine pv_iload (pc := 10) (i := 4) rfl (fm_dec dtX11_lays 7 rfl) ?_
      refine pv_aloadn (pc := 12) (n := 1) 1 rfl rfl (fm_dec dtX11_lays 8 rfl) ?_
      refine pv_iloadn (pc := 13) (n := 3) 3 rfl rfl (fm_dec dtX11_lays 9 rfl) ?_
      refine pv_aald (k := 17) (n := 8) (r := (35 + k)) (pc := 14) (by decide) (Or.inr (Or.inr rfl)) rfl (rw_life.inb hk (by omega)) (rw_life.at hk (by omega)) (rw_life.2.2.2 k (by omega)).2.1 (fm_dec dtX11_lays 10 rfl) ?_
      refine pv_alenI (k := (35 + k)) (n := 6) (v := 6) (pc := 15) (rw_life.2.2.2 k (by omega)).2.2.1 (rw_life.2.2.2 k (by omega)).2.2.2.1 (rw_life.2.2.2 k (by omega)).2.2.2.2 (by decide) (fm_dec dtX11_lays 11 rfl) ?_
      refine pv_icmp_ge (pc := 16) 37 (by decide) (fm_dec dtX11_lays 12 rfl) (fun hc16 => by exfalso; revert hc16; decide) (fun _ => ?_)
      refine pv_aloadn (pc := 19) (n := 1) 1 rfl rfl (fm_dec dtX11_lays 13 rfl) ?_
      refine pv_iloadn (pc := 20) (n := 3) 3 rfl rfl (fm_dec dtX11_lays 14 rfl) ?_
      refine pv_aald (k := 17) (n := 8) (r := (35 + k)) (pc := 21) (by decide) (Or.inr (Or.inr rfl)) rfl (rw_life.inb hk (by omega)) (rw_life.at hk (by omega)) (rw_life.2.2.2 k (by omega)).2.1 (fm_dec dtX11_lays 15 rfl) ?_
      refine pv_iload (pc := 22) (i := 4) rfl (fm_dec dtX11_lays 16 rfl) ?_
      refine pv_aloadn (pc := 24) (n := 0) 0 rfl rfl (fm_dec dtX11_lays 17 rfl) ?_
      refine pv_iloadn (pc := 25) (n := 3) 3 rfl rfl (fm_dec dtX11_lays 18 rfl) ?_
      refine pv_aald (k := 16) (n := 8) (r := (27 + k)) (pc := 26) (by decide) (Or.inr (Or.inr rfl)) rfl (rw_readLife.inb hk (by omega)) (rw_readLife.at hk (by omega)) (rw_readLife.2.2.2 k (by omega)).2.1 (fm_dec dtX11_lays 19 rfl) ?_
      refine pv_iload (pc := 27) (i := 4) rfl (fm_dec dtX11_lays 20 rfl) ?_
      refine pv_iald (k := (27 + k)) (n := 6) (pc := 29) (rw_readLife.2.2.2 k (by omega)).2.2.1 (rw_readLife.2.2.2 k (by omega)).2.2.2.1 (rw_readLife.2.2.2 k (by omega)).2.2.2.2 (fm_inl (by decide)) (fm_dec dtX11_lays 21 rfl) ?_
      refine pv_iast (k := (35 + k)) (n := 6) (pc := 30) (rw_life.2.2.2 k (by omega)).2.2.1 (rw_life.2.2.2 k (by omega)).2.2.2.1 (rw_life.2.2.2 k (by omega)).2.2.2.2 (fm_inl (by decide)) (fm_dec dtX11_lays 22 rfl) ?_
      refine pv_iincc (pc := 31) 4 1 (by decide) rfl (by decide) rfl (fm_dec dtX11_lays 23 rfl) ?_
      dsimp only [List.set_cons_zero, List.set_cons_succ]
      rw [show (2 : Int32) + 1 = 3 by decide]
      refine pv_goto (pc := 34) 10 (by decide) (fm_dec dtX11_lays 24 rfl) ?_
      refine pv_iload (pc := 10) (i := 4) rfl (fm_dec dtX11_lays 7 rfl) ?_
      refine pv_aloadn (pc := 12) (n := 1) 1 rfl rfl (fm_dec dtX11_lays 8 rfl) ?_
      refine pv_iloadn (pc := 13) (n := 3) 3 rfl rfl (fm_dec dtX11_lays 9 rfl) ?_
      refine pv_aald (k := 17) (n := 8) (r := (35 + k)) (pc := 14) (by decide) (Or.inr (Or.inr rfl)) rfl (rw_life.inb hk (by omega)) (rw_life.at hk (by omega)) (rw_life.2.2.2 k (by omega)).2.1 (fm_dec dtX11_lays 10 rfl) ?_
      refine pv_alenI (k := (35 + k)) (n := 6) (v := 6) (pc := 15) (rw_life.2.2.2 k (by omega)).2.2.1 (rw_life.2.2.2 k (by omega)).2.2.2.1 (rw_life.2.2.2 k (by omega)).2.2.2.2 (by decide) (fm_dec dtX11_lays 11 rfl) ?_
      refine pv_icmp_ge (pc := 16) 37 (by decide) (fm_dec dtX11_lays 12 rfl) (fun hc16 => by exfalso; revert hc16; decide) (fun _ => ?_)
      refine pv_aloadn (pc := 19) (n := 1) 1 rfl rfl (fm_dec dtX11_lays 13 rfl) ?_
      refine pv_iloadn (pc := 20) (n := 3) 3 rfl rfl (fm_dec dtX11_lays 14 rfl) ?_
      refine pv_aald (k := 17) (n := 8) (r := (35 + k)) (pc := 21) (by decide) (Or.inr (Or.inr rfl)) rfl (rw_life.inb hk (by omega)) (rw_life.at hk (by omega)) (rw_life.2.2.2 k (by omega)).2.1 (fm_dec dtX11_lays 15 rfl) ?_
      refine pv_iload (pc := 22) (i := 4) rfl (fm_dec dtX11_lays 16 rfl) ?_
      refine pv_aloadn (pc := 24) (n := 0) 0 rfl rfl (fm_dec dtX11_lays 17 rfl) ?_
      refine pv_iloadn (pc := 25) (n := 3) 3 rfl rfl (fm_dec dtX11_lays 18 rfl) ?_
      refine pv_aald (k := 16) (n := 8) (r := (27 + k)) (pc := 26) (by decide) (Or.inr (Or.inr rfl)) rfl (rw_readLife.inb hk (by omega)) (rw_readLife.at hk (by omega)) (rw_readLife.2.2.2 k (by omega)).2.1 (fm_dec dtX11_lays 19 rfl) ?_
      refine pv_iload (pc := 27) (i := 4) rfl (fm_dec dtX11_lays 20 rfl) ?_
      refine pv_iald (k := (27 + k)) (n := 6) (pc := 29) (rw_readLife.2.2.2 k (by omega)).2.2.1 (rw_readLife.2.2.2 k (by omega)).2.2.2.1 (rw_readLife.2.2.2 k (by omega)).2.2.2.2 (fm_inl (by decide)) (fm_dec dtX11_lays 21 rfl) ?_
      refine pv_iast (k := (35 + k)) (n := 6) (pc := 30) (rw_life.2.2.2 k (by omega)).2.2.1 (rw_life.2.2.2 k (by omega)).2.2.2.1 (rw_life.2.2.2 k (by omega)).2.2.2.2 (fm_inl (by decide)) (fm_dec dtX11_lays 22 rfl) ?_
      refine pv_iincc (pc := 31) 4 1 (by decide) rfl (by decide) rfl (fm_dec dtX11_lays 23 rfl) ?_
      dsimp only [List.set_cons_zero, List.set_cons_succ]
      rw [show (3 : Int32) + 1 = 4 by decide]
      refine pv_goto (pc := 34) 10 (by decide) (fm_dec dtX11_lays 24 rfl) ?_
      refine pv_iload (pc := 10) (i := 4) rfl (fm_dec dtX11_lays 7 rfl) ?_
      refine pv_aloadn (pc := 12) (n := 1) 1 rfl rfl (fm_dec dtX11_lays 8 rfl) ?_
      refine pv_iloadn (pc := 13) (n := 3) 3 rfl rfl (fm_dec dtX11_lays 9 rfl) ?_
      refine pv_aald (k := 17) (n := 8) (r := (35 + k)) (pc := 14) (by decide) (Or.inr (Or.inr rfl)) rfl (rw_life.inb hk (by omega)) (rw_life.at hk (by omega)) (rw_life.2.2.2 k (by omega)).2.1 (fm_dec dtX11_lays 10 rfl) ?_
      refine pv_alenI (k := (35 + k)) (n := 6) (v := 6) (pc := 15) (rw_life.2.2.2 k (by omega)).2.2.1 (rw_life.2.2.2 k (by omega)).2.2.2.1 (rw_life.2.2.2 k (by omega)).2.2.2.2 (by decide) (fm_dec dtX11_lays 11 rfl) ?_
      refine pv_icmp_ge (pc := 16) 37 (by decide) (fm_dec dtX11_lays 12 rfl) (fun hc16 => by exfalso; revert hc16; decide) (fun _ => ?_)
      refine pv_aloadn (pc := 19) (n := 1) 1 rfl rfl (fm_dec dtX11_lays 13 rfl) ?_
      refine pv_iloadn (pc := 20) (n := 3) 3 rfl rfl (fm_dec dtX11_lays 14 rfl) ?_
      refine pv_aald (k := 17) (n := 8) (r := (35 + k)) (pc := 21) (by decide) (Or.inr (Or.inr rfl)) rfl (rw_life.inb hk (by omega)) (rw_life.at hk (by omega)) (rw_life.2.2.2 k (by omega)).2.1 (fm_dec dtX11_lays 15 rfl) ?_
      refine pv_iload (pc := 22) (i := 4) rfl (fm_dec dtX11_lays 16 rfl) ?_
      refine pv_aloadn (pc := 24) (n := 0) 0 rfl rfl (fm_dec dtX11_lays 17 rfl) ?_
      refine pv_iloadn (pc := 25) (n := 3) 3 rfl rfl (fm_dec dtX11_lays 18 rfl) ?_
      refine pv_aald (k := 16) (n := 8) (r := (27 + k)) (pc := 26) (by decide) (Or.inr (Or.inr rfl)) rfl (rw_readLife.inb hk (by omega)) (rw_readLife.at hk (by omega)) (rw_readLife.2.2.2 k (by omega)).2.1 (fm_dec dtX11_lays 19 rfl) ?_
      refine pv_iload (pc := 27) (i := 4) rfl (fm_dec dtX11_lays 20 rfl) ?_
      refine pv_iald (k := (27 + k)) (n := 6) (pc := 29) (rw_readLife.2.2.2 k (by omega)).2.2.1 (rw_readLife.2.2.2 k (by omega)).2.2.2.1 (rw_readLife.2.2.2 k (by omega)).2.2.2.2 (fm_inl (by decide)) (fm_dec dtX11_lays 21 rfl) ?_
      refine pv_iast (k := (35 + k)) (n := 6) (pc := 30) (rw_life.2.2.2 k (by omega)).2.2.1 (rw_life.2.2.2 k (by omega)).2.2.2.1 (rw_life.2.2.2 k (by omega)).2.2.2.2 (fm_inl (by decide)) (fm_dec dtX11_lays 22 rfl) ?_
      refine pv_iincc (pc := 31) 4 1 (by decide) rfl (by decide) rfl (fm_dec dtX11_lays 23 rfl) ?_
      dsimp only [List.set_cons_zero, List.set_cons_succ]
      rw [show (4 : Int32) + 1 = 5 by decide]
      refine pv_goto (pc := 34) 10 (by decide) (fm_dec dtX11_lays 24 rfl) ?_
      refine pv_iload (pc := 10) (i := 4) rfl (fm_dec dtX11_lays 7 rfl) ?_
      refine pv_aloadn (pc := 12) (n := 1) 1 rfl rfl (fm_dec dtX11_lays 8 rfl) ?_
      refine pv_iloadn (pc := 13) (n := 3) 3 rfl rfl (fm_dec dtX11_lays 9 rfl) ?_
      refine pv_aald (k := 17) (n := 8) (r := (35 + k)) (pc := 14) (by decide) (Or.inr (Or.inr rfl)) rfl (rw_life.inb hk (by omega)) (rw_life.at hk (by omega)) (rw_life.2.2.2 k (by omega)).2.1 (fm_dec dtX11_lays 10 rfl) ?_
      refine pv_alenI (k := (35 + k)) (n := 6) (v := 6) (pc := 15) (rw_life.2.2.2 k (by omega)).2.2.1 (rw_life.2.2.2 k (by omega)).2.2.2.1 (rw_life.2.2.2 k (by omega)).2.2.2.2 (by decide) (fm_dec dtX11_lays 11 rfl) ?_
      refine pv_icmp_ge (pc := 16) 37 (by decide) (fm_dec dtX11_lays 12 rfl) (fun hc16 => by exfalso; revert hc16; decide) (fun _ => ?_)
      refine pv_aloadn (pc := 19) (n := 1) 1 rfl rfl (fm_dec dtX11_lays 13 rfl) ?_
      refine pv_iloadn (pc := 20) (n := 3) 3 rfl rfl (fm_dec dtX11_lays 14 rfl) ?_
      refine pv_aald (k := 17) (n := 8) (r := (35 + k)) (pc := 21) (by decide) (Or.inr (Or.inr rfl)) rfl (rw_life.inb hk (by omega)) (rw_life.at hk (by omega)) (rw_life.2.2.2 k (by omega)).2.1 (fm_dec dtX11_lays 15 rfl) ?_
      refine pv_iload (pc := 22) (i := 4) rfl (fm_dec dtX11_lays 16 rfl) ?_
      refine pv_aloadn (pc := 24) (n := 0) 0 rfl rfl (fm_dec dtX11_lays 17 rfl) ?_
      refine pv_iloadn (pc := 25) (n := 3) 3 rfl rfl (fm_dec dtX11_lays 18 rfl) ?_
      refine pv_aald (k := 16) (n := 8) (r := (27 + k)) (pc := 26) (by decide) (Or.inr (Or.inr rfl)) rfl (rw_readLife.inb hk (by omega)) (rw_readLife.at hk (by omega)) (rw_readLife.2.2.2 k (by omega)).2.1 (fm_dec dtX11_lays 19 rfl) ?_
      refine pv_iload (pc := 27) (i := 4) rfl (fm_dec dtX11_lays 20 rfl) ?_
      refine pv_iald (k := (27 + k)) (n := 6) (pc := 29) (rw_readLife.2.2.2 k (by omega)).2.2.1 (rw_readLife.2.2.2 k (by omega)).2.2.2.1 (rw_readLife.2.2.2 k (by omega)).2.2.2.2 (fm_inl (by decide)) (fm_dec dtX11_lays 21 rfl) ?_
      refine pv_iast (k := (35 + k)) (n := 6) (pc := 30) (rw_life.2.2.2 k (by omega)).2.2.1 (rw_life.2.2.2 k (by omega)).2.2.2.1 (rw_life.2.2.2 k (by omega)).2.2.2.2 (fm_inl (by decide)) (fm_dec dtX11_lays 22 rfl) ?_
      refine pv_iincc (pc := 31) 4 1 (by decide) rfl (by decide) rfl (fm_dec dtX11_lays 23 rfl) ?_
      dsimp only [List.set_cons_zero, List.set_cons_succ]
      rw [show (5 : Int32) + 1 = 6 by decide]
      refine pv_goto (pc := 34) 10 (by decide) (fm_dec dtX11_lays 24 rfl) ?_
      refine pv_iload (pc := 10) (i := 4) rfl (fm_dec dtX11_lays 7 rfl) ?_
      refine pv_aloadn (pc := 12) (n := 1) 1 rfl rfl (fm_dec dtX11_lays 8 rfl) ?_
      refine pv_iloadn (pc := 13) (n := 3) 3 rfl rfl (fm_dec dtX11_lays 9 rfl) ?_
      refine pv_aald (k := 17) (n := 8) (r := (35 + k)) (pc := 14) (by decide) (Or.inr (Or.inr rfl)) rfl (rw_life.inb hk (by omega)) (rw_life.at hk (by omega)) (rw_life.2.2.2 k (by omega)).2.1 (fm_dec dtX11_lays 10 rfl) ?_
      refine pv_alenI (k := (35 + k)) (n := 6) (v := 6) (pc := 15) (rw_life.2.2.2 k (by omega)).2.2.1 (rw_life.2.2.2 k (by omega)).2.2.2.1 (rw_life.2.2.2 k (by omega)).2.2.2.2 (by decide) (fm_dec dtX11_lays 11 rfl) ?_
      refine pv_icmp_ge (pc := 16) 37 (by decide) (fm_dec dtX11_lays 12 rfl) (fun _ => ?_) (fun hc16 => by exfalso; revert hc16; decide)
      refine pv_iincc (pc := 37) 3 1 (by decide) rfl (by decide) rfl (fm_dec dtX11_lays 25 rfl) ?_
      dsimp only [List.set_cons_zero, List.set_cons_succ]
      refine pv_goto (pc := 40) 2 (by decide) (fm_dec dtX11_lays 26 rfl) ?_
      refine ih (m - 1) (by omega) _ (k + 1) _ _ (i32_p1 hk (by omega)) (by omega) (fun M' h' => hq M' (h'.step (N := 8) (by omega) hN (by omega) (fun j hj => ?_) (fun q j hq9 => ?_) rfl))
      · rcases (show j = 0 ∨ j = 1 ∨ j = 2 ∨ j = 3 ∨ j = 4 ∨ j = 5 by omega) with rfl | rfl | rfl | rfl | rfl | rfl <;> simp [fmI_at, show ¬ (27 + k = 35 + k) by omega]
      · simp [fmI_at, hq9]
theorem c_lays_life {M : fmM} {Q : fmR → fmM → Prop} {many : Int32} {c : Nat} (hmany : many.toInt = c) (hN : c ≤ 8) (hq : ∀ M' : fmM, lyOk 27 35 6 0 c M M' → Q (.inl none) M') : pvGood Tm 0 qX11_lays [.ref 16, .ref 17, .int many] M Q := by
  refine pvGood_of (Nat.le_of_ble_eq_true rfl) ?_
  show pvEv Tm 0 qX11_lays 0 [some (.ref 16), some (.ref 17), some (.int many), none, none] [] M Q
  refine pv_iconst (pc := 0) (v := 0) (by decide) (fm_dec dtX11_lays 0 rfl) ?_
  refine pv_istoren (pc := 1) (n := 3) 3 rfl (by decide) rfl (fm_dec dtX11_lays 1 rfl) ?_
  exact ly_life hmany hN c M 0 0 none (by decide) (by omega) hq
set_option maxRecDepth 20000 in
theorem ly_fact {Q : fmR → fmM → Prop} {many : Int32} {c : Nat} (hmany : many.toInt = c) (hN : c ≤ 24) : ∀ (m : Nat) (M : fmM) (k : Nat) (kk : Int32) (v4 : Option Value), kk.toInt = k → k + m = c → (∀ M' : fmM, lyOk 43 67 3 k c M M' → Q (.inl none) M') → pvEv Tm 0 qX11_lays 2 [some (.ref 18), some (.ref 19), some (.int many), some (.int kk), v4] [] M Q := by
  intro m
  induction m using Nat.strongRecOn with
  | _ m ih =>
    intro M k kk v4 hk hm hq
    refine pv_iloadn (pc := 2) (n := 3) 3 rfl rfl (fm_dec dtX11_lays 2 rfl) ?_
    refine pv_iloadn (pc := 3) (n := 2) 2 rfl rfl (fm_dec dtX11_lays 3 rfl) ?_
    refine pv_icmp_ge (pc := 4) 43 (by decide) (fm_dec dtX11_lays 4 rfl) (fun hc4 => ?_) (fun hc4 => ?_)
    · exact pv_return (pc := 43) rfl (fm_dec dtX11_lays 27 rfl) (hq M (by have : k = c := (by rw [sc_le] at hc4; omega); subst this; exact lyOk.nil))
    · have hkc : k < c := (by rw [sc_le] at hc4; omega)
      refine pv_iconst (pc := 7) (v := 0) (by decide) (fm_dec dtX11_lays 5 rfl) ?_
      refine pv_istore (pc := 8) (i := 4) (by decide) rfl (fm_dec dtX11_lays 6 rfl) ?_
      dsimp only [List.set_cons_zero, List.set_cons_succ]
      refine pv_iload (pc := 10) (i := 4) rfl (fm_dec dtX11_lays 7 rfl) ?_
      refine pv_aloadn (pc := 12) (n := 1) 1 rfl rfl (fm_dec dtX11_lays 8 rfl) ?_
      refine pv_iloadn (pc := 13) (n := 3) 3 rfl rfl (fm_dec dtX11_lays 9 rfl) ?_
      refine pv_aald (k := 19) (n := 24) (r := (67 + k)) (pc := 14) (by decide) (Or.inr (Or.inr rfl)) rfl (rw_fact.inb hk (by omega)) (rw_fact.at hk (by omega)) (rw_fact.2.2.2 k (by omega)).2.1 (fm_dec dtX11_lays 10 rfl) ?_
      refine pv_alenI (k := (67 + k)) (n := 3) (v := 3) (pc := 15) (rw_fact.2.2.2 k (by omega)).2.2.1 (rw_fact.2.2.2 k (by omega)).2.2.2.1 (rw_fact.2.2.2 k (by omega)).2.2.2.2 (by decide) (fm_dec dtX11_lays 11 rfl) ?_
      refine pv_icmp_ge (pc := 16) 37 (by decide) (fm_dec dtX11_lays 12 rfl) (fun hc16 => by exfalso; revert hc16; decide) (fun _ => ?_)
      refine pv_aloadn (pc := 19) (n := 1) 1 rfl rfl (fm_dec dtX11_lays 13 rfl) ?_
      refine pv_iloadn (pc := 20) (n := 3) 3 rfl rfl (fm_dec dtX11_lays 14 rfl) ?_
      refine pv_aald (k := 19) (n := 24) (r := (67 + k)) (pc := 21) (by decide) (Or.inr (Or.inr rfl)) rfl (rw_fact.inb hk (by omega)) (rw_fact.at hk (by omega)) (rw_fact.2.2.2 k (by omega)).2.1 (fm_dec dtX11_lays 15 rfl) ?_
      refine pv_iload (pc := 22) (i := 4) rfl (fm_dec dtX11_lays 16 rfl) ?_
      refine pv_aloadn (pc := 24) (n := 0) 0 rfl rfl (fm_dec dtX11_lays 17 rfl) ?_
      refine pv_iloadn (pc := 25) (n := 3) 3 rfl rfl (fm_dec dtX11_lays 18 rfl) ?_
      refine pv_aald (k := 18) (n := 24) (r := (43 + k)) (pc := 26) (by decide) (Or.inr (Or.inr rfl)) rfl (rw_readFact.inb hk (by omega)) (rw_readFact.at hk (by omega)) (rw_readFact.2.2.2 k (by omega)).2.1 (fm_dec dtX11_lays 19 rfl) ?_
      refine pv_iload (pc := 27) (i := 4) rfl (fm_dec dtX11_lays 20 rfl) ?_
      refine pv_iald (k := (43 + k)) (n := 3) (pc := 29) (rw_readFact.2.2.2 k (by omega)).2.2.1 (rw_readFact.2.2.2 k (by omega)).2.2.2.1 (rw_readFact.2.2.2 k (by omega)).2.2.2.2 (fm_inl (by decide)) (fm_dec dtX11_lays 21 rfl) ?_
      refine pv_iast (k := (67 + k)) (n := 3) (pc := 30) (rw_fact.2.2.2 k (by omega)).2.2.1 (rw_fact.2.2.2 k (by omega)).2.2.2.1 (rw_fact.2.2.2 k (by omega)).2.2.2.2 (fm_inl (by decide)) (fm_dec dtX11_lays 22 rfl) ?_
      refine pv_iincc (pc := 31) 4 1 (by decide) rfl (by decide) rfl (fm_dec dtX11_lays 23 rfl) ?_
      dsimp only [List.set_cons_zero, List.set_cons_succ]
      rw [show (0 : Int32) + 1 = 1 by decide]
      refine pv_goto (pc := 34) 10 (by decide) (fm_dec dtX11_lays 24 rfl) ?_
      refine pv_iload (pc := 10) (i := 4) rfl (fm_dec dtX11_lays 7 rfl) ?_
      refine pv_aloadn (pc := 12) (n := 1) 1 rfl rfl (fm_dec dtX11_lays 8 rfl) ?_
      refine pv_iloadn (pc := 13) (n := 3) 3 rfl rfl (fm_dec dtX11_lays 9 rfl) ?_
      refine pv_aald (k := 19) (n := 24) (r := (67 + k)) (pc := 14) (by decide) (Or.inr (Or.inr rfl)) rfl (rw_fact.inb hk (by omega)) (rw_fact.at hk (by omega)) (rw_fact.2.2.2 k (by omega)).2.1 (fm_dec dtX11_lays 10 rfl) ?_
      refine pv_alenI (k := (67 + k)) (n := 3) (v := 3) (pc := 15) (rw_fact.2.2.2 k (by omega)).2.2.1 (rw_fact.2.2.2 k (by omega)).2.2.2.1 (rw_fact.2.2.2 k (by omega)).2.2.2.2 (by decide) (fm_dec dtX11_lays 11 rfl) ?_
      refine pv_icmp_ge (pc := 16) 37 (by decide) (fm_dec dtX11_lays 12 rfl) (fun hc16 => by exfalso; revert hc16; decide) (fun _ => ?_)
      refine pv_aloadn (pc := 19) (n := 1) 1 rfl rfl (fm_dec dtX11_lays 13 rfl) ?_
      refine pv_iloadn (pc := 20) (n := 3) 3 rfl rfl (fm_dec dtX11_lays 14 rfl) ?_
      refine pv_aald (k := 19) (n := 24) (r := (67 + k)) (pc := 21) (by decide) (Or.inr (Or.inr rfl)) rfl (rw_fact.inb hk (by omega)) (rw_fact.at hk (by omega)) (rw_fact.2.2.2 k (by omega)).2.1 (fm_dec dtX11_lays 15 rfl) ?_
      refine pv_iload (pc := 22) (i := 4) rfl (fm_dec dtX11_lays 16 rfl) ?_
      refine pv_aloadn (pc := 24) (n := 0) 0 rfl rfl (fm_dec dtX11_lays 17 rfl) ?_
      refine pv_iloadn (pc := 25) (n := 3) 3 rfl rfl (fm_dec dtX11_lays 18 rfl) ?_
      refine pv_aald (k := 18) (n := 24) (r := (43 + k)) (pc := 26) (by decide) (Or.inr (Or.inr rfl)) rfl (rw_readFact.inb hk (by omega)) (rw_readFact.at hk (by omega)) (rw_readFact.2.2.2 k (by omega)).2.1 (fm_dec dtX11_lays 19 rfl) ?_
      refine pv_iload (pc := 27) (i := 4) rfl (fm_dec dtX11_lays 20 rfl) ?_
      refine pv_iald (k := (43 + k)) (n := 3) (pc := 29) (rw_readFact.2.2.2 k (by omega)).2.2.1 (rw_readFact.2.2.2 k (by omega)).2.2.2.1 (rw_readFact.2.2.2 k (by omega)).2.2.2.2 (fm_inl (by decide)) (fm_dec dtX11_lays 21 rfl) ?_
      refine pv_iast (k := (67 + k)) (n := 3) (pc := 30) (rw_fact.2.2.2 k (by omega)).2.2.1 (rw_fact.2.2.2 k (by omega)).2.2.2.1 (rw_fact.2.2.2 k (by omega)).2.2.2.2 (fm_inl (by decide)) (fm_dec dtX11_lays 22 rfl) ?_
      refine pv_iincc (pc := 31) 4 1 (by decide) rfl (by decide) rfl (fm_dec dtX11_lays 23 rfl) ?_
      dsimp only [List.set_cons_zero, List.set_cons_succ]
      rw [show (1 : Int32) + 1 = 2 by decide]
      refine pv_goto (pc := 34) 10 (by decide) (fm_dec dtX11_lays 24 rfl) ?_
      refine pv_iload (pc := 10) (i := 4) rfl (fm_dec dtX11_lays 7 rfl) ?_
      refine pv_aloadn (pc := 12) (n := 1) 1 rfl rfl (fm_dec dtX11_lays 8 rfl) ?_
      refine pv_iloadn (pc := 13) (n := 3) 3 rfl rfl (fm_dec dtX11_lays 9 rfl) ?_
      refine pv_aald (k := 19) (n := 24) (r := (67 + k)) (pc := 14) (by decide) (Or.inr (Or.inr rfl)) rfl (rw_fact.inb hk (by omega)) (rw_fact.at hk (by omega)) (rw_fact.2.2.2 k (by omega)).2.1 (fm_dec dtX11_lays 10 rfl) ?_
      refine pv_alenI (k := (67 + k)) (n := 3) (v := 3) (pc := 15) (rw_fact.2.2.2 k (by omega)).2.2.1 (rw_fact.2.2.2 k (by omega)).2.2.2.1 (rw_fact.2.2.2 k (by omega)).2.2.2.2 (by decide) (fm_dec dtX11_lays 11 rfl) ?_
      refine pv_icmp_ge (pc := 16) 37 (by decide) (fm_dec dtX11_lays 12 rfl) (fun hc16 => by exfalso; revert hc16; decide) (fun _ => ?_)
      refine pv_aloadn (pc := 19) (n := 1) 1 rfl rfl (fm_dec dtX11_lays 13 rfl) ?_
      refine pv_iloadn (pc := 20) (n := 3) 3 rfl rfl (fm_dec dtX11_lays 14 rfl) ?_
      refine pv_aald (k := 19) (n := 24) (r := (67 + k)) (pc := 21) (by decide) (Or.inr (Or.inr rfl)) rfl (rw_fact.inb hk (by omega)) (rw_fact.at hk (by omega)) (rw_fact.2.2.2 k (by omega)).2.1 (fm_dec dtX11_lays 15 rfl) ?_
      refine pv_iload (pc := 22) (i := 4) rfl (fm_dec dtX11_lays 16 rfl) ?_
      refine pv_aloadn (pc := 24) (n := 0) 0 rfl rfl (fm_dec dtX11_lays 17 rfl) ?_
      refine pv_iloadn (pc := 25) (n := 3) 3 rfl rfl (fm_dec dtX11_lays 18 rfl) ?_
      refine pv_aald (k := 18) (n := 24) (r := (43 + k)) (pc := 26) (by decide) (Or.inr (Or.inr rfl)) rfl (rw_readFact.inb hk (by omega)) (rw_readFact.at hk (by omega)) (rw_readFact.2.2.2 k (by omega)).2.1 (fm_dec dtX11_lays 19 rfl) ?_
      refine pv_iload (pc := 27) (i := 4) rfl (fm_dec dtX11_lays 20 rfl) ?_
      refine pv_iald (k := (43 + k)) (n := 3) (pc := 29) (rw_readFact.2.2.2 k (by omega)).2.2.1 (rw_readFact.2.2.2 k (by omega)).2.2.2.1 (rw_readFact.2.2.2 k (by omega)).2.2.2.2 (fm_inl (by decide)) (fm_dec dtX11_lays 21 rfl) ?_
      refine pv_iast (k := (67 + k)) (n := 3) (pc := 30) (rw_fact.2.2.2 k (by omega)).2.2.1 (rw_fact.2.2.2 k (by omega)).2.2.2.1 (rw_fact.2.2.2 k (by omega)).2.2.2.2 (fm_inl (by decide)) (fm_dec dtX11_lays 22 rfl) ?_
      refine pv_iincc (pc := 31) 4 1 (by decide) rfl (by decide) rfl (fm_dec dtX11_lays 23 rfl) ?_
      dsimp only [List.set_cons_zero, List.set_cons_succ]
      rw [show (2 : Int32) + 1 = 3 by decide]
      refine pv_goto (pc := 34) 10 (by decide) (fm_dec dtX11_lays 24 rfl) ?_
      refine pv_iload (pc := 10) (i := 4) rfl (fm_dec dtX11_lays 7 rfl) ?_
      refine pv_aloadn (pc := 12) (n := 1) 1 rfl rfl (fm_dec dtX11_lays 8 rfl) ?_
      refine pv_iloadn (pc := 13) (n := 3) 3 rfl rfl (fm_dec dtX11_lays 9 rfl) ?_
      refine pv_aald (k := 19) (n := 24) (r := (67 + k)) (pc := 14) (by decide) (Or.inr (Or.inr rfl)) rfl (rw_fact.inb hk (by omega)) (rw_fact.at hk (by omega)) (rw_fact.2.2.2 k (by omega)).2.1 (fm_dec dtX11_lays 10 rfl) ?_
      refine pv_alenI (k := (67 + k)) (n := 3) (v := 3) (pc := 15) (rw_fact.2.2.2 k (by omega)).2.2.1 (rw_fact.2.2.2 k (by omega)).2.2.2.1 (rw_fact.2.2.2 k (by omega)).2.2.2.2 (by decide) (fm_dec dtX11_lays 11 rfl) ?_
      refine pv_icmp_ge (pc := 16) 37 (by decide) (fm_dec dtX11_lays 12 rfl) (fun _ => ?_) (fun hc16 => by exfalso; revert hc16; decide)
      refine pv_iincc (pc := 37) 3 1 (by decide) rfl (by decide) rfl (fm_dec dtX11_lays 25 rfl) ?_
      dsimp only [List.set_cons_zero, List.set_cons_succ]
      refine pv_goto (pc := 40) 2 (by decide) (fm_dec dtX11_lays 26 rfl) ?_
      refine ih (m - 1) (by omega) _ (k + 1) _ _ (i32_p1 hk (by omega)) (by omega) (fun M' h' => hq M' (h'.step (N := 24) (by omega) hN (by omega) (fun j hj => ?_) (fun q j hq9 => ?_) rfl))
      · rcases (show j = 0 ∨ j = 1 ∨ j = 2 by omega) with rfl | rfl | rfl <;> simp [fmI_at, show ¬ (43 + k = 67 + k) by omega]
      · simp [fmI_at, hq9]
theorem c_lays_fact {M : fmM} {Q : fmR → fmM → Prop} {many : Int32} {c : Nat} (hmany : many.toInt = c) (hN : c ≤ 24) (hq : ∀ M' : fmM, lyOk 43 67 3 0 c M M' → Q (.inl none) M') : pvGood Tm 0 qX11_lays [.ref 18, .ref 19, .int many] M Q := by
  refine pvGood_of (Nat.le_of_ble_eq_true rfl) ?_
  show pvEv Tm 0 qX11_lays 0 [some (.ref 18), some (.ref 19), some (.int many), none, none] [] M Q
  refine pv_iconst (pc := 0) (v := 0) (by decide) (fm_dec dtX11_lays 0 rfl) ?_
  refine pv_istoren (pc := 1) (n := 3) 3 rfl (by decide) rfl (fm_dec dtX11_lays 1 rfl) ?_
  exact ly_fact hmany hN c M 0 0 none (by decide) (by omega) hq
set_option maxRecDepth 20000 in
theorem ly_page {Q : fmR → fmM → Prop} {many : Int32} {c : Nat} (hmany : many.toInt = c) (hN : c ≤ 6) : ∀ (m : Nat) (M : fmM) (k : Nat) (kk : Int32) (v4 : Option Value), kk.toInt = k → k + m = c → (∀ M' : fmM, lyOk 417 411 2 k c M M' → Q (.inl none) M') → pvEv Tm 0 qX11_lays 2 [some (.ref 23), some (.ref 22), some (.int many), some (.int kk), v4] [] M Q := by
  intro m
  induction m using Nat.strongRecOn with
  | _ m ih =>
    intro M k kk v4 hk hm hq
    refine pv_iloadn (pc := 2) (n := 3) 3 rfl rfl (fm_dec dtX11_lays 2 rfl) ?_
    refine pv_iloadn (pc := 3) (n := 2) 2 rfl rfl (fm_dec dtX11_lays 3 rfl) ?_
    refine pv_icmp_ge (pc := 4) 43 (by decide) (fm_dec dtX11_lays 4 rfl) (fun hc4 => ?_) (fun hc4 => ?_)
    · exact pv_return (pc := 43) rfl (fm_dec dtX11_lays 27 rfl) (hq M (by have : k = c := (by rw [sc_le] at hc4; omega); subst this; exact lyOk.nil))
    · have hkc : k < c := (by rw [sc_le] at hc4; omega)
      refine pv_iconst (pc := 7) (v := 0) (by decide) (fm_dec dtX11_lays 5 rfl) ?_
      refine pv_istore (pc := 8) (i := 4) (by decide) rfl (fm_dec dtX11_lays 6 rfl) ?_
      dsimp only [List.set_cons_zero, List.set_cons_succ]
      refine pv_iload (pc := 10) (i := 4) rfl (fm_dec dtX11_lays 7 rfl) ?_
      refine pv_aloadn (pc := 12) (n := 1) 1 rfl rfl (fm_dec dtX11_lays 8 rfl) ?_
      refine pv_iloadn (pc := 13) (n := 3) 3 rfl rfl (fm_dec dtX11_lays 9 rfl) ?_
      refine pv_aald (k := 22) (n := 6) (r := (411 + k)) (pc := 14) (by decide) (Or.inr (Or.inr rfl)) rfl (rw_page.inb hk (by omega)) (rw_page.at hk (by omega)) (rw_page.2.2.2 k (by omega)).2.1 (fm_dec dtX11_lays 10 rfl) ?_
      refine pv_alenI (k := (411 + k)) (n := 2) (v := 2) (pc := 15) (rw_page.2.2.2 k (by omega)).2.2.1 (rw_page.2.2.2 k (by omega)).2.2.2.1 (rw_page.2.2.2 k (by omega)).2.2.2.2 (by decide) (fm_dec dtX11_lays 11 rfl) ?_
      refine pv_icmp_ge (pc := 16) 37 (by decide) (fm_dec dtX11_lays 12 rfl) (fun hc16 => by exfalso; revert hc16; decide) (fun _ => ?_)
      refine pv_aloadn (pc := 19) (n := 1) 1 rfl rfl (fm_dec dtX11_lays 13 rfl) ?_
      refine pv_iloadn (pc := 20) (n := 3) 3 rfl rfl (fm_dec dtX11_lays 14 rfl) ?_
      refine pv_aald (k := 22) (n := 6) (r := (411 + k)) (pc := 21) (by decide) (Or.inr (Or.inr rfl)) rfl (rw_page.inb hk (by omega)) (rw_page.at hk (by omega)) (rw_page.2.2.2 k (by omega)).2.1 (fm_dec dtX11_lays 15 rfl) ?_
      refine pv_iload (pc := 22) (i := 4) rfl (fm_dec dtX11_lays 16 rfl) ?_
      refine pv_aloadn (pc := 24) (n := 0) 0 rfl rfl (fm_dec dtX11_lays 17 rfl) ?_
      refine pv_iloadn (pc := 25) (n := 3) 3 rfl rfl (fm_dec dtX11_lays 18 rfl) ?_
      refine pv_aald (k := 23) (n := 6) (r := (417 + k)) (pc := 26) (by decide) (Or.inr (Or.inr rfl)) rfl (rw_readPage.inb hk (by omega)) (rw_readPage.at hk (by omega)) (rw_readPage.2.2.2 k (by omega)).2.1 (fm_dec dtX11_lays 19 rfl) ?_
      refine pv_iload (pc := 27) (i := 4) rfl (fm_dec dtX11_lays 20 rfl) ?_
      refine pv_iald (k := (417 + k)) (n := 2) (pc := 29) (rw_readPage.2.2.2 k (by omega)).2.2.1 (rw_readPage.2.2.2 k (by omega)).2.2.2.1 (rw_readPage.2.2.2 k (by omega)).2.2.2.2 (fm_inl (by decide)) (fm_dec dtX11_lays 21 rfl) ?_
      refine pv_iast (k := (411 + k)) (n := 2) (pc := 30) (rw_page.2.2.2 k (by omega)).2.2.1 (rw_page.2.2.2 k (by omega)).2.2.2.1 (rw_page.2.2.2 k (by omega)).2.2.2.2 (fm_inl (by decide)) (fm_dec dtX11_lays 22 rfl) ?_
      refine pv_iincc (pc := 31) 4 1 (by decide) rfl (by decide) rfl (fm_dec dtX11_lays 23 rfl) ?_
      dsimp only [List.set_cons_zero, List.set_cons_succ]
      rw [show (0 : Int32) + 1 = 1 by decide]
      refine pv_goto (pc := 34) 10 (by decide) (fm_dec dtX11_lays 24 rfl) ?_
      refine pv_iload (pc := 10) (i := 4) rfl (fm_dec dtX11_lays 7 rfl) ?_
      refine pv_aloadn (pc := 12) (n := 1) 1 rfl rfl (fm_dec dtX11_lays 8 rfl) ?_
      refine pv_iloadn (pc := 13) (n := 3) 3 rfl rfl (fm_dec dtX11_lays 9 rfl) ?_
      refine pv_aald (k := 22) (n := 6) (r := (411 + k)) (pc := 14) (by decide) (Or.inr (Or.inr rfl)) rfl (rw_page.inb hk (by omega)) (rw_page.at hk (by omega)) (rw_page.2.2.2 k (by omega)).2.1 (fm_dec dtX11_lays 10 rfl) ?_
      refine pv_alenI (k := (411 + k)) (n := 2) (v := 2) (pc := 15) (rw_page.2.2.2 k (by omega)).2.2.1 (rw_page.2.2.2 k (by omega)).2.2.2.1 (rw_page.2.2.2 k (by omega)).2.2.2.2 (by decide) (fm_dec dtX11_lays 11 rfl) ?_
      refine pv_icmp_ge (pc := 16) 37 (by decide) (fm_dec dtX11_lays 12 rfl) (fun hc16 => by exfalso; revert hc16; decide) (fun _ => ?_)
      refine pv_aloadn (pc := 19) (n := 1) 1 rfl rfl (fm_dec dtX11_lays 13 rfl) ?_
      refine pv_iloadn (pc := 20) (n := 3) 3 rfl rfl (fm_dec dtX11_lays 14 rfl) ?_
      refine pv_aald (k := 22) (n := 6) (r := (411 + k)) (pc := 21) (by decide) (Or.inr (Or.inr rfl)) rfl (rw_page.inb hk (by omega)) (rw_page.at hk (by omega)) (rw_page.2.2.2 k (by omega)).2.1 (fm_dec dtX11_lays 15 rfl) ?_
      refine pv_iload (pc := 22) (i := 4) rfl (fm_dec dtX11_lays 16 rfl) ?_
      refine pv_aloadn (pc := 24) (n := 0) 0 rfl rfl (fm_dec dtX11_lays 17 rfl) ?_
      refine pv_iloadn (pc := 25) (n := 3) 3 rfl rfl (fm_dec dtX11_lays 18 rfl) ?_
      refine pv_aald (k := 23) (n := 6) (r := (417 + k)) (pc := 26) (by decide) (Or.inr (Or.inr rfl)) rfl (rw_readPage.inb hk (by omega)) (rw_readPage.at hk (by omega)) (rw_readPage.2.2.2 k (by omega)).2.1 (fm_dec dtX11_lays 19 rfl) ?_
      refine pv_iload (pc := 27) (i := 4) rfl (fm_dec dtX11_lays 20 rfl) ?_
      refine pv_iald (k := (417 + k)) (n := 2) (pc := 29) (rw_readPage.2.2.2 k (by omega)).2.2.1 (rw_readPage.2.2.2 k (by omega)).2.2.2.1 (rw_readPage.2.2.2 k (by omega)).2.2.2.2 (fm_inl (by decide)) (fm_dec dtX11_lays 21 rfl) ?_
      refine pv_iast (k := (411 + k)) (n := 2) (pc := 30) (rw_page.2.2.2 k (by omega)).2.2.1 (rw_page.2.2.2 k (by omega)).2.2.2.1 (rw_page.2.2.2 k (by omega)).2.2.2.2 (fm_inl (by decide)) (fm_dec dtX11_lays 22 rfl) ?_
      refine pv_iincc (pc := 31) 4 1 (by decide) rfl (by decide) rfl (fm_dec dtX11_lays 23 rfl) ?_
      dsimp only [List.set_cons_zero, List.set_cons_succ]
      rw [show (1 : Int32) + 1 = 2 by decide]
      refine pv_goto (pc := 34) 10 (by decide) (fm_dec dtX11_lays 24 rfl) ?_
      refine pv_iload (pc := 10) (i := 4) rfl (fm_dec dtX11_lays 7 rfl) ?_
      refine pv_aloadn (pc := 12) (n := 1) 1 rfl rfl (fm_dec dtX11_lays 8 rfl) ?_
      refine pv_iloadn (pc := 13) (n := 3) 3 rfl rfl (fm_dec dtX11_lays 9 rfl) ?_
      refine pv_aald (k := 22) (n := 6) (r := (411 + k)) (pc := 14) (by decide) (Or.inr (Or.inr rfl)) rfl (rw_page.inb hk (by omega)) (rw_page.at hk (by omega)) (rw_page.2.2.2 k (by omega)).2.1 (fm_dec dtX11_lays 10 rfl) ?_
      refine pv_alenI (k := (411 + k)) (n := 2) (v := 2) (pc := 15) (rw_page.2.2.2 k (by omega)).2.2.1 (rw_page.2.2.2 k (by omega)).2.2.2.1 (rw_page.2.2.2 k (by omega)).2.2.2.2 (by decide) (fm_dec dtX11_lays 11 rfl) ?_
      refine pv_icmp_ge (pc := 16) 37 (by decide) (fm_dec dtX11_lays 12 rfl) (fun _ => ?_) (fun hc16 => by exfalso; revert hc16; decide)
      refine pv_iincc (pc := 37) 3 1 (by decide) rfl (by decide) rfl (fm_dec dtX11_lays 25 rfl) ?_
      dsimp only [List.set_cons_zero, List.set_cons_succ]
      refine pv_goto (pc := 40) 2 (by decide) (fm_dec dtX11_lays 26 rfl) ?_
      refine ih (m - 1) (by omega) _ (k + 1) _ _ (i32_p1 hk (by omega)) (by omega) (fun M' h' => hq M' (h'.step (N := 6) (by omega) hN (by omega) (fun j hj => ?_) (fun q j hq9 => ?_) rfl))
      · rcases (show j = 0 ∨ j = 1 by omega) with rfl | rfl <;> simp [fmI_at, show ¬ (417 + k = 411 + k) by omega]
      · simp [fmI_at, hq9]
theorem c_lays_page {M : fmM} {Q : fmR → fmM → Prop} {many : Int32} {c : Nat} (hmany : many.toInt = c) (hN : c ≤ 6) (hq : ∀ M' : fmM, lyOk 417 411 2 0 c M M' → Q (.inl none) M') : pvGood Tm 0 qX11_lays [.ref 23, .ref 22, .int many] M Q := by
  refine pvGood_of (Nat.le_of_ble_eq_true rfl) ?_
  show pvEv Tm 0 qX11_lays 0 [some (.ref 23), some (.ref 22), some (.int many), none, none] [] M Q
  refine pv_iconst (pc := 0) (v := 0) (by decide) (fm_dec dtX11_lays 0 rfl) ?_
  refine pv_istoren (pc := 1) (n := 3) 3 rfl (by decide) rfl (fm_dec dtX11_lays 1 rfl) ?_
  exact ly_page hmany hN c M 0 0 none (by decide) (by omega) hq
set_option maxRecDepth 20000 in
theorem c_number1 {M : fmM} {Q : fmR → fmM → Prop} {lo hi : Int32} (hf : ¬ M.1 0 5 = 0) (hq : Q (.inl (some (.int 0))) M) : pvGood Tm 2 qX11_number [.ref 0, .int lo, .int hi] M Q := by
  refine pvGood_of (Nat.le_of_ble_eq_true rfl) ?_
  show pvEv Tm 2 qX11_number 0 [some (.ref 0), some (.int lo), some (.int hi), none, none] [] M Q
  refine pv_aloadn (pc := 0) (n := 0) 0 rfl rfl (fm_dec dtX11_number 0 rfl) ?_
  refine pv_getI (k := 0) (j := 5) (ci := 11) (pc := 1) pfl_X11_117 (by decide) rfl (by decide) (fm_dec dtX11_number 1 rfl) ?_
  refine pv_if_eq (pc := 4) 9 (by decide) (fm_dec dtX11_number 2 rfl) (fun hc4 => by exfalso; exact hf hc4) (fun _ => ?_)
  refine pv_iconst (pc := 7) (v := 0) (by decide) (fm_dec dtX11_number 3 rfl) ?_
  exact pv_ireturn (pc := 8) rfl (fm_dec dtX11_number 4 rfl) hq
end
-- P 11f
section
-- THE REFERENCE: law, page
/-- the text of the first n bytes that were fed -/
def rT (M : fmM) (n : Nat) : tX := fun i => if i < n then (M.1 1 i).toInt else -1
def rFed (M : fmM) : Prop := ∀ i, i < 600 → 0 ≤ (M.1 1 i).toInt ∧ (M.1 1 i).toInt ≤ 255
theorem rT_ok {M : fmM} {n : Nat} (h : rFed M) (hn : n ≤ 600) : tOk (rT M n) n := by
  refine ⟨hn, fun i hi => ?_, fun i hi => ?_⟩
  · unfold rT
    rw [if_neg (by omega)]
  · unfold rT
    rw [if_pos hi]
    exact h i (by omega)
/-- a reading has begun -/
def stOk (M M' : fmM) (tx : tX) (n : Nat) : Prop := rS M' tx n (sk tx 0) ∧ M'.1 0 5 = 0 ∧ M'.1 0 8 = 0 ∧ M'.1 0 7 = 0 ∧ M'.1 0 1 = 0 ∧ M'.1 0 6 = -1 ∧ (∀ k j, k ≠ 0 → M'.1 k j = M.1 k j) ∧ (∀ j, j ≠ 1 → j ≠ 2 → j ≠ 4 → j ≠ 5 → j ≠ 6 → j ≠ 7 → j ≠ 8 → M'.1 0 j = M.1 0 j) ∧ M'.2 = M.2
def stU (M : fmM) (x : Int32) : fmM := fmI (fmI (fmI (fmI (fmI (fmI (fmI M 0 1 0) 0 2 x) 0 4 0) 0 5 0) 0 6 (-1)) 0 7 0) 0 8 0
theorem stU_S {M : fmM} {x : Int32} {n : Nat} (h : rFed M) (hn : n ≤ 600) (hx : x.toInt = n) : rS (stU M x) (rT M n) n 0 := by
  refine ⟨hx, (show (0 : Int32).toInt = 0 by decide), Nat.zero_le _, rT_ok h hn, fun i hi => ?_⟩
  show (M.1 1 i).toInt = rT M n i
  unfold rT
  rw [if_pos hi]
theorem stU_ok {M : fmM} {x y : Int32} {n : Nat} (h : rFed M) (hn : n ≤ 600) (hx : x.toInt = n) (hy : y.toInt = sk (rT M n) 0) : stOk M (fmI (stU M x) 0 4 y) (rT M n) n := by
  refine ⟨(stU_S h hn hx).bl hy, rfl, rfl, rfl, rfl, rfl, fun k j hk => ?_, fun j a b c d e f g => ?_, rfl⟩
  · unfold stU
    simp only [fmI_at, hk, false_and, if_false]
  · unfold stU
    simp only [fmI_at, a, b, c, d, e, f, g, and_false, if_false]
def spLaw (tx : tX) (n : Nat) : (Nat × Nat) ⊕ tC := match spL tx 700 0 0 (sk tx 0) with
  | .inl e => .inl e
  | .inr (cs, q) => if sk tx q < n then .inl (1, sk tx q) else .inr cs
/-- a refused call -/
def rfM (M : fmM) (w : Int32) (r : Nat) : fmM := fmI (fmI (fmI M 0 0 0) 0 0 w) 2 r (M.1 2 r + 1)
/-- behind a text: what the text says beside -/
def txB (M : fmM) : Prop := M.1 0 0 = 0 ∧ M.1 0 1 = 0
def lawFr (M M' : fmM) : Prop := (∀ k j, k ≠ 0 → ¬ (91 ≤ k ∧ k < 411) → M'.1 k j = M.1 k j) ∧ (∀ j, 9 ≤ j → j ≠ 17 → j ≠ 18 → M'.1 0 j = M.1 0 j) ∧ M'.2 = M.2
def lawOk (M M' : fmM) (cs : tC) : Prop := txB M' ∧ M'.1 0 3 = -1 ∧ (M'.1 0 17).toInt = (cs.length : Int) ∧ cs.length ≤ 150 ∧ lwHas M'.1 91 cs ∧ lawFr M M'
def lawBad (M M' : fmM) (a : Nat) : Prop := txB M' ∧ (M'.1 0 3).toInt = a ∧ a ≤ 600 ∧ M'.1 0 17 = M.1 0 17 ∧ (∀ k j, 91 ≤ k → k < 251 → M'.1 k j = M.1 k j) ∧ lawFr M M'
/-- kinds of faults -/
theorem spL_bad {tx : tX} {n : Nat} (ht : tOk tx n) : ∀ (f md o p k a : Nat), p ≤ n → spL tx f md o p = .inl (k, a) → (k = 9 ∧ a = 0) ∨ ((1 ≤ k ∧ k ≤ 3) ∧ a ≤ n) := by
  intro f
  induction f with
  | zero =>
    intro md o p k a _ h
    injection h with h
    injection h with h1 h2
    exact Or.inl ⟨h1.symm, h2.symm⟩
  | succ f ih =>
    have hsk : ∀ p, p ≤ n → sk tx p ≤ n := fun p h => sp_le tB_1 ht h
    have bnd : ∀ {α β : Type} {r : tR α} {g : α → Nat → tR β} {k a : Nat}, spBind r g = .inl (k, a) → r = .inl (k, a) ∨ ∃ v q, r = .inr (v, q) ∧ g v q = .inl (k, a) := by
      intro α β r g k a h
      unfold spBind at h
      split at h
      · rename_i e
        cases h
        exact Or.inl rfl
      · exact Or.inr ⟨_, _, rfl, h⟩
    have app : ∀ (m1 m2 o p k a : Nat), p ≤ n → spApp (spL tx f m1 o p) (fun q => spL tx f m2 o q) = .inl (k, a) → (k = 9 ∧ a = 0) ∨ ((1 ≤ k ∧ k ≤ 3) ∧ a ≤ n) := by
      intro m1 m2 o p k a hp h
      rcases bnd h with h | ⟨cs, q, e, h⟩
      · exact ih _ _ _ _ _ hp h
      · have l := spL_len ht _ _ _ _ _ _ hp e
        rcases bnd h with h | ⟨ds, q2, e2, h⟩
        · exact ih _ _ _ _ _ l.2.1 h
        · cases h
    have op : ∀ (c m1 m2 o p k a : Nat), p ≤ n → spOp c (spL tx f m1 o p) (fun q => spL tx f m2 o q) = .inl (k, a) → (k = 9 ∧ a = 0) ∨ ((1 ≤ k ∧ k ≤ 3) ∧ a ≤ n) := by
      intro c m1 m2 o p k a hp h
      rcases bnd h with h | ⟨cs, q, e, h⟩
      · exact ih _ _ _ _ _ hp h
      · have l := spL_len ht _ _ _ _ _ _ hp e
        rcases bnd h with h | ⟨ds, q2, e2, h⟩
        · exact ih _ _ _ _ _ l.2.1 h
        · cases h
    have inn : ∀ (c : Int) (p : Nat), p ≤ n → 0 ≤ c → tx p = c → p + 1 ≤ n := by
      intro c p hp hc e
      by_cases e2 : p < n
      · exact e2
      · rw [ht.2.1 _ (by omega)] at e
        omega
    have lp : ∀ (c1 c2 : Int) (k1 k2 m1 m2 o p k a : Nat), 0 ≤ c1 → 0 ≤ c2 → p ≤ n → spLp tx c1 c2 k1 k2 (sk tx p) (fun q => spL tx f m1 o q) (fun q => spL tx f m2 o q) = .inl (k, a) → (k = 9 ∧ a = 0) ∨ ((1 ≤ k ∧ k ≤ 3) ∧ a ≤ n) := by
      intro c1 c2 k1 k2 m1 m2 o p k a h1 h2 hp h
      unfold spLp at h
      split at h
      · rename_i e
        exact op _ _ _ _ _ _ _ (inn c1 _ (hsk p hp) h1 e) h
      · split at h
        · rename_i e
          exact op _ _ _ _ _ _ _ (inn c2 _ (hsk p hp) h2 e) h
        · cases h
    have three : ∀ {a k b : Nat} {α : Type}, (.inl (3, a) : tR α) = .inl (k, b) → a ≤ n → (k = 9 ∧ b = 0) ∨ ((1 ≤ k ∧ k ≤ 3) ∧ b ≤ n) := by
      intro a k b α h ha
      injection h with h
      injection h with h1 h2
      omega
    have sgn : ∀ {c : Int} {p k a : Nat}, p ≤ n → spSign tx c p = .inl (k, a) → (k = 9 ∧ a = 0) ∨ ((1 ≤ k ∧ k ≤ 3) ∧ a ≤ n) := by
      intro c p k a hp h
      have := spSign_bad ht hp h
      omega
    have one : ∀ (o p k a : Nat), p ≤ n → spOne tx (fun q => spL tx f 0 (o + 1) q) o (sk tx p) = .inl (k, a) → (k = 9 ∧ a = 0) ∨ ((1 ≤ k ∧ k ≤ 3) ∧ a ≤ n) := by
      intro o p k a hp h
      have s2 := hsk p hp
      have w2 := sp_le (p := sk tx p) tW_1 ht s2
      have two : ∀ c, spTwo tx (fun q => spL tx f 0 (o + 1) q) c (sp tW tx (sk tx p)) = .inl (k, a) → (k = 9 ∧ a = 0) ∨ ((1 ≤ k ∧ k ≤ 3) ∧ a ≤ n) := by
        intro c h
        rcases bnd h with h | ⟨u1, q1, e1, h⟩
        · exact sgn w2 h
        have a1 := spSign_ok ht w2 (by omega) e1
        rcases bnd h with h | ⟨c2, q2, e2, h⟩
        · exact ih _ _ _ _ _ a1.2 h
        have a2 := spL_len ht _ _ _ _ _ _ a1.2 e2
        rcases bnd h with h | ⟨u3, q3, e3, h⟩
        · exact sgn a2.2.1 h
        have a3 := spSign_ok ht a2.2.1 (by omega) e3
        rcases bnd h with h | ⟨c4, q4, e4, h⟩
        · exact ih _ _ _ _ _ a3.2 h
        have a4 := spL_len ht _ _ _ _ _ _ a3.2 e4
        rcases bnd h with h | ⟨u5, q5, e5, h⟩
        · exact sgn a4.2.1 h
        cases h
      unfold spOne at h
      split at h
      · split at h
        · exact three h s2
        · exact two 6 h
      · split at h
        · split at h
          · exact three h s2
          · exact two 7 h
        · split at h
          · rename_i e
            split at h
            · exact three h s2
            · have l1 := inn 40 _ s2 (by omega) e
              rcases bnd h with h | ⟨c1, q1, e1, h⟩
              · exact ih _ _ _ _ _ l1 h
              have a1 := spL_len ht _ _ _ _ _ _ l1 e1
              rcases bnd h with h | ⟨u5, q5, e5, h⟩
              · exact sgn a1.2.1 h
              cases h
          · split at h
            · cases h
            · rcases bnd h with h | ⟨v1, q1, e1, h⟩
              · have := spNum_bad ht s2 h
                omega
              · cases h
    intro md o p k a hp h
    match md with
    | 0 => exact app 1 3 o p k a hp h
    | 1 => exact app 2 4 o p k a hp h
    | 2 => exact one o p k a hp h
    | 3 => exact lp 43 45 2 3 1 3 o p k a (by omega) (by omega) hp h
    | md + 4 => exact lp 42 47 4 5 2 4 o p k a (by omega) (by omega) hp h
theorem dpR_app : ∀ (cs ds : tC) (d e : Nat), dpR d cs = some e → dpR d (cs ++ ds) = dpR e ds
  | [], ds, d, e, h => by
    cases h
    rfl
  | c :: cs, ds, d, e, h => by
    simp only [dpR, List.cons_append] at h ⊢
    split at h
    · rename_i h1
      rw [if_pos h1]
      split at h
      · cases h
      · rename_i h2
        rw [if_neg h2]
        exact dpR_app cs ds _ _ h
    · rename_i h1
      rw [if_neg h1]
      split at h
      · rename_i h2
        rw [if_pos h2]
        exact dpR_app cs ds _ _ h
      · cases h
/-- what is read is well-formed -/
theorem spL_wf {tx : tX} : ∀ (f md o p q : Nat) (cs : tC), spL tx f md o p = .inr (cs, q) → ∀ d, (md < 3 → dpR d cs = some (d + 1)) ∧ (3 ≤ md → dpR (d + 1) cs = some (d + 1)) := by
  intro f
  induction f with
  | zero => intro md o p q cs h; cases h
  | succ f ih =>
    have app : ∀ (m1 m2 o p q : Nat) (cs : tC), m1 < 3 → 3 ≤ m2 → spApp (spL tx f m1 o p) (fun q => spL tx f m2 o q) = .inr (cs, q) → ∀ d, dpR d cs = some (d + 1) := by
      intro m1 m2 o p q cs h1 h2 h d
      obtain ⟨c1, q1, e1, h⟩ := spBind_ok h
      obtain ⟨c2, q2, e2, h⟩ := spBind_ok h
      cases h
      rw [dpR_app _ _ _ _ ((ih _ _ _ _ _ e1 d).1 h1)]
      exact (ih _ _ _ _ _ e2 d).2 h2
    have op : ∀ (c m1 m2 o p q : Nat) (cs : tC), 2 ≤ c → m1 < 3 → 3 ≤ m2 → spOp c (spL tx f m1 o p) (fun q => spL tx f m2 o q) = .inr (cs, q) → ∀ d, dpR (d + 1) cs = some (d + 1) := by
      intro c m1 m2 o p q cs hc h1 h2 h d
      obtain ⟨c1, q1, e1, h⟩ := spBind_ok h
      obtain ⟨c2, q2, e2, h⟩ := spBind_ok h
      cases h
      rw [dpR_app _ _ _ _ ((ih _ _ _ _ _ e1 (d + 1)).1 h1)]
      simp only [dpR]
      rw [if_neg (by omega), if_pos (by omega)]
      exact (ih _ _ _ _ _ e2 d).2 h2
    have lp : ∀ (c1 c2 : Int) (k1 k2 m1 m2 o a q : Nat) (cs : tC), 2 ≤ k1 → 2 ≤ k2 → m1 < 3 → 3 ≤ m2 → spLp tx c1 c2 k1 k2 a (fun q => spL tx f m1 o q) (fun q => spL tx f m2 o q) = .inr (cs, q) → ∀ d, dpR (d + 1) cs = some (d + 1) := by
      intro c1 c2 k1 k2 m1 m2 o a q cs hk1 hk2 h1 h2 h d
      unfold spLp at h
      split at h
      · exact op _ _ _ _ _ _ _ hk1 h1 h2 h d
      · split at h
        · exact op _ _ _ _ _ _ _ hk2 h1 h2 h d
        · cases h
          rfl
    have one : ∀ (o a q : Nat) (cs : tC), spOne tx (fun q => spL tx f 0 (o + 1) q) o a = .inr (cs, q) → ∀ d, dpR d cs = some (d + 1) := by
      intro o a q cs h d
      have two : ∀ c q0, 2 ≤ c → spTwo tx (fun q => spL tx f 0 (o + 1) q) c q0 = .inr (cs, q) → dpR d cs = some (d + 1) := by
        intro c q0 hc h
        obtain ⟨u1, q1, e1, h⟩ := spBind_ok h
        obtain ⟨c2, q2, e2, h⟩ := spBind_ok h
        obtain ⟨u3, q3, e3, h⟩ := spBind_ok h
        obtain ⟨c4, q4, e4, h⟩ := spBind_ok h
        obtain ⟨u5, q5, e5, h⟩ := spBind_ok h
        cases h
        rw [List.append_assoc, dpR_app _ _ _ _ ((ih _ _ _ _ _ e2 d).1 (by omega)), dpR_app _ _ _ _ ((ih _ _ _ _ _ e4 (d + 1)).1 (by omega))]
        simp only [dpR]
        rw [if_neg (by omega), if_pos (by omega)]
        rfl
      unfold spOne at h
      split at h
      · split at h
        · cases h
        · exact two 6 _ (by omega) h
      · split at h
        · split at h
          · cases h
          · exact two 7 _ (by omega) h
        · split at h
          · split at h
            · cases h
            · obtain ⟨c1, q1, e1, h⟩ := spBind_ok h
              obtain ⟨u2, q2, e2, h⟩ := spBind_ok h
              cases h
              exact (ih _ _ _ _ _ e1 d).1 (by omega)
          · split at h
            · rename_i k hk
              cases h
              have : k ≤ 4 := by
                unfold lwK at hk
                repeat' split at hk
                all_goals (cases hk; try omega)
              simp only [dpR]
              rw [if_pos (by omega), if_neg (by omega)]
            · obtain ⟨v1, q1, e1, h⟩ := spBind_ok h
              cases h
              simp only [dpR]
              rw [if_pos (by omega), if_neg (by omega)]
    intro md o p q cs h d
    match md with
    | 0 => exact ⟨fun _ => app 1 3 o p q cs (by omega) (by omega) h d, fun h => by omega⟩
    | 1 => exact ⟨fun _ => app 2 4 o p q cs (by omega) (by omega) h d, fun h => by omega⟩
    | 2 => exact ⟨fun _ => one o _ q cs h d, fun h => by omega⟩
    | 3 => exact ⟨fun h => by omega, fun _ => lp 43 45 2 3 1 3 o _ q cs (by omega) (by omega) (by omega) (by omega) h d⟩
    | md + 4 => exact ⟨fun h => by omega, fun _ => lp 42 47 4 5 2 4 o _ q cs (by omega) (by omega) (by omega) (by omega) h d⟩
theorem lwFr.row {m : Nat} {M M' : fmM} (h : lwFr m M M') {k j : Nat} (hk : k ≠ 0) (hr : ¬ (251 ≤ k ∧ k < 411)) : M'.1 k j = M.1 k j := h.1 k j hk (by omega)
/-- from the reading of a law to its end -/
theorem law_bad {M M1 M2 M3 : fmM} {tx : tX} {n k a : Nat} (h0 : stOk (fmI M 0 0 0) M1 tx n) (h1 : lwFr 0 (fmI M1 0 18 0) M2) (hS : ∃ q, rS M2 tx n q) (hk : (M2.1 0 5).toInt = k) (ha : (M2.1 0 6).toInt = a) (hk3 : k ≤ 3) (han : a ≤ n) (hn : n ≤ 150) (e3 : M3 = fmI M2 0 3 (M2.1 0 6)) : lawBad M M3 a := by
  obtain ⟨q, hS⟩ := hS
  have s1 := hS.1
  have s2 := hS.2.1
  have s3 := hS.2.2.1
  have fr : ∀ j, j ≠ 4 → j ≠ 5 → j ≠ 6 → j ≠ 8 → j ≠ 18 → M2.1 0 j = M1.1 0 j := fun j a b c d e => by
    rw [h1.2.1 j a b c d e, fmI_j _ _ e]
  have fr0 : ∀ j, j ≠ 1 → j ≠ 2 → j ≠ 4 → j ≠ 5 → j ≠ 6 → j ≠ 7 → j ≠ 8 → M1.1 0 j = (fmI M 0 0 0).1 0 j := h0.2.2.2.2.2.2.2.1
  have frk : ∀ k j, k ≠ 0 → ¬ (251 ≤ k ∧ k < 411) → M2.1 k j = M.1 k j := fun k j hk hr => by
    rw [h1.1 k j hk (by omega), fmI_k _ _ hk, h0.2.2.2.2.2.2.1 k j hk, fmI_k _ _ hk]
  subst e3
  refine ⟨⟨?_, ?_⟩, ?_, by omega, ?_, ?_, ?_, ?_, ?_⟩
  · rw [fmI_j _ _ (by decide), fr 0 (by decide) (by decide) (by decide) (by decide) (by decide), fr0 0 (by decide) (by decide) (by decide) (by decide) (by decide) (by decide) (by decide), fmI_s]
  · rw [fmI_j _ _ (by decide), fr 1 (by decide) (by decide) (by decide) (by decide) (by decide)]
    exact h0.2.2.2.2.1
  · rw [fmI_s]
    exact ha
  · rw [fmI_j _ _ (by decide), fr 17 (by decide) (by decide) (by decide) (by decide) (by decide), fr0 17 (by decide) (by decide) (by decide) (by decide) (by decide) (by decide) (by decide), fmI_j _ _ (by decide)]
  · intro k j h1 h2
    rw [fmI_k _ _ (by omega), frk k j (by omega) (by omega)]
  · intro k j h1 h2
    rw [fmI_k _ _ h1, frk k j h1 (by omega)]
  · intro j h9 h17 h18
    rw [fmI_j _ _ (by omega), fr j (by omega) (by omega) (by omega) (by omega) (by omega), fr0 j (by omega) (by omega) (by omega) (by omega) (by omega) (by omega) (by omega), fmI_j _ _ (by omega)]
  · show M2.2 = M.2
    rw [h1.2.2]
    exact h0.2.2.2.2.2.2.2.2
theorem law_ok {M M1 M2 M4 : fmM} {tx : tX} {n q : Nat} {cs : tC} {x : Int32} (h0 : stOk (fmI M 0 0 0) M1 tx n) (h1 : lwOk (fmI M1 0 18 0) M2 tx n q 0 cs) (hq : q ≤ n) (hx : x.toInt = sk tx q) (hl : cs.length ≤ n) (hn : n ≤ 150) (h4 : lyOk 251 91 2 0 cs.length (fmI (fmI (fmI M2 0 4 x) 0 3 (-1)) 0 17 (M2.1 0 18)) M4) : lawOk M M4 cs := by
  obtain ⟨k1, k2, k3, k4, k5, k6⟩ := h1
  have s1 := k1.1
  have s6 := sp_le tB_1 k1.2.2.2.1 hq
  have fr : ∀ j, j ≠ 4 → j ≠ 5 → j ≠ 6 → j ≠ 8 → j ≠ 18 → M2.1 0 j = M1.1 0 j := fun j a b c d e => by
    rw [k6.2.1 j a b c d e, fmI_j _ _ e]
  have fr0 : ∀ j, j ≠ 1 → j ≠ 2 → j ≠ 4 → j ≠ 5 → j ≠ 6 → j ≠ 7 → j ≠ 8 → M1.1 0 j = (fmI M 0 0 0).1 0 j := h0.2.2.2.2.2.2.2.1
  have frk : ∀ k j, k ≠ 0 → ¬ (251 ≤ k ∧ k < 411) → M2.1 k j = M.1 k j := fun k j hk hr => by
    rw [k6.1 k j hk (by omega), fmI_k _ _ hk, h0.2.2.2.2.2.2.1 k j hk, fmI_k _ _ hk]
  have g0 : ∀ j, M4.1 0 j = (fmI (fmI (fmI M2 0 4 x) 0 3 (-1)) 0 17 (M2.1 0 18)).1 0 j := fun j => h4.2.1 0 j (by omega)
  have ga : ∀ j, j ≠ 17 → j ≠ 3 → j ≠ 4 → M4.1 0 j = M2.1 0 j := fun j a b c => by rw [g0, fmI_j _ _ a, fmI_j _ _ b, fmI_j _ _ c]
  refine ⟨⟨?_, ?_⟩, ?_, ?_, by omega, ?_, ?_, ?_, ?_⟩
  · rw [ga 0 (by decide) (by decide) (by decide), fr 0 (by decide) (by decide) (by decide) (by decide) (by decide), fr0 0 (by decide) (by decide) (by decide) (by decide) (by decide) (by decide) (by decide), fmI_s]
  · rw [ga 1 (by decide) (by decide) (by decide), fr 1 (by decide) (by decide) (by decide) (by decide) (by decide)]
    exact h0.2.2.2.2.1
  · exact g0 3
  · have e : M4.1 0 17 = M2.1 0 18 := g0 17
    rw [e, k4]
    omega
  · intro i c hi
    have hl : i < cs.length := (List.getElem?_eq_some_iff.mp hi).1
    have := k5 i c hi
    rw [h4.1 i 0 (Nat.zero_le _) hl (by omega), h4.1 i 1 (Nat.zero_le _) hl (by omega), fmI_k _ _ (by omega), fmI_k _ _ (by omega), fmI_k _ _ (by omega)]
    rw [show 251 + 0 + i = 251 + i by omega] at this
    exact this
  · intro k j h1 h2
    rw [h4.2.1 k j (by omega), fmI_k _ _ h1, fmI_k _ _ h1, fmI_k _ _ h1, frk k j h1 (by omega)]
  · intro j h9 h17 h18
    rw [ga j h17 (by omega) (by omega), fr j (by omega) (by omega) (by omega) (by omega) (by omega), fr0 j (by omega) (by omega) (by omega) (by omega) (by omega) (by omega) (by omega), fmI_j _ _ (by omega)]
  · rw [h4.2.2]
    show M2.2 = M.2
    rw [k6.2.2]
    exact h0.2.2.2.2.2.2.2.2
theorem law_b3 {tx : tX} {n p k a : Nat} (ht : tOk tx n) (hp : p ≤ n) (hn : n ≤ 150) (e : spL tx 700 0 0 p = .inl (k, a)) : (1 ≤ k ∧ k ≤ 3) ∧ a ≤ n := by
  rcases spL_bad ht _ _ _ _ _ _ hp e with ⟨h1, h2⟩ | h
  · subst h1
    subst h2
    exact absurd e (spL_fuel ht 700 0 0 p hp (by show 4 * _ + 3 ≤ 700; omega))
  · exact h
theorem law_so {tx : tX} {n q : Nat} {cs : tC} {x y : Int32} (e : spL tx 700 0 0 (sk tx 0) = .inr (cs, q)) (h : y ≤ x) (hx : x.toInt = sk tx q) (hy : y.toInt = n) : spLaw tx n = .inr cs := by
  unfold spLaw
  rw [e]
  rw [sc_le] at h
  show (if _ then _ else _) = _
  rw [if_neg (by omega)]
theorem law_sb {tx : tX} {n q : Nat} {cs : tC} {x y : Int32} (e : spL tx 700 0 0 (sk tx 0) = .inr (cs, q)) (h : ¬ y ≤ x) (hx : x.toInt = sk tx q) (hy : y.toInt = n) : spLaw tx n = .inl (1, sk tx q) := by
  unfold spLaw
  rw [e]
  rw [sc_le] at h
  show (if _ then _ else _) = _
  rw [if_pos (by omega)]
theorem law_s1 {tx : tX} {n : Nat} {e : Nat × Nat} (h : spL tx 700 0 0 (sk tx 0) = .inl e) : spLaw tx n = .inl e := by
  unfold spLaw
  rw [h]
theorem law_r {x : Int32} {k : Nat} (h : x.toInt = k) (hk : k ≤ 3) : (x - 10).toInt = (k : Int) - 10 := by
  have e : (10 : Int32).toInt = 10 := by decide
  rw [sc_sub (by omega) (by omega)]
  omega
theorem lwFr.at1 {m : Nat} {M M1 : fmM} {x : Int32} (h : lwFr m M M1) : lwFr m M (fmI M1 0 4 x) := h.set (Or.inl rfl)
theorem lwFr.at2 {m : Nat} {M M1 : fmM} {x k a : Int32} (h : lwFr m M M1) : lwFr m M (fmI (fmI (fmI M1 0 4 x) 0 5 k) 0 6 a) := ((h.set (Or.inl rfl)).set (Or.inr (Or.inl rfl))).set (Or.inr (Or.inr (Or.inl rfl)))
set_option maxRecDepth 20000 in
theorem c_badT0 {M : fmM} {Q : fmR → fmM → Prop} {w : Int32} (hth : M.1 0 0 = 0) (hw : ¬ w = 0) (hq : Q (.inl (some (.int 1))) (fmI (fmI M 0 0 w) 2 0 (M.1 2 0 + 1))) : pvGood Tm 0 qX11_bad [.ref 0, .int 1, .int w, .int 0] M Q := by
  refine pvGood_of (Nat.le_of_ble_eq_true rfl) ?_
  show pvEv Tm 0 qX11_bad 0 [some (.ref 0), some (.int 1), some (.int w), some (.int 0)] [] M Q
  refine pv_iloadn (pc := 0) (n := 1) 1 rfl rfl (fm_dec dtX11_bad 0 rfl) ?_
  refine pv_if_eq (pc := 1) 26 (by decide) (fm_dec dtX11_bad 1 rfl) (fun hc1 => by exfalso; revert hc1; decide) (fun _ => ?_)
  refine pv_aloadn (pc := 4) (n := 0) 0 rfl rfl (fm_dec dtX11_bad 2 rfl) ?_
  refine pv_getI (k := 0) (j := 0) (ci := 11) (pc := 5) pfl_X11_101 (by decide) rfl (by decide) (fm_dec dtX11_bad 3 rfl) ?_
  refine pv_if_ne (pc := 8) 26 (by decide) (fm_dec dtX11_bad 4 rfl) (fun hc8 => by exfalso; exact hc8 hth) (fun _ => ?_)
  refine pv_aloadn (pc := 11) (n := 0) 0 rfl rfl (fm_dec dtX11_bad 5 rfl) ?_
  refine pv_iloadn (pc := 12) (n := 2) 2 rfl rfl (fm_dec dtX11_bad 6 rfl) ?_
  refine pv_putI (k := 0) (j := 0) (ci := 11) (pc := 13) pfl_X11_101 (by decide) rfl (by decide) (fm_dec dtX11_bad 7 rfl) ?_
  refine pv_aloadn (pc := 16) (n := 0) 0 rfl rfl (fm_dec dtX11_bad 8 rfl) ?_
  refine pv_getR (k := 0) (j := 10) (ci := 11) (pc := 17) 2 rfl (by decide) pfl_X11_17 (by decide) rfl (by decide) (fm_dec dtX11_bad 9 rfl) ?_
  refine pv_iloadn (pc := 20) (n := 3) 3 rfl rfl (fm_dec dtX11_bad 10 rfl) ?_
  refine pv_dup2 (pc := 21) rfl rfl (fm_dec dtX11_bad 11 rfl) ?_
  refine pv_iald (k := 2) (n := 2) (pc := 22) (by decide) rfl rfl (fm_inl (by decide)) (fm_dec dtX11_bad 12 rfl) ?_
  refine pv_iconst (pc := 23) (v := 1) (by decide) (fm_dec dtX11_bad 13 rfl) ?_
  refine pv_iadd (pc := 24) (fm_dec dtX11_bad 14 rfl) ?_
  refine pv_iast (k := 2) (n := 2) (pc := 25) (by decide) rfl rfl (fm_inl (by decide)) (fm_dec dtX11_bad 15 rfl) ?_
  refine pv_aloadn (pc := 26) (n := 0) 0 rfl rfl (fm_dec dtX11_bad 16 rfl) ?_
  refine pv_getI (k := 0) (j := 0) (ci := 11) (pc := 27) pfl_X11_101 (by decide) rfl (by decide) (fm_dec dtX11_bad 17 rfl) ?_
  refine pv_if_eq (pc := 30) 37 (by decide) (fm_dec dtX11_bad 18 rfl) (fun hc30 => by exfalso; exact hw hc30) (fun _ => ?_)
  refine pv_iconst (pc := 33) (v := 1) (by decide) (fm_dec dtX11_bad 19 rfl) ?_
  refine pv_goto (pc := 34) 38 (by decide) (fm_dec dtX11_bad 20 rfl) ?_
  exact pv_zreturn (pc := 38) rfl (by first | exact Or.inr rfl | exact Or.inl rfl) (fm_dec dtX11_bad 22 rfl) hq
set_option maxRecDepth 20000 in
theorem c_badF0 {M : fmM} {Q : fmR → fmM → Prop} {w : Int32} (hth : M.1 0 0 = 0) (hq : Q (.inl (some (.int 0))) M) : pvGood Tm 0 qX11_bad [.ref 0, .int 0, .int w, .int 0] M Q := by
  refine pvGood_of (Nat.le_of_ble_eq_true rfl) ?_
  show pvEv Tm 0 qX11_bad 0 [some (.ref 0), some (.int 0), some (.int w), some (.int 0)] [] M Q
  refine pv_iloadn (pc := 0) (n := 1) 1 rfl rfl (fm_dec dtX11_bad 0 rfl) ?_
  refine pv_if_eq (pc := 1) 26 (by decide) (fm_dec dtX11_bad 1 rfl) (fun _ => ?_) (fun hc1 => by exfalso; revert hc1; decide)
  refine pv_aloadn (pc := 26) (n := 0) 0 rfl rfl (fm_dec dtX11_bad 16 rfl) ?_
  refine pv_getI (k := 0) (j := 0) (ci := 11) (pc := 27) pfl_X11_101 (by decide) rfl (by decide) (fm_dec dtX11_bad 17 rfl) ?_
  refine pv_if_eq (pc := 30) 37 (by decide) (fm_dec dtX11_bad 18 rfl) (fun _ => ?_) (fun hc30 => by exfalso; exact hc30 hth)
  refine pv_iconst (pc := 37) (v := 0) (by decide) (fm_dec dtX11_bad 21 rfl) ?_
  exact pv_zreturn (pc := 38) rfl (by first | exact Or.inr rfl | exact Or.inl rfl) (fm_dec dtX11_bad 22 rfl) hq
set_option maxRecDepth 20000 in
theorem c_badT1 {M : fmM} {Q : fmR → fmM → Prop} {w : Int32} (hth : M.1 0 0 = 0) (hw : ¬ w = 0) (hq : Q (.inl (some (.int 1))) (fmI (fmI M 0 0 w) 2 1 (M.1 2 1 + 1))) : pvGood Tm 0 qX11_bad [.ref 0, .int 1, .int w, .int 1] M Q := by
  refine pvGood_of (Nat.le_of_ble_eq_true rfl) ?_
  show pvEv Tm 0 qX11_bad 0 [some (.ref 0), some (.int 1), some (.int w), some (.int 1)] [] M Q
  refine pv_iloadn (pc := 0) (n := 1) 1 rfl rfl (fm_dec dtX11_bad 0 rfl) ?_
  refine pv_if_eq (pc := 1) 26 (by decide) (fm_dec dtX11_bad 1 rfl) (fun hc1 => by exfalso; revert hc1; decide) (fun _ => ?_)
  refine pv_aloadn (pc := 4) (n := 0) 0 rfl rfl (fm_dec dtX11_bad 2 rfl) ?_
  refine pv_getI (k := 0) (j := 0) (ci := 11) (pc := 5) pfl_X11_101 (by decide) rfl (by decide) (fm_dec dtX11_bad 3 rfl) ?_
  refine pv_if_ne (pc := 8) 26 (by decide) (fm_dec dtX11_bad 4 rfl) (fun hc8 => by exfalso; exact hc8 hth) (fun _ => ?_)
  refine pv_aloadn (pc := 11) (n := 0) 0 rfl rfl (fm_dec dtX11_bad 5 rfl) ?_
  refine pv_iloadn (pc := 12) (n := 2) 2 rfl rfl (fm_dec dtX11_bad 6 rfl) ?_
  refine pv_putI (k := 0) (j := 0) (ci := 11) (pc := 13) pfl_X11_101 (by decide) rfl (by decide) (fm_dec dtX11_bad 7 rfl) ?_
  refine pv_aloadn (pc := 16) (n := 0) 0 rfl rfl (fm_dec dtX11_bad 8 rfl) ?_
  refine pv_getR (k := 0) (j := 10) (ci := 11) (pc := 17) 2 rfl (by decide) pfl_X11_17 (by decide) rfl (by decide) (fm_dec dtX11_bad 9 rfl) ?_
  refine pv_iloadn (pc := 20) (n := 3) 3 rfl rfl (fm_dec dtX11_bad 10 rfl) ?_
  refine pv_dup2 (pc := 21) rfl rfl (fm_dec dtX11_bad 11 rfl) ?_
  refine pv_iald (k := 2) (n := 2) (pc := 22) (by decide) rfl rfl (fm_inl (by decide)) (fm_dec dtX11_bad 12 rfl) ?_
  refine pv_iconst (pc := 23) (v := 1) (by decide) (fm_dec dtX11_bad 13 rfl) ?_
  refine pv_iadd (pc := 24) (fm_dec dtX11_bad 14 rfl) ?_
  refine pv_iast (k := 2) (n := 2) (pc := 25) (by decide) rfl rfl (fm_inl (by decide)) (fm_dec dtX11_bad 15 rfl) ?_
  refine pv_aloadn (pc := 26) (n := 0) 0 rfl rfl (fm_dec dtX11_bad 16 rfl) ?_
  refine pv_getI (k := 0) (j := 0) (ci := 11) (pc := 27) pfl_X11_101 (by decide) rfl (by decide) (fm_dec dtX11_bad 17 rfl) ?_
  refine pv_if_eq (pc := 30) 37 (by decide) (fm_dec dtX11_bad 18 rfl) (fun hc30 => by exfalso; exact hw hc30) (fun _ => ?_)
  refine pv_iconst (pc := 33) (v := 1) (by decide) (fm_dec dtX11_bad 19 rfl) ?_
  refine pv_goto (pc := 34) 38 (by decide) (fm_dec dtX11_bad 20 rfl) ?_
  exact pv_zreturn (pc := 38) rfl (by first | exact Or.inr rfl | exact Or.inl rfl) (fm_dec dtX11_bad 22 rfl) hq
set_option maxRecDepth 20000 in
theorem c_badF1 {M : fmM} {Q : fmR → fmM → Prop} {w : Int32} (hth : M.1 0 0 = 0) (hq : Q (.inl (some (.int 0))) M) : pvGood Tm 0 qX11_bad [.ref 0, .int 0, .int w, .int 1] M Q := by
  refine pvGood_of (Nat.le_of_ble_eq_true rfl) ?_
  show pvEv Tm 0 qX11_bad 0 [some (.ref 0), some (.int 0), some (.int w), some (.int 1)] [] M Q
  refine pv_iloadn (pc := 0) (n := 1) 1 rfl rfl (fm_dec dtX11_bad 0 rfl) ?_
  refine pv_if_eq (pc := 1) 26 (by decide) (fm_dec dtX11_bad 1 rfl) (fun _ => ?_) (fun hc1 => by exfalso; revert hc1; decide)
  refine pv_aloadn (pc := 26) (n := 0) 0 rfl rfl (fm_dec dtX11_bad 16 rfl) ?_
  refine pv_getI (k := 0) (j := 0) (ci := 11) (pc := 27) pfl_X11_101 (by decide) rfl (by decide) (fm_dec dtX11_bad 17 rfl) ?_
  refine pv_if_eq (pc := 30) 37 (by decide) (fm_dec dtX11_bad 18 rfl) (fun _ => ?_) (fun hc30 => by exfalso; exact hc30 hth)
  refine pv_iconst (pc := 37) (v := 0) (by decide) (fm_dec dtX11_bad 21 rfl) ?_
  exact pv_zreturn (pc := 38) rfl (by first | exact Or.inr rfl | exact Or.inl rfl) (fm_dec dtX11_bad 22 rfl) hq
set_option maxRecDepth 20000 in
theorem c_starts {M : fmM} {Q : fmR → fmM → Prop} {x : Int32} {n : Nat} (hfed : rFed M) (hn : n ≤ 600) (hx : x.toInt = n) (hq : ∀ M' : fmM, stOk M M' (rT M n) n → Q (.inl none) M') : pvGood Tm 2 qX11_starts [.ref 0, .int x] M Q := by
  refine pvGood_of (Nat.le_of_ble_eq_true rfl) ?_
  show pvEv Tm 2 qX11_starts 0 [some (.ref 0), some (.int x)] [] M Q
  refine pv_aloadn (pc := 0) (n := 0) 0 rfl rfl (fm_dec dtX11_starts 0 rfl) ?_
  refine pv_iconst (pc := 1) (v := 0) (by decide) (fm_dec dtX11_starts 1 rfl) ?_
  refine pv_putI (k := 0) (j := 1) (ci := 11) (pc := 2) pfl_X11_104 (by decide) rfl (by decide) (fm_dec dtX11_starts 2 rfl) ?_
  refine pv_aloadn (pc := 5) (n := 0) 0 rfl rfl (fm_dec dtX11_starts 3 rfl) ?_
  refine pv_iloadn (pc := 6) (n := 1) 1 rfl rfl (fm_dec dtX11_starts 4 rfl) ?_
  refine pv_putI (k := 0) (j := 2) (ci := 11) (pc := 7) pfl_X11_107 (by decide) rfl (by decide) (fm_dec dtX11_starts 5 rfl) ?_
  refine pv_aloadn (pc := 10) (n := 0) 0 rfl rfl (fm_dec dtX11_starts 6 rfl) ?_
  refine pv_iconst (pc := 11) (v := 0) (by decide) (fm_dec dtX11_starts 7 rfl) ?_
  refine pv_putI (k := 0) (j := 4) (ci := 11) (pc := 12) pfl_X11_110 (by decide) rfl (by decide) (fm_dec dtX11_starts 8 rfl) ?_
  refine pv_aloadn (pc := 15) (n := 0) 0 rfl rfl (fm_dec dtX11_starts 9 rfl) ?_
  refine pv_iconst (pc := 16) (v := 0) (by decide) (fm_dec dtX11_starts 10 rfl) ?_
  refine pv_putI (k := 0) (j := 5) (ci := 11) (pc := 17) pfl_X11_117 (by decide) rfl (by decide) (fm_dec dtX11_starts 11 rfl) ?_
  refine pv_aloadn (pc := 20) (n := 0) 0 rfl rfl (fm_dec dtX11_starts 12 rfl) ?_
  refine pv_iconst (pc := 21) (v := (-1)) (by decide) (fm_dec dtX11_starts 13 rfl) ?_
  refine pv_putI (k := 0) (j := 6) (ci := 11) (pc := 22) pfl_X11_120 (by decide) rfl (by decide) (fm_dec dtX11_starts 14 rfl) ?_
  refine pv_aloadn (pc := 25) (n := 0) 0 rfl rfl (fm_dec dtX11_starts 15 rfl) ?_
  refine pv_iconst (pc := 26) (v := 0) (by decide) (fm_dec dtX11_starts 16 rfl) ?_
  refine pv_putI (k := 0) (j := 7) (ci := 11) (pc := 27) pfl_X11_157 (by decide) rfl (by decide) (fm_dec dtX11_starts 17 rfl) ?_
  refine pv_aloadn (pc := 30) (n := 0) 0 rfl rfl (fm_dec dtX11_starts 18 rfl) ?_
  refine pv_iconst (pc := 31) (v := 0) (by decide) (fm_dec dtX11_starts 19 rfl) ?_
  refine pv_putI (k := 0) (j := 8) (ci := 11) (pc := 32) pfl_X11_160 (by decide) rfl (by decide) (fm_dec dtX11_starts 20 rfl) ?_
  refine pv_aloadn (pc := 35) (n := 0) 0 rfl rfl (fm_dec dtX11_starts 21 rfl) ?_
  refine pv_invV0 (k := 0) (d' := 1) (pc := 36) pcv_X11_123 (by decide) rfl (Nat.le_of_ble_eq_true rfl) (by decide) (fm_dec dtX11_starts 22 rfl) ?_
  refine c_blanks (stU_S hfed hn hx) (fun x36 hx36 => ?_)
  refine pv_then0 ?_
  exact pv_return (pc := 39) rfl (fm_dec dtX11_starts 23 rfl) (hq _ (stU_ok hfed hn hx hx36))
set_option maxRecDepth 20000 in
theorem c_law {M : fmM} {Q : fmR → fmM → Prop} {nn : Int32} (hfed : rFed M) (href : ¬ (0 ≤ nn.toInt ∧ nn.toInt ≤ (M.1 0 1).toInt ∧ nn.toInt ≤ 150) → Q (.inl (some (.int 0))) (rfM M 1 1)) (hok : ∀ (n0 : Nat) (cs : tC) (M' : fmM), nn.toInt = n0 → n0 ≤ 150 → (n0 : Int) ≤ (M.1 0 1).toInt → spLaw (rT M n0) n0 = .inr cs → dpR 0 cs = some 1 → lawOk M M' cs → Q (.inl (some (.int 1))) M') (hbad : ∀ (n0 k a : Nat) (r : Int32) (M' : fmM), nn.toInt = n0 → n0 ≤ 150 → (n0 : Int) ≤ (M.1 0 1).toInt → spLaw (rT M n0) n0 = .inl (k, a) → 1 ≤ k ∧ k ≤ 3 → r.toInt = k - 10 → lawBad M M' a → Q (.inl (some (.int r))) M') : pvGood Tm 27 qX11_law [.ref 0, .int nn] M Q := by
  refine pvGood_of (Nat.le_of_ble_eq_true rfl) ?_
  show pvEv Tm 27 qX11_law 0 [some (.ref 0), some (.int nn)] [] M Q
  refine pv_aloadn (pc := 0) (n := 0) 0 rfl rfl (fm_dec dtX11_law 0 rfl) ?_
  refine pv_iconst (pc := 1) (v := 0) (by decide) (fm_dec dtX11_law 1 rfl) ?_
  refine pv_putI (k := 0) (j := 0) (ci := 11) (pc := 2) pfl_X11_101 (by decide) rfl (by decide) (fm_dec dtX11_law 2 rfl) ?_
  refine pv_aloadn (pc := 5) (n := 0) 0 rfl rfl (fm_dec dtX11_law 3 rfl) ?_
  refine pv_iloadn (pc := 6) (n := 1) 1 rfl rfl (fm_dec dtX11_law 4 rfl) ?_
  refine pv_iconst (pc := 7) (v := 0) (by decide) (fm_dec dtX11_law 5 rfl) ?_
  refine pv_aloadn (pc := 8) (n := 0) 0 rfl rfl (fm_dec dtX11_law 6 rfl) ?_
  refine pv_getI (k := 0) (j := 1) (ci := 11) (pc := 9) pfl_X11_104 (by decide) rfl (by decide) (fm_dec dtX11_law 7 rfl) ?_
  refine pv_iS3 (d' := 0) (pc := 12) pcs_X11_135 (Nat.le_of_ble_eq_true rfl) (by decide) (fm_dec dtX11_law 8 rfl) ?_
  refine c_in (fun h12a h12b => ?_) (fun h12 => ?_)
  · refine pv_then1 ?_
    refine pv_if_eq (pc := 15) 25 (by decide) (fm_dec dtX11_law 9 rfl) (fun hc15 => by exfalso; revert hc15; decide) (fun _ => ?_)
    refine pv_iloadn (pc := 18) (n := 1) 1 rfl rfl (fm_dec dtX11_law 10 rfl) ?_
    refine pv_sipush (pc := 19) (v := 150) (by decide) (fm_dec dtX11_law 11 rfl) ?_
    refine pv_icmp_le (pc := 22) 29 (by decide) (fm_dec dtX11_law 12 rfl) (fun hc22 => ?_) (fun hc22 => ?_)
    · refine pv_iconst (pc := 29) (v := 0) (by decide) (fm_dec dtX11_law 15 rfl) ?_
      refine pv_iconst (pc := 30) (v := 1) (by decide) (fm_dec dtX11_law 16 rfl) ?_
      refine pv_iconst (pc := 31) (v := 1) (by decide) (fm_dec dtX11_law 17 rfl) ?_
      refine pv_invV3 (k := 0) (d' := 0) (pc := 32) pcv_X11_177 (by decide) rfl (Nat.le_of_ble_eq_true rfl) (by decide) (fm_dec dtX11_law 18 rfl) ?_
      refine c_badF1 rfl ?_
      refine pv_then1 ?_
      refine pv_if_eq (pc := 35) 40 (by decide) (fm_dec dtX11_law 19 rfl) (fun _ => ?_) (fun hc35 => by exfalso; revert hc35; decide)
      obtain ⟨n0, hn0⟩ : ∃ n0 : Nat, nn.toInt = n0 := ⟨nn.toInt.toNat, by have h9 : (0 : Int32).toInt = 0 := (by decide); omega⟩
      have hn150 : n0 ≤ 150 := (by rw [sc_le] at hc22; have h9 : (150 : Int32).toInt = 150 := (by decide); omega)
      have hnt : (n0 : Int) ≤ (M.1 0 1).toInt := (by have h9 : (nn.toInt : Int) ≤ ((fmI M 0 0 0).1 0 1).toInt := h12b; rw [hn0] at h9; exact h9)
      refine pv_aloadn (pc := 40) (n := 0) 0 rfl rfl (fm_dec dtX11_law 22 rfl) ?_
      refine pv_iloadn (pc := 41) (n := 1) 1 rfl rfl (fm_dec dtX11_law 23 rfl) ?_
      refine pv_invV1 (k := 0) (d' := 2) (pc := 42) pcv_X11_181 (by decide) rfl (Nat.le_of_ble_eq_true rfl) (by decide) (fm_dec dtX11_law 24 rfl) ?_
      refine c_starts (n := n0) (M := fmI M 0 0 0) hfed (by omega) hn0 (fun M42 h42 => ?_) 
      refine pv_then0 ?_
      refine pv_aloadn (pc := 45) (n := 0) 0 rfl rfl (fm_dec dtX11_law 25 rfl) ?_
      refine pv_iconst (pc := 46) (v := 0) (by decide) (fm_dec dtX11_law 26 rfl) ?_
      refine pv_putI (k := 0) (j := 18) (ci := 11) (pc := 47) pfl_X11_209 (by decide) rfl (by decide) (fm_dec dtX11_law 27 rfl) ?_
      have hok9 := rT_ok (n := n0) hfed (by omega)
      have hs0 : sk (rT M n0) 0 ≤ n0 := sp_le tB_1 hok9 (Nat.zero_le _)
      have hP51 : lwPre (fmI M42 0 18 0) (rT M n0) n0 (sk (rT M n0) 0) 0 0 := ⟨h42.1.of rfl rfl rfl, h42.2.1, (by show (M42.1 0 8).toInt = _; rw [h42.2.2.1]; decide), by decide, (show (0 : Int32).toInt = _ by decide), Nat.zero_le _, hn150⟩
      have hne51 := spL_fuel hok9 700 0 0 (sk (rT M n0) 0) hs0 (by show 4 * _ + 3 ≤ 700; omega)
      refine pv_aloadn (pc := 50) (n := 0) 0 rfl rfl (fm_dec dtX11_law 28 rfl) ?_
      refine pv_invV0 (k := 0) (d' := 26) (pc := 51) pcv_X11_231 (by decide) rfl (Nat.le_of_ble_eq_true rfl) (by decide) (fm_dec dtX11_law 29 rfl) ?_
      refine lw_all (tx := rT M n0) (n := n0) 700 0 0 (sk (rT M n0) 0) 0 (fmI M42 0 18 0) _ hP51 hne51 ⟨fun M51 cs51 q51 e51 k51 => ?_, fun M51 kb ab eb hB => ?_⟩  
      · refine pv_then0 ?_
        have l51 := spL_len hok9 _ _ _ _ _ _ hs0 e51
        refine pv_aloadn (pc := 54) (n := 0) 0 rfl rfl (fm_dec dtX11_law 30 rfl) ?_
        refine pv_invV0 (k := 0) (d' := 1) (pc := 55) pcv_X11_123 (by decide) rfl (Nat.le_of_ble_eq_true rfl) (by decide) (fm_dec dtX11_law 31 rfl) ?_
        refine c_blanks k51.1 (fun x55 hx55 => ?_)
        refine pv_then0 ?_
        refine pv_aloadn (pc := 58) (n := 0) 0 rfl rfl (fm_dec dtX11_law 32 rfl) ?_
        refine pv_getI (k := 0) (j := 5) (ci := 11) (pc := 59) pfl_X11_117 (by decide) rfl (by decide) (fm_dec dtX11_law 33 rfl) ?_
        refine pv_if_ne (pc := 62) 85 (by decide) (fm_dec dtX11_law 34 rfl) (fun hc62 => by exfalso; exact hc62 k51.2.1) (fun _ => ?_)
        refine pv_aloadn (pc := 65) (n := 0) 0 rfl rfl (fm_dec dtX11_law 35 rfl) ?_
        refine pv_getI (k := 0) (j := 4) (ci := 11) (pc := 66) pfl_X11_110 (by decide) rfl (by decide) (fm_dec dtX11_law 36 rfl) ?_
        refine pv_aloadn (pc := 69) (n := 0) 0 rfl rfl (fm_dec dtX11_law 37 rfl) ?_
        refine pv_getI (k := 0) (j := 2) (ci := 11) (pc := 70) pfl_X11_107 (by decide) rfl (by decide) (fm_dec dtX11_law 38 rfl) ?_
        refine pv_icmp_ge (pc := 73) 85 (by decide) (fm_dec dtX11_law 39 rfl) (fun hc73 => ?_) (fun hc73 => ?_)
        · refine pv_aloadn (pc := 85) (n := 0) 0 rfl rfl (fm_dec dtX11_law 45 rfl) ?_
          refine pv_getI (k := 0) (j := 5) (ci := 11) (pc := 86) pfl_X11_117 (by decide) rfl (by decide) (fm_dec dtX11_law 46 rfl) ?_
          refine pv_if_eq (pc := 89) 97 (by decide) (fm_dec dtX11_law 47 rfl) (fun _ => ?_) (fun hc89 => by exfalso; exact hc89 k51.2.1)
          refine pv_aloadn (pc := 97) (n := 0) 0 rfl rfl (fm_dec dtX11_law 51 rfl) ?_
          refine pv_iconst (pc := 98) (v := (-1)) (by decide) (fm_dec dtX11_law 52 rfl) ?_
          refine pv_putI (k := 0) (j := 3) (ci := 11) (pc := 99) pfl_X11_9 (by decide) rfl (by decide) (fm_dec dtX11_law 53 rfl) ?_
          refine pv_aloadn (pc := 102) (n := 0) 0 rfl rfl (fm_dec dtX11_law 54 rfl) ?_
          refine pv_aloadn (pc := 103) (n := 0) 0 rfl rfl (fm_dec dtX11_law 55 rfl) ?_
          refine pv_getI (k := 0) (j := 18) (ci := 11) (pc := 104) pfl_X11_209 (by decide) rfl (by decide) (fm_dec dtX11_law 56 rfl) ?_
          refine pv_putI (k := 0) (j := 17) (ci := 11) (pc := 107) pfl_X11_194 (by decide) rfl (by decide) (fm_dec dtX11_law 57 rfl) ?_
          refine pv_aloadn (pc := 110) (n := 0) 0 rfl rfl (fm_dec dtX11_law 58 rfl) ?_
          refine pv_getR (k := 0) (j := 20) (ci := 11) (pc := 111) 21 rfl (by decide) pfl_X11_43 (by decide) rfl (by decide) (fm_dec dtX11_law 59 rfl) ?_
          refine pv_aloadn (pc := 114) (n := 0) 0 rfl rfl (fm_dec dtX11_law 60 rfl) ?_
          refine pv_getR (k := 0) (j := 19) (ci := 11) (pc := 115) 20 rfl (by decide) pfl_X11_40 (by decide) rfl (by decide) (fm_dec dtX11_law 61 rfl) ?_
          refine pv_aloadn (pc := 118) (n := 0) 0 rfl rfl (fm_dec dtX11_law 62 rfl) ?_
          refine pv_getI (k := 0) (j := 17) (ci := 11) (pc := 119) pfl_X11_194 (by decide) rfl (by decide) (fm_dec dtX11_law 63 rfl) ?_
          refine pv_iS3 (d' := 0) (pc := 122) pcs_X11_190 (Nat.le_of_ble_eq_true rfl) (by decide) (fm_dec dtX11_law 64 rfl) ?_
          refine c_lays_law k51.2.2.2.1 (by omega) (fun M122 h122 => ?_)
          refine pv_then0 ?_
          refine pv_iconst (pc := 125) (v := 1) (by decide) (fm_dec dtX11_law 65 rfl) ?_
          exact pv_ireturn (pc := 126) rfl (fm_dec dtX11_law 66 rfl) (hok n0 cs51 M122 hn0 hn150 hnt (law_so e51 hc73 hx55 (k51.1.1)) ((spL_wf _ _ _ _ _ _ e51 0).1 (by decide)) (law_ok h42 k51 l51.2.1 hx55 (by omega) hn150 (by rw [Nat.zero_add] at h122; exact h122)))
        · refine pv_aloadn (pc := 76) (n := 0) 0 rfl rfl (fm_dec dtX11_law 40 rfl) ?_
          refine pv_iconst (pc := 77) (v := 1) (by decide) (fm_dec dtX11_law 41 rfl) ?_
          refine pv_aloadn (pc := 78) (n := 0) 0 rfl rfl (fm_dec dtX11_law 42 rfl) ?_
          refine pv_getI (k := 0) (j := 4) (ci := 11) (pc := 79) pfl_X11_110 (by decide) rfl (by decide) (fm_dec dtX11_law 43 rfl) ?_
          refine pv_invV2 (k := 0) (d' := 0) (pc := 82) pcv_X11_130 (by decide) rfl (Nat.le_of_ble_eq_true rfl) (by decide) (fm_dec dtX11_law 44 rfl) ?_
          refine c_wrongAt (fun _ => ?_) (fun h9 => absurd k51.2.1 h9) 
          refine pv_then0 ?_
          refine pv_aloadn (pc := 85) (n := 0) 0 rfl rfl (fm_dec dtX11_law 45 rfl) ?_
          refine pv_getI (k := 0) (j := 5) (ci := 11) (pc := 86) pfl_X11_117 (by decide) rfl (by decide) (fm_dec dtX11_law 46 rfl) ?_
          refine pv_if_eq (pc := 89) 97 (by decide) (fm_dec dtX11_law 47 rfl) (fun hc89 => by exfalso; exact absurd (show (1 : Int32) = 0 from hc89) (by decide)) (fun _ => ?_)
          refine pv_aloadn (pc := 92) (n := 0) 0 rfl rfl (fm_dec dtX11_law 48 rfl) ?_
          refine pv_invV0 (k := 0) (d' := 0) (pc := 93) pcv_X11_187 (by decide) rfl (Nat.le_of_ble_eq_true rfl) (by decide) (fm_dec dtX11_law 49 rfl) ?_
          refine c_ends ?_
          refine pv_then1 ?_
          exact pv_ireturn (pc := 96) rfl (fm_dec dtX11_law 50 rfl) (hbad n0 1 (sk (rT M n0) q51) _ _ hn0 hn150 hnt (law_sb e51 hc73 hx55 (k51.1.1)) ⟨by decide, by decide⟩ (show ((1 : Int32) - 10).toInt = _ by decide) (law_bad h42 (k51.2.2.2.2.2.at2 (x := x55)) ⟨_, (k51.1.bl hx55).of rfl rfl rfl⟩ (show (1 : Int32).toInt = ((1 : Nat) : Int) by decide) hx55 (by decide) (k51.1.bl hx55).2.2.1 hn150 rfl))
      · refine pv_then0 ?_
        obtain ⟨qb, hSb⟩ := hB.1
        have kb9 := law_b3 hok9 hs0 hn150 eb
        refine pv_aloadn (pc := 54) (n := 0) 0 rfl rfl (fm_dec dtX11_law 30 rfl) ?_
        refine pv_invV0 (k := 0) (d' := 1) (pc := 55) pcv_X11_123 (by decide) rfl (Nat.le_of_ble_eq_true rfl) (by decide) (fm_dec dtX11_law 31 rfl) ?_
        refine c_blanks hSb (fun x55 hx55 => ?_)
        refine pv_then0 ?_
        refine pv_aloadn (pc := 58) (n := 0) 0 rfl rfl (fm_dec dtX11_law 32 rfl) ?_
        refine pv_getI (k := 0) (j := 5) (ci := 11) (pc := 59) pfl_X11_117 (by decide) rfl (by decide) (fm_dec dtX11_law 33 rfl) ?_
        refine pv_if_ne (pc := 62) 85 (by decide) (fm_dec dtX11_law 34 rfl) (fun _ => ?_) (fun hc62 => by exfalso; exact hB.nz hc62)
        refine pv_aloadn (pc := 85) (n := 0) 0 rfl rfl (fm_dec dtX11_law 45 rfl) ?_
        refine pv_getI (k := 0) (j := 5) (ci := 11) (pc := 86) pfl_X11_117 (by decide) rfl (by decide) (fm_dec dtX11_law 46 rfl) ?_
        refine pv_if_eq (pc := 89) 97 (by decide) (fm_dec dtX11_law 47 rfl) (fun hc89 => by exfalso; exact hB.nz hc89) (fun _ => ?_)
        refine pv_aloadn (pc := 92) (n := 0) 0 rfl rfl (fm_dec dtX11_law 48 rfl) ?_
        refine pv_invV0 (k := 0) (d' := 0) (pc := 93) pcv_X11_187 (by decide) rfl (Nat.le_of_ble_eq_true rfl) (by decide) (fm_dec dtX11_law 49 rfl) ?_
        refine c_ends ?_
        refine pv_then1 ?_
        exact pv_ireturn (pc := 96) rfl (fm_dec dtX11_law 50 rfl) (hbad n0 kb ab _ _ hn0 hn150 hnt (law_s1 eb) kb9.1 (law_r hB.2.1 kb9.1.2) (law_bad h42 (hB.2.2.2.2.at1 (x := x55)) ⟨_, hSb.bl hx55⟩ hB.2.1 hB.2.2.1 kb9.1.2 kb9.2 hn150 rfl))
    · refine pv_iconst (pc := 25) (v := 1) (by decide) (fm_dec dtX11_law 13 rfl) ?_
      refine pv_goto (pc := 26) 30 (by decide) (fm_dec dtX11_law 14 rfl) ?_
      refine pv_iconst (pc := 30) (v := 1) (by decide) (fm_dec dtX11_law 16 rfl) ?_
      refine pv_iconst (pc := 31) (v := 1) (by decide) (fm_dec dtX11_law 17 rfl) ?_
      refine pv_invV3 (k := 0) (d' := 0) (pc := 32) pcv_X11_177 (by decide) rfl (Nat.le_of_ble_eq_true rfl) (by decide) (fm_dec dtX11_law 18 rfl) ?_
      refine c_badT1 rfl (by decide) ?_
      refine pv_then1 ?_
      refine pv_if_eq (pc := 35) 40 (by decide) (fm_dec dtX11_law 19 rfl) (fun hc35 => by exfalso; revert hc35; decide) (fun _ => ?_)
      refine pv_iconst (pc := 38) (v := 0) (by decide) (fm_dec dtX11_law 20 rfl) ?_
      exact pv_ireturn (pc := 39) rfl (fm_dec dtX11_law 21 rfl) (href (by intro h9; first | exact h12 ⟨by have h8 : (0 : Int32).toInt = 0 := (by decide); rw [h8]; exact h9.1, h9.2.1⟩ | (rw [sc_le] at hc22; have h8 : (150 : Int32).toInt = 150 := (by decide); omega)))
  · refine pv_then1 ?_
    refine pv_if_eq (pc := 15) 25 (by decide) (fm_dec dtX11_law 9 rfl) (fun _ => ?_) (fun hc15 => by exfalso; revert hc15; decide)
    refine pv_iconst (pc := 25) (v := 1) (by decide) (fm_dec dtX11_law 13 rfl) ?_
    refine pv_goto (pc := 26) 30 (by decide) (fm_dec dtX11_law 14 rfl) ?_
    refine pv_iconst (pc := 30) (v := 1) (by decide) (fm_dec dtX11_law 16 rfl) ?_
    refine pv_iconst (pc := 31) (v := 1) (by decide) (fm_dec dtX11_law 17 rfl) ?_
    refine pv_invV3 (k := 0) (d' := 0) (pc := 32) pcv_X11_177 (by decide) rfl (Nat.le_of_ble_eq_true rfl) (by decide) (fm_dec dtX11_law 18 rfl) ?_
    refine c_badT1 rfl (by decide) ?_
    refine pv_then1 ?_
    refine pv_if_eq (pc := 35) 40 (by decide) (fm_dec dtX11_law 19 rfl) (fun hc35 => by exfalso; revert hc35; decide) (fun _ => ?_)
    refine pv_iconst (pc := 38) (v := 0) (by decide) (fm_dec dtX11_law 20 rfl) ?_
    exact pv_ireturn (pc := 39) rfl (fm_dec dtX11_law 21 rfl) (href (by intro h9; first | exact h12 ⟨by have h8 : (0 : Int32).toInt = 0 := (by decide); rw [h8]; exact h9.1, h9.2.1⟩ | (rw [sc_le] at hc22; have h8 : (150 : Int32).toInt = 150 := (by decide); omega)))
end
-- P 11g
section
-- PAGES AS TEXTS, and the reference's
def pgHas (ls : tC) (k : Nat) : Bool := ls.any (fun l => Nat.beq l.1 k)
def pgL (tx : tX) (n : Nat) : Nat → tC → Nat → (Nat × Nat) ⊕ tC
  | 0, _, _ => .inl (9, 0)
  | f + 1, ls, p => if n ≤ p then .inr ls else match spNum tx 0 5 p with
    | .inl e => .inl e
    | .inr (k, q) => if pgHas ls k then .inl (2, p) else match spNum tx 0 1 q with
      | .inl e => .inl e
      | .inr (b, r) => match spSign tx 59 r with
        | .inl e => .inl e
        | .inr (_, s) => pgL tx n f (ls ++ [(k, b)]) (sk tx s)
def spPage (tx : tX) (n : Nat) : (Nat × Nat) ⊕ tC := pgL tx n 700 [] (sk tx 0)
def pop6 (w : Nat) : Nat := ((List.range 6).map (fun k => if w.testBit k then 1 else 0)).sum
theorem pop6_le : ∀ w, w < 64 → pop6 w ≤ 6 := by decide +kernel
theorem pop6_add : ∀ w, w < 64 → ∀ k, k < 6 → w.testBit k = false → pop6 (w ||| 1 <<< k) = pop6 w + 1 ∧ w ||| 1 <<< k < 64 := by decide +kernel
theorem or6 : ∀ w, w < 64 → ∀ k, k < 6 → (nI w ||| (1 : Int32) <<< (nI k &&& 31)) = nI (w ||| 1 <<< k) := by decide +kernel
theorem has6 : ∀ w, w < 64 → ∀ k, k < 6 → ((nI w >>> (nI k &&& 31) &&& 1) = (1 : Int32) ↔ w.testBit k = true) := by decide +kernel
theorem bit6 : ∀ w, w < 64 → ∀ k, k < 6 → ∀ j, j < 6 → (w ||| 1 <<< k).testBit j = (w.testBit j || Nat.beq k j) := by decide +kernel
theorem nI_is {x : Int32} {k : Nat} (h : x.toInt = k) (hk : k < 100000) : x = nI k := i32_ext (by rw [h, nI_toInt (by omega)])
/-- lines read so far -/
def pgI (M0 M : fmM) (ls : tC) (many been : Int32) (w : Nat) : Prop := many.toInt = (ls.length : Int) ∧ been = nI w ∧ w < 64 ∧ ls.length = pop6 w ∧ (∀ k, k < 6 → w.testBit k = pgHas ls k) ∧ lwHas M.1 417 ls ∧ (∀ l ∈ ls, l.1 < 6 ∧ l.2 ≤ 1) ∧ (∀ k j, k ≠ 0 → ¬ (417 ≤ k ∧ k < 423) → M.1 k j = M0.1 k j) ∧ (∀ j, j ≠ 4 → j ≠ 5 → j ≠ 6 → M.1 0 j = M0.1 0 j) ∧ M.2 = M0.2
theorem pgI.rd {M0 M M' : fmM} {ls : tC} {many been : Int32} {w : Nat} (h : pgI M0 M ls many been w) (hf : rdFr M M') : pgI M0 M' ls many been w := by
  obtain ⟨h1, h2, h3, h4, h5, h6, h7, h8, h9, h10⟩ := h
  refine ⟨h1, h2, h3, h4, h5, fun i c hi => ?_, h7, fun k j a b => ?_, fun j a b c => ?_, hf.2.2.trans h10⟩
  · rw [hf.1 _ _ (by omega), hf.1 _ _ (by omega)]
    exact h6 i c hi
  · rw [hf.1 _ _ a]
    exact h8 k j a b
  · rw [hf.2.1 j a b c]
    exact h9 j a b c
theorem pgI.add {M0 M : fmM} {ls : tC} {many been kk bb : Int32} {w k b : Nat} (h : pgI M0 M ls many been w) (hk : kk.toInt = k) (hb : bb.toInt = b) (hk6 : k < 6) (hb1 : b ≤ 1) (hn : w.testBit k = false) : pgI M0 (fmI (fmI M (417 + ls.length) 0 kk) (417 + ls.length) 1 bb) (ls ++ [(k, b)]) (many + 1) (been ||| 1 <<< (kk &&& 31)) (w ||| 1 <<< k) := by
  obtain ⟨h1, h2, h3, h4, h5, h6, h7, h8, h9, h10⟩ := h
  have p1 := pop6_le w h3
  have p2 := pop6_add w h3 k hk6 hn
  have p3 := pop6_le _ p2.2
  refine ⟨?_, ?_, p2.2, ?_, fun j hj => ?_, fun i c hi => ?_, fun l hl => ?_, fun k' j a d => ?_, fun j a d c => ?_, h10⟩
  · rw [i32_p1 h1 (by omega)]
    simp
  · rw [h2, nI_is hk (by omega), or6 w h3 k hk6]
  · rw [p2.1, ← h4]
    simp
  · rw [bit6 w h3 k hk6 j hj, h5 j hj]
    simp [pgHas]
  · by_cases e : i < ls.length
    · rw [List.getElem?_append_left e] at hi
      have := h6 i c hi
      simp only [fmI_at, show ¬ (417 + i = 417 + ls.length) by omega, false_and, if_false]
      exact this
    · rw [List.getElem?_append_right (by omega)] at hi
      have e2 : i = ls.length := by
        have := (List.getElem?_eq_some_iff.mp hi).1
        simp at this
        omega
      subst e2
      simp at hi
      subst hi
      simp only [fmI_at]
      simp
      exact ⟨hk, hb⟩
  · rcases List.mem_append.mp hl with h | h
    · exact h7 l h
    · rw [List.mem_singleton.mp h]
      exact ⟨hk6, hb1⟩
  · simp only [fmI_at, show ¬ (k' = 417 + ls.length) by omega, false_and, if_false]
    exact h8 k' j a d
  · rw [fmI_k _ _ (by omega), fmI_k _ _ (by omega)]
    exact h9 j a d c
def pgFr (M0 M : fmM) : Prop := (∀ k j, k ≠ 0 → ¬ (411 ≤ k ∧ k < 423) → M.1 k j = M0.1 k j) ∧ (∀ j, j ≠ 3 → j ≠ 4 → j ≠ 5 → j ≠ 6 → j ≠ 31 → M.1 0 j = M0.1 0 j) ∧ M.2 = M0.2
def pgEnd (M0 M : fmM) (ls : tC) : Prop := M.1 0 3 = -1 ∧ (M.1 0 31).toInt = (ls.length : Int) ∧ ls.length ≤ 6 ∧ lwHas M.1 411 ls ∧ (∀ l ∈ ls, l.1 < 6 ∧ l.2 ≤ 1) ∧ (∀ k j, 411 + ls.length ≤ k → k < 417 → M.1 k j = M0.1 k j) ∧ pgFr M0 M
def pgBad (M0 M : fmM) (a : Nat) : Prop := (M.1 0 3).toInt = a ∧ M.1 0 31 = M0.1 0 31 ∧ (∀ k j, 411 ≤ k → k < 417 → M.1 k j = M0.1 k j) ∧ pgFr M0 M
theorem pgI.bad {M0 M M' : fmM} {ls : tC} {many been : Int32} {w k a n : Nat} {tx : tX} (h : pgI M0 M ls many been w) (hB : rdBad M M' tx n k a) : pgBad M0 (fmI M' 0 3 (M'.1 0 6)) a := by
  have h := h.rd hB.2.2.2.2
  obtain ⟨h1, h2, h3, h4, h5, h6, h7, h8, h9, h10⟩ := h
  refine ⟨?_, ?_, fun k j a b => ?_, fun k j a b => ?_, fun j a b c d e => ?_, h10⟩
  · rw [fmI_s]
    exact hB.2.2.1
  · rw [fmI_j _ _ (by decide)]
    exact h9 31 (by decide) (by decide) (by decide)
  · rw [fmI_k _ _ (by omega)]
    exact h8 k j (by omega) (by omega)
  · rw [fmI_k _ _ (by omega)]
    exact h8 k j a (by omega)
  · rw [fmI_j _ _ a]
    exact h9 j b c d
theorem pgI.fin {M0 M M' : fmM} {ls : tC} {many been : Int32} {w : Nat} (h : pgI M0 M ls many been w) (h4 : lyOk 417 411 2 0 ls.length (fmI (fmI M 0 3 (-1)) 0 31 many) M') : pgEnd M0 M' ls := by
  obtain ⟨h1, h2, h3, h4', h5, h6, h7, h8, h9, h10⟩ := h
  have p1 := pop6_le w h3
  have g0 : ∀ j, M'.1 0 j = (fmI (fmI M 0 3 (-1)) 0 31 many).1 0 j := fun j => h4.2.1 0 j (by omega)
  refine ⟨g0 3, ?_, by omega, fun i c hi => ?_, h7, fun k j a b => ?_, fun k j a b => ?_, fun j a b c d e => ?_, ?_⟩
  · rw [g0 31]
    exact h1
  · have hl : i < ls.length := (List.getElem?_eq_some_iff.mp hi).1
    rw [h4.1 i 0 (Nat.zero_le _) hl (by omega), h4.1 i 1 (Nat.zero_le _) hl (by omega), fmI_k _ _ (by omega), fmI_k _ _ (by omega)]
    exact h6 i c hi
  · rw [h4.2.1 k j (by omega), fmI_k _ _ (by omega), fmI_k _ _ (by omega)]
    exact h8 k j (by omega) (by omega)
  · rw [h4.2.1 k j (by omega), fmI_k _ _ a, fmI_k _ _ a]
    exact h8 k j a (by omega)
  · rw [g0 j, fmI_j _ _ e, fmI_j _ _ a]
    exact h9 j b c d
  · rw [h4.2.2]
    exact h10
theorem pgL_fuel {tx : tX} {n : Nat} (ht : tOk tx n) : ∀ (f : Nat) (ls : tC) (p : Nat), p ≤ n → n - p < f → ¬ pgL tx n f ls p = .inl (9, 0)
  | 0, _, _, _, h => by omega
  | f + 1, ls, p, hp, h => by
    simp only [pgL]
    split
    · intro e; cases e
    · split
      · rename_i e he
        intro e2
        cases e2
        exact spNum_nf he
      · rename_i k q he
        have a1 := spNum_ok ht hp he
        split
        · intro e; injection e with e; injection e with e; omega
        · split
          · rename_i e he2
            intro e2
            cases e2
            exact spNum_nf he2
          · rename_i b r he2
            have a2 := spNum_ok ht a1.2.1 he2
            split
            · rename_i e he3
              intro e2
              cases e2
              exact spSign_nf he3
            · rename_i u s he3
              have a3 := spSign_ok ht a2.2.1 (by omega) he3
              have s1 := sp_ge (P := tB) (tx := tx) s
              have s2 := sp_le tB_1 ht a3.2
              exact pgL_fuel ht f _ _ s2 (by unfold sk; omega)
theorem pgL_bad {tx : tX} {n : Nat} (ht : tOk tx n) : ∀ (f : Nat) (ls : tC) (p k a : Nat), p ≤ n → pgL tx n f ls p = .inl (k, a) → k ≠ 9 → (1 ≤ k ∧ k ≤ 3) ∧ a ≤ n
  | 0, _, _, k, a, _, h, hk => by
    injection h with h
    injection h with h1 h2
    exact absurd h1.symm hk
  | f + 1, ls, p, k, a, hp, h, hk => by
    simp only [pgL] at h
    split at h
    · cases h
    · split at h
      · rename_i e he
        cases h
        have := spNum_bad ht hp he
        omega
      · rename_i k' q he
        have a1 := spNum_ok ht hp he
        split at h
        · injection h with h; injection h with h1 h2; omega
        · split at h
          · rename_i e he2
            cases h
            have := spNum_bad ht a1.2.1 he2
            omega
          · rename_i b r he2
            have a2 := spNum_ok ht a1.2.1 he2
            split at h
            · rename_i e he3
              cases h
              have := spSign_bad ht a2.2.1 he3
              omega
            · rename_i u s he3
              have a3 := spSign_ok ht a2.2.1 (by omega) he3
              exact pgL_bad ht f _ _ k a (sp_le tB_1 ht a3.2) h hk
section PgEq
variable {tx : tX} {n f p k q b r s : Nat} {ls : tC} {e : Nat × Nat} {u : Unit}
theorem pgL_0 (h : n ≤ p) : pgL tx n (f + 1) ls p = .inr ls := by simp only [pgL]; rw [if_pos h]
theorem pgL_1 (h : ¬ n ≤ p) (h1 : spNum tx 0 5 p = .inl e) : pgL tx n (f + 1) ls p = .inl e := by simp only [pgL]; rw [if_neg h, h1]
theorem pgL_2 (h : ¬ n ≤ p) (h1 : spNum tx 0 5 p = .inr (k, q)) (h2 : pgHas ls k = true) : pgL tx n (f + 1) ls p = .inl (2, p) := by simp only [pgL]; rw [if_neg h, h1]; simp only [h2, if_true]
theorem pgL_3 (h : ¬ n ≤ p) (h1 : spNum tx 0 5 p = .inr (k, q)) (h2 : pgHas ls k = false) (h3 : spNum tx 0 1 q = .inl e) : pgL tx n (f + 1) ls p = .inl e := by simp only [pgL]; rw [if_neg h, h1]; simp only [h2, Bool.false_eq_true, if_false]; rw [h3]
theorem pgL_4 (h : ¬ n ≤ p) (h1 : spNum tx 0 5 p = .inr (k, q)) (h2 : pgHas ls k = false) (h3 : spNum tx 0 1 q = .inr (b, r)) (h4 : spSign tx 59 r = .inl e) : pgL tx n (f + 1) ls p = .inl e := by simp only [pgL]; rw [if_neg h, h1]; simp only [h2, Bool.false_eq_true, if_false]; rw [h3]; simp only; rw [h4]
theorem pgL_5 (h : ¬ n ≤ p) (h1 : spNum tx 0 5 p = .inr (k, q)) (h2 : pgHas ls k = false) (h3 : spNum tx 0 1 q = .inr (b, r)) (h4 : spSign tx 59 r = .inr (u, s)) : pgL tx n (f + 1) ls p = pgL tx n f (ls ++ [(k, b)]) (sk tx s) := by simp only [pgL]; rw [if_neg h, h1]; simp only [h2, Bool.false_eq_true, if_false]; rw [h3]; simp only; rw [h4]
end PgEq
theorem pgL_9 {tx : tX} {n : Nat} : ∀ (f : Nat) (ls : tC) (p a : Nat), pgL tx n f ls p = .inl (9, a) → a = 0
  | 0, _, _, a, h => by
    injection h with h
    injection h with h1 h2
    exact h2.symm
  | f + 1, ls, p, a, h => by
    simp only [pgL] at h
    have nn : ∀ {lo hi : Int} {p a : Nat}, spNum tx lo hi p = .inl (9, a) → False := by
      intro lo hi p a h
      unfold spNum at h
      split at h
      · split at h
        · cases h
        · injection h with h; injection h with h1 h2; omega
      · injection h with h; injection h with h1 h2; omega
    split at h
    · cases h
    · split at h
      · rename_i e he
        cases h
        exact (nn he).elim
      · split at h
        · injection h with h; injection h with h1 h2; omega
        · split at h
          · rename_i e he2
            cases h
            exact (nn he2).elim
          · split at h
            · rename_i e he3
              cases h
              unfold spSign at he3
              split at he3
              · cases he3
              · injection he3 with h; injection h with h1 h2; omega
            · exact pgL_9 f _ _ a h
theorem pg_no9 {tx : tX} {n p a : Nat} (ht : tOk tx n) (hp : p ≤ n) (e : pgL tx n 700 [] p = .inl (9, a)) : False := by
  have := pgL_9 _ _ _ _ e
  subst this
  exact pgL_fuel ht 700 [] p hp (by have := ht.1; omega) e
set_option maxRecDepth 20000 in
theorem c_has {M : fmM} {Q : fmR → fmM → Prop} {x k : Int32} (ht : (x >>> (k &&& 31) &&& 1) = (1 : Int32) → Q (.inl (some (.int 1))) M) (hf : ¬ (x >>> (k &&& 31) &&& 1) = (1 : Int32) → Q (.inl (some (.int 0))) M) : pvGood Tm 0 qX11_has [.int x, .int k] M Q := by
  refine pvGood_of (Nat.le_of_ble_eq_true rfl) ?_
  show pvEv Tm 0 qX11_has 0 [some (.int x), some (.int k)] [] M Q
  refine pv_iloadn (pc := 0) (n := 0) 0 rfl rfl (fm_dec dtX11_has 0 rfl) ?_
  refine pv_iloadn (pc := 1) (n := 1) 1 rfl rfl (fm_dec dtX11_has 1 rfl) ?_
  refine pv_ishr (pc := 2) (fm_dec dtX11_has 2 rfl) ?_
  refine pv_iconst (pc := 3) (v := 1) (by decide) (fm_dec dtX11_has 3 rfl) ?_
  refine pv_iand (pc := 4) (fm_dec dtX11_has 4 rfl) ?_
  refine pv_iconst (pc := 5) (v := 1) (by decide) (fm_dec dtX11_has 5 rfl) ?_
  refine pv_icmp_ne (pc := 6) 13 (by decide) (fm_dec dtX11_has 6 rfl) (fun hc6 => ?_) (fun hc6 => ?_)
  · refine pv_iconst (pc := 13) (v := 0) (by decide) (fm_dec dtX11_has 9 rfl) ?_
    exact pv_zreturn (pc := 14) rfl (by first | exact Or.inr rfl | exact Or.inl rfl) (fm_dec dtX11_has 10 rfl) (by first | exact ht hc6 | exact hf hc6)
  · refine pv_iconst (pc := 9) (v := 1) (by decide) (fm_dec dtX11_has 7 rfl) ?_
    refine pv_goto (pc := 10) 14 (by decide) (fm_dec dtX11_has 8 rfl) ?_
    exact pv_zreturn (pc := 14) rfl (by first | exact Or.inr rfl | exact Or.inl rfl) (fm_dec dtX11_has 10 rfl) (by first | exact ht hc6 | exact hf hc6)
set_option maxRecDepth 20000 in
theorem pg_t1 {Q : fmR → fmM → Prop} {M : fmM} {nn many been : Int32} {v4 v5 v6 : Option Value} (hf : ¬ M.1 0 5 = 0) (hq : Q (.inl (some (.int (M.1 0 5 - 10)))) (fmI M 0 3 (M.1 0 6))) : pvEv Tm 3 qX11_page 161 [some (.ref 0), some (.int nn), some (.int many), some (.int been), v4, v5, v6] [] M Q := by
  refine pv_aloadn (pc := 161) (n := 0) 0 rfl rfl (fm_dec dtX11_page 91 rfl) ?_
  refine pv_getI (k := 0) (j := 5) (ci := 11) (pc := 162) pfl_X11_117 (by decide) rfl (by decide) (fm_dec dtX11_page 92 rfl) ?_
  refine pv_if_eq (pc := 165) 173 (by decide) (fm_dec dtX11_page 93 rfl) (fun hc165 => by exfalso; exact hf hc165) (fun _ => ?_)
  refine pv_aloadn (pc := 168) (n := 0) 0 rfl rfl (fm_dec dtX11_page 94 rfl) ?_
  refine pv_invV0 (k := 0) (d' := 0) (pc := 169) pcv_X11_187 (by decide) rfl (Nat.le_of_ble_eq_true rfl) (by decide) (fm_dec dtX11_page 95 rfl) ?_
  refine c_ends ?_
  refine pv_then1 ?_
  exact pv_ireturn (pc := 172) rfl (fm_dec dtX11_page 96 rfl) hq
set_option maxRecDepth 20000 in
theorem pg_o1 {Q : fmR → fmM → Prop} {M : fmM} {nn many been : Int32} {v4 v5 v6 : Option Value} (hf : ¬ M.1 0 5 = 0) (hq : Q (.inl (some (.int (M.1 0 5 - 10)))) (fmI M 0 3 (M.1 0 6))) : pvEv Tm 3 qX11_page 48 [some (.ref 0), some (.int nn), some (.int many), some (.int been), v4, v5, v6] [] M Q := by
  refine pv_aloadn (pc := 48) (n := 0) 0 rfl rfl (fm_dec dtX11_page 29 rfl) ?_
  refine pv_getI (k := 0) (j := 5) (ci := 11) (pc := 49) pfl_X11_117 (by decide) rfl (by decide) (fm_dec dtX11_page 30 rfl) ?_
  refine pv_if_ne (pc := 52) 161 (by decide) (fm_dec dtX11_page 31 rfl) (fun _ => ?_) (fun hc52 => by exfalso; exact hf hc52)
  exact pg_t1 hf hq
set_option maxRecDepth 20000 in
theorem pg_t0 {Q : fmR → fmM → Prop} {M : fmM} {nn many been : Int32} {v4 v5 v6 : Option Value} {c : Nat} (hf : M.1 0 5 = 0) (hm : many.toInt = c) (hc : c ≤ 6) (hq : ∀ M' : fmM, lyOk 417 411 2 0 c (fmI (fmI M 0 3 (-1)) 0 31 many) M' → Q (.inl (some (.int many))) M') : pvEv Tm 3 qX11_page 161 [some (.ref 0), some (.int nn), some (.int many), some (.int been), v4, v5, v6] [] M Q := by
  refine pv_aloadn (pc := 161) (n := 0) 0 rfl rfl (fm_dec dtX11_page 91 rfl) ?_
  refine pv_getI (k := 0) (j := 5) (ci := 11) (pc := 162) pfl_X11_117 (by decide) rfl (by decide) (fm_dec dtX11_page 92 rfl) ?_
  refine pv_if_eq (pc := 165) 173 (by decide) (fm_dec dtX11_page 93 rfl) (fun _ => ?_) (fun hc165 => by exfalso; exact hc165 hf)
  refine pv_aloadn (pc := 173) (n := 0) 0 rfl rfl (fm_dec dtX11_page 97 rfl) ?_
  refine pv_iconst (pc := 174) (v := (-1)) (by decide) (fm_dec dtX11_page 98 rfl) ?_
  refine pv_putI (k := 0) (j := 3) (ci := 11) (pc := 175) pfl_X11_9 (by decide) rfl (by decide) (fm_dec dtX11_page 99 rfl) ?_
  refine pv_aloadn (pc := 178) (n := 0) 0 rfl rfl (fm_dec dtX11_page 100 rfl) ?_
  refine pv_iloadn (pc := 179) (n := 2) 2 rfl rfl (fm_dec dtX11_page 101 rfl) ?_
  refine pv_putI (k := 0) (j := 31) (ci := 11) (pc := 180) pfl_X11_197 (by decide) rfl (by decide) (fm_dec dtX11_page 102 rfl) ?_
  refine pv_aloadn (pc := 183) (n := 0) 0 rfl rfl (fm_dec dtX11_page 103 rfl) ?_
  refine pv_getR (k := 0) (j := 22) (ci := 11) (pc := 184) 23 rfl (by decide) pfl_X11_49 (by decide) rfl (by decide) (fm_dec dtX11_page 104 rfl) ?_
  refine pv_aloadn (pc := 187) (n := 0) 0 rfl rfl (fm_dec dtX11_page 105 rfl) ?_
  refine pv_getR (k := 0) (j := 21) (ci := 11) (pc := 188) 22 rfl (by decide) pfl_X11_46 (by decide) rfl (by decide) (fm_dec dtX11_page 106 rfl) ?_
  refine pv_iloadn (pc := 191) (n := 2) 2 rfl rfl (fm_dec dtX11_page 107 rfl) ?_
  refine pv_iS3 (d' := 0) (pc := 192) pcs_X11_190 (Nat.le_of_ble_eq_true rfl) (by decide) (fm_dec dtX11_page 108 rfl) ?_
  refine c_lays_page hm hc (fun M192 h192 => ?_)
  refine pv_then0 ?_
  refine pv_iloadn (pc := 195) (n := 2) 2 rfl rfl (fm_dec dtX11_page 109 rfl) ?_
  exact pv_ireturn (pc := 196) rfl (fm_dec dtX11_page 110 rfl) (hq M192 h192)
set_option maxRecDepth 20000 in
theorem pg_loop {tx : tX} {n : Nat} {M0 : fmM} {nn : Int32} {Q : fmR → fmM → Prop} : ∀ (f : Nat) (M : fmM) (ls : tC) (many been : Int32) (w p : Nat) (v4 v5 v6 : Option Value), rS M tx n p → M.1 0 5 = 0 → pgI M0 M ls many been w → ¬ pgL tx n f ls p = .inl (9, 0) → (∀ (M2 : fmM) (ls2 : tC) (r : Int32), pgL tx n f ls p = .inr ls2 → pgEnd M0 M2 ls2 → r.toInt = (ls2.length : Int) → Q (.inl (some (.int r))) M2) → (∀ (M2 : fmM) (k a : Nat) (r : Int32), pgL tx n f ls p = .inl (k, a) → pgBad M0 M2 a → r.toInt = k → Q (.inl (some (.int (r - 10)))) M2) → pvEv Tm 3 qX11_page 48 [some (.ref 0), some (.int nn), some (.int many), some (.int been), v4, v5, v6] [] M Q := by
  intro f
  induction f with
  | zero => intro M ls many been w p v4 v5 v6 hS hf hI hne hok hbad; exact absurd rfl hne
  | succ f ih =>
    intro M ls many been w p v4 v5 v6 hS hf hI hne hok hbad
    refine pv_aloadn (pc := 48) (n := 0) 0 rfl rfl (fm_dec dtX11_page 29 rfl) ?_
    refine pv_getI (k := 0) (j := 5) (ci := 11) (pc := 49) pfl_X11_117 (by decide) rfl (by decide) (fm_dec dtX11_page 30 rfl) ?_
    refine pv_if_ne (pc := 52) 161 (by decide) (fm_dec dtX11_page 31 rfl) (fun hc52 => by exfalso; exact hc52 hf) (fun _ => ?_)
    refine pv_aloadn (pc := 55) (n := 0) 0 rfl rfl (fm_dec dtX11_page 32 rfl) ?_
    refine pv_getI (k := 0) (j := 4) (ci := 11) (pc := 56) pfl_X11_110 (by decide) rfl (by decide) (fm_dec dtX11_page 33 rfl) ?_
    refine pv_aloadn (pc := 59) (n := 0) 0 rfl rfl (fm_dec dtX11_page 34 rfl) ?_
    refine pv_getI (k := 0) (j := 2) (ci := 11) (pc := 60) pfl_X11_107 (by decide) rfl (by decide) (fm_dec dtX11_page 35 rfl) ?_
    refine pv_icmp_ge (pc := 63) 161 (by decide) (fm_dec dtX11_page 36 rfl) (fun hc63 => ?_) (fun hc63 => ?_)
    · exact pg_t0 hf hI.1 (by have := pop6_le w hI.2.2.1; have := hI.2.2.2.1; omega) (fun M2 h2 => hok M2 ls many (pgL_0 (by rw [sc_le, hS.1, hS.2.1] at hc63; omega)) (hI.fin h2) hI.1)
    · have hpn : ¬ n ≤ p := (by rw [sc_le, hS.1, hS.2.1] at hc63; omega)
      refine pv_aloadn (pc := 66) (n := 0) 0 rfl rfl (fm_dec dtX11_page 37 rfl) ?_
      refine pv_getI (k := 0) (j := 4) (ci := 11) (pc := 67) pfl_X11_110 (by decide) rfl (by decide) (fm_dec dtX11_page 38 rfl) ?_
      refine pv_istore (pc := 70) (i := 4) (by decide) rfl (fm_dec dtX11_page 39 rfl) ?_
      dsimp only [List.set_cons_zero, List.set_cons_succ]
      refine pv_aloadn (pc := 72) (n := 0) 0 rfl rfl (fm_dec dtX11_page 40 rfl) ?_
      refine pv_iconst (pc := 73) (v := 0) (by decide) (fm_dec dtX11_page 41 rfl) ?_
      refine pv_iconst (pc := 74) (v := 5) (by decide) (fm_dec dtX11_page 42 rfl) ?_
      refine pv_invV2 (k := 0) (d' := 2) (pc := 75) pcv_X11_163 (by decide) rfl (Nat.le_of_ble_eq_true rfl) (by decide) (fm_dec dtX11_page 43 rfl) ?_
      refine r_num 0 5 ⟨by decide, by decide, by decide⟩ hS hf (fun M75 k75 q75 w75 e75 hw75 k75o => ?_) (fun Mb kb ab eb hB => ?_)  
      · refine pv_then1 ?_
        have hk6 : k75 < 6 := (by have := (spNum_ok hS.2.2.2.1 hS.2.2.1 e75).2.2.2; omega)
        have ek : w75 = nI k75 := nI_is hw75 (by omega)
        refine pv_istore (pc := 78) (i := 5) (by decide) rfl (fm_dec dtX11_page 44 rfl) ?_
        dsimp only [List.set_cons_zero, List.set_cons_succ]
        refine pv_aloadn (pc := 80) (n := 0) 0 rfl rfl (fm_dec dtX11_page 45 rfl) ?_
        refine pv_getI (k := 0) (j := 5) (ci := 11) (pc := 81) pfl_X11_117 (by decide) rfl (by decide) (fm_dec dtX11_page 46 rfl) ?_
        refine pv_if_ne (pc := 84) 103 (by decide) (fm_dec dtX11_page 47 rfl) (fun hc84 => by exfalso; exact hc84 k75o.2.1) (fun _ => ?_)
        refine pv_iloadn (pc := 87) (n := 3) 3 rfl rfl (fm_dec dtX11_page 48 rfl) ?_
        refine pv_iload (pc := 88) (i := 5) rfl (fm_dec dtX11_page 49 rfl) ?_
        refine pv_iS2 (d' := 0) (pc := 90) pcs_X11_256 (Nat.le_of_ble_eq_true rfl) (by decide) (fm_dec dtX11_page 50 rfl) ?_
        refine c_has (fun h90 => ?_) (fun h90 => ?_)
        · refine pv_then1 ?_
          refine pv_if_eq (pc := 93) 103 (by decide) (fm_dec dtX11_page 51 rfl) (fun hc93 => by exfalso; revert hc93; decide) (fun _ => ?_)
          refine pv_aloadn (pc := 96) (n := 0) 0 rfl rfl (fm_dec dtX11_page 52 rfl) ?_
          refine pv_iconst (pc := 97) (v := 2) (by decide) (fm_dec dtX11_page 53 rfl) ?_
          refine pv_iload (pc := 98) (i := 4) rfl (fm_dec dtX11_page 54 rfl) ?_
          refine pv_invV2 (k := 0) (d' := 0) (pc := 100) pcv_X11_130 (by decide) rfl (Nat.le_of_ble_eq_true rfl) (by decide) (fm_dec dtX11_page 55 rfl) ?_
          refine c_wrongAt (fun _ => ?_) (fun h9 => absurd k75o.2.1 h9) 
          refine pv_then0 ?_
          have hh : pgHas ls k75 = true := (by rw [← hI.2.2.2.2.1 k75 hk6]; rw [hI.2.1, ek] at h90; exact (has6 w hI.2.2.1 k75 hk6).mp h90)
          have hB : rdBad M (fmI (fmI M75 0 5 2) 0 6 (M.1 0 4)) tx n 2 p := (rdBad.at0 k75o.1 (by decide) hS.2.1 (by decide)).pre k75o.2.2
          refine pv_aloadn (pc := 103) (n := 0) 0 rfl rfl (fm_dec dtX11_page 56 rfl) ?_
          refine pv_iconst (pc := 104) (v := 0) (by decide) (fm_dec dtX11_page 57 rfl) ?_
          refine pv_iconst (pc := 105) (v := 1) (by decide) (fm_dec dtX11_page 58 rfl) ?_
          refine pv_invV2 (k := 0) (d' := 2) (pc := 106) pcv_X11_163 (by decide) rfl (Nat.le_of_ble_eq_true rfl) (by decide) (fm_dec dtX11_page 59 rfl) ?_
          refine c_number1 hB.nz ?_
          refine pv_then1 ?_
          refine pv_istore (pc := 109) (i := 6) (by decide) rfl (fm_dec dtX11_page 60 rfl) ?_
          dsimp only [List.set_cons_zero, List.set_cons_succ]
          refine pv_aloadn (pc := 111) (n := 0) 0 rfl rfl (fm_dec dtX11_page 61 rfl) ?_
          refine pv_bipush (pc := 112) (v := 59) (by decide) (fm_dec dtX11_page 62 rfl) ?_
          refine pv_invV1 (k := 0) (d' := 2) (pc := 114) pcv_X11_173 (by decide) rfl (Nat.le_of_ble_eq_true rfl) (by decide) (fm_dec dtX11_page 63 rfl) ?_
          refine c_sign1 hB.nz ?_
          refine pv_then0 ?_
          refine pv_aloadn (pc := 117) (n := 0) 0 rfl rfl (fm_dec dtX11_page 64 rfl) ?_
          refine pv_getI (k := 0) (j := 5) (ci := 11) (pc := 118) pfl_X11_117 (by decide) rfl (by decide) (fm_dec dtX11_page 65 rfl) ?_
          refine pv_if_ne (pc := 121) 154 (by decide) (fm_dec dtX11_page 66 rfl) (fun _ => ?_) (fun hc121 => by exfalso; exact hB.nz hc121)
          refine pv_aloadn (pc := 154) (n := 0) 0 rfl rfl (fm_dec dtX11_page 88 rfl) ?_
          refine pv_invV0 (k := 0) (d' := 1) (pc := 155) pcv_X11_123 (by decide) rfl (Nat.le_of_ble_eq_true rfl) (by decide) (fm_dec dtX11_page 89 rfl) ?_
          refine r_blanks1 hB (fun M155 hB => ?_)
          refine pv_then0 ?_
          refine pv_goto (pc := 158) 48 (by decide) (fm_dec dtX11_page 90 rfl) ?_
          exact pg_o1 hB.nz (hbad _ _ _ _ (pgL_2 hpn e75 hh) (hI.bad hB) hB.2.1)
        · refine pv_then1 ?_
          refine pv_if_eq (pc := 93) 103 (by decide) (fm_dec dtX11_page 51 rfl) (fun _ => ?_) (fun hc93 => by exfalso; revert hc93; decide)
          have hh : pgHas ls k75 = false := (by rw [← hI.2.2.2.2.1 k75 hk6]; rw [hI.2.1, ek] at h90; exact Bool.eq_false_iff.mpr (fun h9 => h90 ((has6 w hI.2.2.1 k75 hk6).mpr h9)))
          refine pv_aloadn (pc := 103) (n := 0) 0 rfl rfl (fm_dec dtX11_page 56 rfl) ?_
          refine pv_iconst (pc := 104) (v := 0) (by decide) (fm_dec dtX11_page 57 rfl) ?_
          refine pv_iconst (pc := 105) (v := 1) (by decide) (fm_dec dtX11_page 58 rfl) ?_
          refine pv_invV2 (k := 0) (d' := 2) (pc := 106) pcv_X11_163 (by decide) rfl (Nat.le_of_ble_eq_true rfl) (by decide) (fm_dec dtX11_page 59 rfl) ?_
          refine r_num 0 1 ⟨by decide, by decide, by decide⟩ k75o.1 k75o.2.1 (fun M106 b106 q106 w106 e106 hw106 k106 => ?_) (fun Mb kb ab eb hB => ?_)  
          · refine pv_then1 ?_
            refine pv_istore (pc := 109) (i := 6) (by decide) rfl (fm_dec dtX11_page 60 rfl) ?_
            dsimp only [List.set_cons_zero, List.set_cons_succ]
            refine pv_aloadn (pc := 111) (n := 0) 0 rfl rfl (fm_dec dtX11_page 61 rfl) ?_
            refine pv_bipush (pc := 112) (v := 59) (by decide) (fm_dec dtX11_page 62 rfl) ?_
            refine pv_invV1 (k := 0) (d' := 2) (pc := 114) pcv_X11_173 (by decide) rfl (Nat.le_of_ble_eq_true rfl) (by decide) (fm_dec dtX11_page 63 rfl) ?_
            refine r_sign 59 ⟨by decide, by decide⟩ k106.1 k106.2.1 (fun M114 q114 e114 k114 => ?_) (fun Mb kb ab eb hB => ?_)  
            · refine pv_then0 ?_
              have hI2 := ((hI.rd k75o.2.2).rd k106.2.2).rd k114.2.2
              have hnb : w.testBit k75 = false := (by rw [hI.2.2.2.2.1 k75 hk6]; exact hh)
              have hl6 : ls.length < 6 := (by have h8 := pop6_add w hI.2.2.1 k75 hk6 hnb; have h9 := pop6_le _ h8.2; have := hI.2.2.2.1; omega)
              have hb1 : b106 ≤ 1 := (by have := (spNum_ok hS.2.2.2.1 k75o.1.2.2.1 e106).2.2.2; omega)
              have hI3 := hI2.add hw75 hw106 hk6 hb1 hnb
              refine pv_aloadn (pc := 117) (n := 0) 0 rfl rfl (fm_dec dtX11_page 64 rfl) ?_
              refine pv_getI (k := 0) (j := 5) (ci := 11) (pc := 118) pfl_X11_117 (by decide) rfl (by decide) (fm_dec dtX11_page 65 rfl) ?_
              refine pv_if_ne (pc := 121) 154 (by decide) (fm_dec dtX11_page 66 rfl) (fun hc121 => by exfalso; exact hc121 k114.2.1) (fun _ => ?_)
              refine pv_iloadn (pc := 124) (n := 3) 3 rfl rfl (fm_dec dtX11_page 67 rfl) ?_
              refine pv_iconst (pc := 125) (v := 1) (by decide) (fm_dec dtX11_page 68 rfl) ?_
              refine pv_iload (pc := 126) (i := 5) rfl (fm_dec dtX11_page 69 rfl) ?_
              refine pv_ishl (pc := 128) (fm_dec dtX11_page 70 rfl) ?_
              refine pv_ior (pc := 129) (fm_dec dtX11_page 71 rfl) ?_
              refine pv_istoren (pc := 130) (n := 3) 3 rfl (by decide) rfl (fm_dec dtX11_page 72 rfl) ?_
              dsimp only [List.set_cons_zero, List.set_cons_succ]
              refine pv_aloadn (pc := 131) (n := 0) 0 rfl rfl (fm_dec dtX11_page 73 rfl) ?_
              refine pv_getR (k := 0) (j := 22) (ci := 11) (pc := 132) 23 rfl (by decide) pfl_X11_49 (by decide) rfl (by decide) (fm_dec dtX11_page 74 rfl) ?_
              refine pv_iloadn (pc := 135) (n := 2) 2 rfl rfl (fm_dec dtX11_page 75 rfl) ?_
              refine pv_aald (k := 23) (n := 6) (r := (417 + ls.length)) (pc := 136) (by decide) (Or.inr (Or.inr rfl)) rfl (rw_readPage.inb hI.1 hl6) (rw_readPage.at hI.1 hl6) (rw_readPage.2.2.2 _ hl6).2.1 (fm_dec dtX11_page 76 rfl) ?_
              refine pv_iconst (pc := 137) (v := 0) (by decide) (fm_dec dtX11_page 77 rfl) ?_
              refine pv_iload (pc := 138) (i := 5) rfl (fm_dec dtX11_page 78 rfl) ?_
              refine pv_iast (k := (417 + ls.length)) (n := 2) (pc := 140) (rw_readPage.2.2.2 _ hl6).2.2.1 (rw_readPage.2.2.2 _ hl6).2.2.2.1 (rw_readPage.2.2.2 _ hl6).2.2.2.2 (fm_inl (by decide)) (fm_dec dtX11_page 79 rfl) ?_
              refine pv_aloadn (pc := 141) (n := 0) 0 rfl rfl (fm_dec dtX11_page 80 rfl) ?_
              refine pv_getR (k := 0) (j := 22) (ci := 11) (pc := 142) 23 rfl (by decide) pfl_X11_49 (by decide) rfl (by decide) (fm_dec dtX11_page 81 rfl) ?_
              refine pv_iloadn (pc := 145) (n := 2) 2 rfl rfl (fm_dec dtX11_page 82 rfl) ?_
              refine pv_aald (k := 23) (n := 6) (r := (417 + ls.length)) (pc := 146) (by decide) (Or.inr (Or.inr rfl)) rfl (rw_readPage.inb hI.1 hl6) (rw_readPage.at hI.1 hl6) (rw_readPage.2.2.2 _ hl6).2.1 (fm_dec dtX11_page 83 rfl) ?_
              refine pv_iconst (pc := 147) (v := 1) (by decide) (fm_dec dtX11_page 84 rfl) ?_
              refine pv_iload (pc := 148) (i := 6) rfl (fm_dec dtX11_page 85 rfl) ?_
              refine pv_iast (k := (417 + ls.length)) (n := 2) (pc := 150) (rw_readPage.2.2.2 _ hl6).2.2.1 (rw_readPage.2.2.2 _ hl6).2.2.2.1 (rw_readPage.2.2.2 _ hl6).2.2.2.2 (fm_inl (by decide)) (fm_dec dtX11_page 86 rfl) ?_
              refine pv_iincc (pc := 151) 2 1 (by decide) rfl (by decide) rfl (fm_dec dtX11_page 87 rfl) ?_
              dsimp only [List.set_cons_zero, List.set_cons_succ]
              have k155S : rS (fmI (fmI M114 (417 + ls.length) 0 w75) (417 + ls.length) 1 w106) tx n q114 := k114.1.of (by simp only [fmI_at]; rw [if_neg (by omega), if_neg (by omega)]) (by simp only [fmI_at]; rw [if_neg (by omega), if_neg (by omega)]) (funext fun j => by simp only [fmI_at]; rw [if_neg (by omega), if_neg (by omega)])
              refine pv_aloadn (pc := 154) (n := 0) 0 rfl rfl (fm_dec dtX11_page 88 rfl) ?_
              refine pv_invV0 (k := 0) (d' := 1) (pc := 155) pcv_X11_123 (by decide) rfl (Nat.le_of_ble_eq_true rfl) (by decide) (fm_dec dtX11_page 89 rfl) ?_
              refine r_blanks k155S (show (fmI (fmI M114 (417 + ls.length) 0 w75) (417 + ls.length) 1 w106).1 0 5 = 0 by simp only [fmI_at]; rw [if_neg (by omega), if_neg (by omega)]; exact k114.2.1) (fun M155 k155 => ?_)
              refine pv_then0 ?_
              refine pv_goto (pc := 158) 48 (by decide) (fm_dec dtX11_page 90 rfl) ?_
              have n1 := spNum_ok hS.2.2.2.1 hS.2.2.1 e75
              have e5 := pgL_5 (f := f) hpn e75 hh e106 e114
              exact ih _ _ _ _ _ _ _ _ _ k155.1 k155.2.1 (hI3.rd k155.2.2) (by rw [← e5]; exact hne) (fun M2 ls2 r e => hok M2 ls2 r (by rw [e5]; exact e)) (fun M2 k a r e => hbad M2 k a r (by rw [e5]; exact e))
            · refine pv_then0 ?_
              have hB := (hB.pre k106.2.2).pre k75o.2.2
              refine pv_aloadn (pc := 117) (n := 0) 0 rfl rfl (fm_dec dtX11_page 64 rfl) ?_
              refine pv_getI (k := 0) (j := 5) (ci := 11) (pc := 118) pfl_X11_117 (by decide) rfl (by decide) (fm_dec dtX11_page 65 rfl) ?_
              refine pv_if_ne (pc := 121) 154 (by decide) (fm_dec dtX11_page 66 rfl) (fun _ => ?_) (fun hc121 => by exfalso; exact hB.nz hc121)
              refine pv_aloadn (pc := 154) (n := 0) 0 rfl rfl (fm_dec dtX11_page 88 rfl) ?_
              refine pv_invV0 (k := 0) (d' := 1) (pc := 155) pcv_X11_123 (by decide) rfl (Nat.le_of_ble_eq_true rfl) (by decide) (fm_dec dtX11_page 89 rfl) ?_
              refine r_blanks1 hB (fun M155 hB => ?_)
              refine pv_then0 ?_
              refine pv_goto (pc := 158) 48 (by decide) (fm_dec dtX11_page 90 rfl) ?_
              exact pg_o1 hB.nz (hbad _ _ _ _ (pgL_4 hpn e75 hh e106 eb) (hI.bad hB) hB.2.1)
          · refine pv_then1 ?_
            have hB := hB.pre k75o.2.2
            refine pv_istore (pc := 109) (i := 6) (by decide) rfl (fm_dec dtX11_page 60 rfl) ?_
            dsimp only [List.set_cons_zero, List.set_cons_succ]
            refine pv_aloadn (pc := 111) (n := 0) 0 rfl rfl (fm_dec dtX11_page 61 rfl) ?_
            refine pv_bipush (pc := 112) (v := 59) (by decide) (fm_dec dtX11_page 62 rfl) ?_
            refine pv_invV1 (k := 0) (d' := 2) (pc := 114) pcv_X11_173 (by decide) rfl (Nat.le_of_ble_eq_true rfl) (by decide) (fm_dec dtX11_page 63 rfl) ?_
            refine c_sign1 hB.nz ?_
            refine pv_then0 ?_
            refine pv_aloadn (pc := 117) (n := 0) 0 rfl rfl (fm_dec dtX11_page 64 rfl) ?_
            refine pv_getI (k := 0) (j := 5) (ci := 11) (pc := 118) pfl_X11_117 (by decide) rfl (by decide) (fm_dec dtX11_page 65 rfl) ?_
            refine pv_if_ne (pc := 121) 154 (by decide) (fm_dec dtX11_page 66 rfl) (fun _ => ?_) (fun hc121 => by exfalso; exact hB.nz hc121)
            refine pv_aloadn (pc := 154) (n := 0) 0 rfl rfl (fm_dec dtX11_page 88 rfl) ?_
            refine pv_invV0 (k := 0) (d' := 1) (pc := 155) pcv_X11_123 (by decide) rfl (Nat.le_of_ble_eq_true rfl) (by decide) (fm_dec dtX11_page 89 rfl) ?_
            refine r_blanks1 hB (fun M155 hB => ?_)
            refine pv_then0 ?_
            refine pv_goto (pc := 158) 48 (by decide) (fm_dec dtX11_page 90 rfl) ?_
            exact pg_o1 hB.nz (hbad _ _ _ _ (pgL_3 hpn e75 hh eb) (hI.bad hB) hB.2.1)
      · refine pv_then1 ?_
        refine pv_istore (pc := 78) (i := 5) (by decide) rfl (fm_dec dtX11_page 44 rfl) ?_
        dsimp only [List.set_cons_zero, List.set_cons_succ]
        refine pv_aloadn (pc := 80) (n := 0) 0 rfl rfl (fm_dec dtX11_page 45 rfl) ?_
        refine pv_getI (k := 0) (j := 5) (ci := 11) (pc := 81) pfl_X11_117 (by decide) rfl (by decide) (fm_dec dtX11_page 46 rfl) ?_
        refine pv_if_ne (pc := 84) 103 (by decide) (fm_dec dtX11_page 47 rfl) (fun _ => ?_) (fun hc84 => by exfalso; exact hB.nz hc84)
        refine pv_aloadn (pc := 103) (n := 0) 0 rfl rfl (fm_dec dtX11_page 56 rfl) ?_
        refine pv_iconst (pc := 104) (v := 0) (by decide) (fm_dec dtX11_page 57 rfl) ?_
        refine pv_iconst (pc := 105) (v := 1) (by decide) (fm_dec dtX11_page 58 rfl) ?_
        refine pv_invV2 (k := 0) (d' := 2) (pc := 106) pcv_X11_163 (by decide) rfl (Nat.le_of_ble_eq_true rfl) (by decide) (fm_dec dtX11_page 59 rfl) ?_
        refine c_number1 hB.nz ?_
        refine pv_then1 ?_
        refine pv_istore (pc := 109) (i := 6) (by decide) rfl (fm_dec dtX11_page 60 rfl) ?_
        dsimp only [List.set_cons_zero, List.set_cons_succ]
        refine pv_aloadn (pc := 111) (n := 0) 0 rfl rfl (fm_dec dtX11_page 61 rfl) ?_
        refine pv_bipush (pc := 112) (v := 59) (by decide) (fm_dec dtX11_page 62 rfl) ?_
        refine pv_invV1 (k := 0) (d' := 2) (pc := 114) pcv_X11_173 (by decide) rfl (Nat.le_of_ble_eq_true rfl) (by decide) (fm_dec dtX11_page 63 rfl) ?_
        refine c_sign1 hB.nz ?_
        refine pv_then0 ?_
        refine pv_aloadn (pc := 117) (n := 0) 0 rfl rfl (fm_dec dtX11_page 64 rfl) ?_
        refine pv_getI (k := 0) (j := 5) (ci := 11) (pc := 118) pfl_X11_117 (by decide) rfl (by decide) (fm_dec dtX11_page 65 rfl) ?_
        refine pv_if_ne (pc := 121) 154 (by decide) (fm_dec dtX11_page 66 rfl) (fun _ => ?_) (fun hc121 => by exfalso; exact hB.nz hc121)
        refine pv_aloadn (pc := 154) (n := 0) 0 rfl rfl (fm_dec dtX11_page 88 rfl) ?_
        refine pv_invV0 (k := 0) (d' := 1) (pc := 155) pcv_X11_123 (by decide) rfl (Nat.le_of_ble_eq_true rfl) (by decide) (fm_dec dtX11_page 89 rfl) ?_
        refine r_blanks1 hB (fun M155 hB => ?_)
        refine pv_then0 ?_
        refine pv_goto (pc := 158) 48 (by decide) (fm_dec dtX11_page 90 rfl) ?_
        exact pg_o1 hB.nz (hbad _ _ _ _ (pgL_1 hpn eb) (hI.bad hB) hB.2.1)
set_option maxRecDepth 20000 in
theorem c_page {M : fmM} {Q : fmR → fmM → Prop} {nn : Int32} (hfed : rFed M) (href : ¬ (0 ≤ nn.toInt ∧ nn.toInt ≤ (M.1 0 1).toInt ∧ nn.toInt ≤ 60) → Q (.inl (some (.int 0))) (rfM M 1 1)) (hok : ∀ (n0 : Nat) (M1 M2 : fmM) (ls : tC) (r : Int32), nn.toInt = n0 → n0 ≤ 60 → (n0 : Int) ≤ (M.1 0 1).toInt → stOk (fmI M 0 0 0) M1 (rT M n0) n0 → spPage (rT M n0) n0 = .inr ls → pgEnd M1 M2 ls → r.toInt = (ls.length : Int) → Q (.inl (some (.int r))) M2) (hbad : ∀ (n0 k a : Nat) (M1 M2 : fmM) (r : Int32), nn.toInt = n0 → n0 ≤ 60 → (n0 : Int) ≤ (M.1 0 1).toInt → stOk (fmI M 0 0 0) M1 (rT M n0) n0 → spPage (rT M n0) n0 = .inl (k, a) → (1 ≤ k ∧ k ≤ 3) ∧ a ≤ n0 → pgBad M1 M2 a → r.toInt = (k : Int) - 10 → Q (.inl (some (.int r))) M2) : pvGood Tm 3 qX11_page [.ref 0, .int nn] M Q := by
  refine pvGood_of (Nat.le_of_ble_eq_true rfl) ?_
  show pvEv Tm 3 qX11_page 0 [some (.ref 0), some (.int nn), none, none, none, none, none] [] M Q
  refine pv_aloadn (pc := 0) (n := 0) 0 rfl rfl (fm_dec dtX11_page 0 rfl) ?_
  refine pv_iconst (pc := 1) (v := 0) (by decide) (fm_dec dtX11_page 1 rfl) ?_
  refine pv_putI (k := 0) (j := 0) (ci := 11) (pc := 2) pfl_X11_101 (by decide) rfl (by decide) (fm_dec dtX11_page 2 rfl) ?_
  refine pv_aloadn (pc := 5) (n := 0) 0 rfl rfl (fm_dec dtX11_page 3 rfl) ?_
  refine pv_iloadn (pc := 6) (n := 1) 1 rfl rfl (fm_dec dtX11_page 4 rfl) ?_
  refine pv_iconst (pc := 7) (v := 0) (by decide) (fm_dec dtX11_page 5 rfl) ?_
  refine pv_aloadn (pc := 8) (n := 0) 0 rfl rfl (fm_dec dtX11_page 6 rfl) ?_
  refine pv_getI (k := 0) (j := 1) (ci := 11) (pc := 9) pfl_X11_104 (by decide) rfl (by decide) (fm_dec dtX11_page 7 rfl) ?_
  refine pv_iS3 (d' := 0) (pc := 12) pcs_X11_135 (Nat.le_of_ble_eq_true rfl) (by decide) (fm_dec dtX11_page 8 rfl) ?_
  refine c_in (fun h12a h12b => ?_) (fun h12 => ?_)
  · refine pv_then1 ?_
    refine pv_if_eq (pc := 15) 24 (by decide) (fm_dec dtX11_page 9 rfl) (fun hc15 => by exfalso; revert hc15; decide) (fun _ => ?_)
    refine pv_iloadn (pc := 18) (n := 1) 1 rfl rfl (fm_dec dtX11_page 10 rfl) ?_
    refine pv_bipush (pc := 19) (v := 60) (by decide) (fm_dec dtX11_page 11 rfl) ?_
    refine pv_icmp_le (pc := 21) 28 (by decide) (fm_dec dtX11_page 12 rfl) (fun hc21 => ?_) (fun hc21 => ?_)
    · refine pv_iconst (pc := 28) (v := 0) (by decide) (fm_dec dtX11_page 15 rfl) ?_
      refine pv_iconst (pc := 29) (v := 1) (by decide) (fm_dec dtX11_page 16 rfl) ?_
      refine pv_iconst (pc := 30) (v := 1) (by decide) (fm_dec dtX11_page 17 rfl) ?_
      refine pv_invV3 (k := 0) (d' := 0) (pc := 31) pcv_X11_177 (by decide) rfl (Nat.le_of_ble_eq_true rfl) (by decide) (fm_dec dtX11_page 18 rfl) ?_
      refine c_badF1 rfl ?_
      refine pv_then1 ?_
      refine pv_if_eq (pc := 34) 39 (by decide) (fm_dec dtX11_page 19 rfl) (fun _ => ?_) (fun hc34 => by exfalso; revert hc34; decide)
      obtain ⟨n0, hn0⟩ : ∃ n0 : Nat, nn.toInt = n0 := ⟨nn.toInt.toNat, by have h9 : (0 : Int32).toInt = 0 := (by decide); omega⟩
      have hn60 : n0 ≤ 60 := (by rw [sc_le] at hc21; have h9 : (60 : Int32).toInt = 60 := (by decide); omega)
      have hnt : (n0 : Int) ≤ (M.1 0 1).toInt := (by have h9 : (nn.toInt : Int) ≤ ((fmI M 0 0 0).1 0 1).toInt := h12b; rw [hn0] at h9; exact h9)
      refine pv_aloadn (pc := 39) (n := 0) 0 rfl rfl (fm_dec dtX11_page 22 rfl) ?_
      refine pv_iloadn (pc := 40) (n := 1) 1 rfl rfl (fm_dec dtX11_page 23 rfl) ?_
      refine pv_invV1 (k := 0) (d' := 2) (pc := 41) pcv_X11_181 (by decide) rfl (Nat.le_of_ble_eq_true rfl) (by decide) (fm_dec dtX11_page 24 rfl) ?_
      refine c_starts (n := n0) (M := fmI M 0 0 0) hfed (by omega) hn0 (fun M41 h41 => ?_) 
      refine pv_then0 ?_
      refine pv_iconst (pc := 44) (v := 0) (by decide) (fm_dec dtX11_page 25 rfl) ?_
      refine pv_istoren (pc := 45) (n := 2) 2 rfl (by decide) rfl (fm_dec dtX11_page 26 rfl) ?_
      dsimp only [List.set_cons_zero, List.set_cons_succ]
      refine pv_iconst (pc := 46) (v := 0) (by decide) (fm_dec dtX11_page 27 rfl) ?_
      refine pv_istoren (pc := 47) (n := 3) 3 rfl (by decide) rfl (fm_dec dtX11_page 28 rfl) ?_
      dsimp only [List.set_cons_zero, List.set_cons_succ]
      have hok9 := rT_ok (n := n0) hfed (by omega)
      have hs0 : sk (rT M n0) 0 ≤ n0 := sp_le tB_1 hok9 (Nat.zero_le _)
      have hne := pgL_fuel hok9 700 [] (sk (rT M n0) 0) hs0 (by omega)
      refine pg_loop (tx := rT M n0) (n := n0) (M0 := M41) 700 M41 [] 0 0 0 (sk (rT M n0) 0) _ _ _ h41.1 h41.2.1 ⟨by decide, by decide, by decide, by decide, by decide, fun i c h => (by cases h), fun l h => (by cases h), fun _ _ _ _ => rfl, fun _ _ _ _ => rfl, rfl⟩ hne (fun M2 ls r e h2 hr => hok n0 M41 M2 ls r hn0 hn60 hnt h41 e h2 hr) (fun M2 k a r e h2 hr => ?_)
      have hk9 := pgL_bad hok9 _ _ _ _ _ hs0 e (by intro h9; subst h9; exact pg_no9 hok9 hs0 e)
      exact hbad n0 k a M41 M2 _ hn0 hn60 hnt h41 e hk9 h2 (law_r hr hk9.1.2)
    · refine pv_iconst (pc := 24) (v := 1) (by decide) (fm_dec dtX11_page 13 rfl) ?_
      refine pv_goto (pc := 25) 29 (by decide) (fm_dec dtX11_page 14 rfl) ?_
      refine pv_iconst (pc := 29) (v := 1) (by decide) (fm_dec dtX11_page 16 rfl) ?_
      refine pv_iconst (pc := 30) (v := 1) (by decide) (fm_dec dtX11_page 17 rfl) ?_
      refine pv_invV3 (k := 0) (d' := 0) (pc := 31) pcv_X11_177 (by decide) rfl (Nat.le_of_ble_eq_true rfl) (by decide) (fm_dec dtX11_page 18 rfl) ?_
      refine c_badT1 rfl (by decide) ?_
      refine pv_then1 ?_
      refine pv_if_eq (pc := 34) 39 (by decide) (fm_dec dtX11_page 19 rfl) (fun hc34 => by exfalso; revert hc34; decide) (fun _ => ?_)
      refine pv_iconst (pc := 37) (v := 0) (by decide) (fm_dec dtX11_page 20 rfl) ?_
      exact pv_ireturn (pc := 38) rfl (fm_dec dtX11_page 21 rfl) (href (by intro h9; first | exact h12 ⟨by have h8 : (0 : Int32).toInt = 0 := (by decide); rw [h8]; exact h9.1, h9.2.1⟩ | (rw [sc_le] at hc21; have h8 : (60 : Int32).toInt = 60 := (by decide); omega)))
  · refine pv_then1 ?_
    refine pv_if_eq (pc := 15) 24 (by decide) (fm_dec dtX11_page 9 rfl) (fun _ => ?_) (fun hc15 => by exfalso; revert hc15; decide)
    refine pv_iconst (pc := 24) (v := 1) (by decide) (fm_dec dtX11_page 13 rfl) ?_
    refine pv_goto (pc := 25) 29 (by decide) (fm_dec dtX11_page 14 rfl) ?_
    refine pv_iconst (pc := 29) (v := 1) (by decide) (fm_dec dtX11_page 16 rfl) ?_
    refine pv_iconst (pc := 30) (v := 1) (by decide) (fm_dec dtX11_page 17 rfl) ?_
    refine pv_invV3 (k := 0) (d' := 0) (pc := 31) pcv_X11_177 (by decide) rfl (Nat.le_of_ble_eq_true rfl) (by decide) (fm_dec dtX11_page 18 rfl) ?_
    refine c_badT1 rfl (by decide) ?_
    refine pv_then1 ?_
    refine pv_if_eq (pc := 34) 39 (by decide) (fm_dec dtX11_page 19 rfl) (fun hc34 => by exfalso; revert hc34; decide) (fun _ => ?_)
    refine pv_iconst (pc := 37) (v := 0) (by decide) (fm_dec dtX11_page 20 rfl) ?_
    exact pv_ireturn (pc := 38) rfl (fm_dec dtX11_page 21 rfl) (href (by intro h9; first | exact h12 ⟨by have h8 : (0 : Int32).toInt = 0 := (by decide); rw [h8]; exact h9.1, h9.2.1⟩ | (rw [sc_le] at hc21; have h8 : (60 : Int32).toInt = 60 := (by decide); omega)))
end
-- P 11h
section
-- DRAWERS AS TEXTS, and the reference's
/-- lives (how many; of each age, odds, worth, hours, piece, by), facts (how many; of each life, kind, week), rules (2 hours, 3 lack, 4 wrong, 5 half) -/
abbrev dD : Type := Nat × (Nat → Nat → Int) × Nat × (Nat → Nat → Int) × (Nat → Int)
def dwK (w : List Int) : Option Nat := if w = [108, 105, 102, 101] then some 0 else if w = [102, 97, 99, 116] then some 1 else if w = [104, 111, 117, 114, 115] then some 2 else if w = [108, 97, 99, 107] then some 3 else if w = [119, 114, 111, 110, 103] then some 4 else if w = [104, 97, 108, 102] then some 5 else if w = [104, 97, 115] then some 6 else if w = [98, 121] then some 7 else none
def dSet (L : Nat → Nat → Int) (i j : Nat) (v : Int) : Nat → Nat → Int := fun i' j' => if i' = i ∧ j' = j then v else L i' j'
def dRow (L : Nat → Nat → Int) (i : Nat) (r : List Int) : Nat → Nat → Int := fun i' j' => if i' = i then r.getD j' 0 else L i' j'
def dLo (k : Nat) : Int := if k = 2 ∨ k = 5 then 1 else 0
def dHi (k : Nat) : Int := if k = 2 then 12 else if k = 5 then 4 else 9
def spLife (tx : tX) (D : dD) (q : Nat) : tR dD := spBind (spNum tx 0 110 q) fun a q => spBind (spNum tx 0 64 q) fun b q => spBind (spNum tx 1 99 q) fun c q => spBind (spNum tx 1 9 q) fun d q => spBind (spSign tx 59 q) fun _ q => .inr ((D.1 + 1, dRow D.2.1 D.1 [a, b, c, d, -1, -1], D.2.2), q)
def spFact (tx : tX) (D : dD) (q : Nat) : tR dD := spBind (spNum tx 0 ((D.1 : Int) - 1) q) fun a q => spBind (spNum tx 0 5 q) fun b q => spBind (spNum tx 1 60 q) fun c q => spBind (spSign tx 59 q) fun _ q => .inr ((D.1, D.2.1, D.2.2.1 + 1, dRow D.2.2.2.1 D.2.2.1 [a, b, c], D.2.2.2.2), q)
def spHas (tx : tX) (D : dD) (q : Nat) : tR dD := spBind (spNum tx 0 ((D.1 : Int) - 1) q) fun a q => spBind (spNum tx 0 40 q) fun b q => spBind (spSign tx 59 q) fun _ q => .inr ((D.1, dSet D.2.1 a 4 b, D.2.2), q)
def spBy (tx : tX) (D : dD) (q : Nat) : tR dD := spBind (spNum tx 0 ((D.1 : Int) - 1) q) fun a q => spBind (spNum tx 0 ((D.1 : Int) - 1) q) fun b q2 => if a = b then .inl (2, sk tx q) else spBind (spSign tx 59 q2) fun _ q => .inr ((D.1, dSet D.2.1 a 5 b, D.2.2), q)
def spRule (tx : tX) (D : dD) (k q : Nat) : tR dD := spBind (spNum tx (dLo k) (dHi k) q) fun v q => spBind (spSign tx 59 q) fun _ q => .inr ((D.1, D.2.1, D.2.2.1, D.2.2.2.1, fun k' => if k' = k then (v : Int) else D.2.2.2.2 k'), q)
def spClause (tx : tX) (c : Nat) (D : dD) (p : Nat) : tR dD := match dwK (wd tx (sk tx p)) with
  | none => .inl (1, sk tx p)
  | some k => if c = 60 ∨ (k = 0 ∧ D.1 = 8) ∨ (k = 1 ∧ D.2.2.1 = 24) then .inl (3, sk tx p) else match k with
    | 0 => spLife tx D (sp tW tx (sk tx p))
    | 1 => spFact tx D (sp tW tx (sk tx p))
    | 6 => spHas tx D (sp tW tx (sk tx p))
    | 7 => spBy tx D (sp tW tx (sk tx p))
    | k => spRule tx D k (sp tW tx (sk tx p))
def dD0 : dD := (0, fun _ _ => 0, 0, fun _ _ => 0, fun k => if k = 2 then 8 else if k = 3 then 5 else if k = 4 then 3 else 2)
def dwL (tx : tX) (n : Nat) : Nat → Nat → dD → Nat → (Nat × Nat) ⊕ dD
  | 0, _, _, _ => .inl (9, 0)
  | f + 1, c, D, p => if n ≤ p then .inr D else match spClause tx c D p with
    | .inl e => .inl e
    | .inr (D', q) => dwL tx n f (c + 1) D' (sk tx q)
def spDrawer (tx : tX) (n : Nat) : (Nat × Nat) ⊕ dD := dwL tx n 700 0 dD0 (sk tx 0)
/-- a drawer that can be -/
def dOk (D : dD) : Prop := D.1 ≤ 8 ∧ D.2.2.1 ≤ 24 ∧ (∀ i, i < D.1 → (0 ≤ D.2.1 i 0 ∧ D.2.1 i 0 ≤ 110) ∧ (0 ≤ D.2.1 i 1 ∧ D.2.1 i 1 ≤ 64) ∧ (1 ≤ D.2.1 i 2 ∧ D.2.1 i 2 ≤ 99) ∧ (1 ≤ D.2.1 i 3 ∧ D.2.1 i 3 ≤ 9) ∧ (-1 ≤ D.2.1 i 4 ∧ D.2.1 i 4 ≤ 40) ∧ (-1 ≤ D.2.1 i 5 ∧ D.2.1 i 5 < D.1 ∧ D.2.1 i 5 ≠ i)) ∧ (∀ i, i < D.2.2.1 → (0 ≤ D.2.2.2.1 i 0 ∧ D.2.2.2.1 i 0 < D.1) ∧ (0 ≤ D.2.2.2.1 i 1 ∧ D.2.2.2.1 i 1 ≤ 5) ∧ (1 ≤ D.2.2.2.1 i 2 ∧ D.2.2.2.1 i 2 ≤ 60)) ∧ (1 ≤ D.2.2.2.2 2 ∧ D.2.2.2.2 2 ≤ 12) ∧ (0 ≤ D.2.2.2.2 3 ∧ D.2.2.2.2 3 ≤ 9) ∧ (0 ≤ D.2.2.2.2 4 ∧ D.2.2.2.2 4 ≤ 9) ∧ (1 ≤ D.2.2.2.2 5 ∧ D.2.2.2.2 5 ≤ 4)
theorem dOk_0 : dOk dD0 := ⟨by decide, by decide, fun i h => (by cases h), fun i h => (by cases h), by decide, by decide, by decide, by decide⟩
/-- a clause read is a drawer that can be, and more is read -/
theorem spClause_ok {tx : tX} {n c p q : Nat} {D D' : dD} (ht : tOk tx n) (hp : p ≤ n) (hD : dOk D) (h : spClause tx c D p = .inr (D', q)) : dOk D' ∧ p < q ∧ q ≤ n := by
  have s1 : p ≤ sk tx p := sp_ge p
  have s2 : sk tx p ≤ n := sp_le tB_1 ht hp
  have w1 := sp_ge (P := tW) (tx := tx) (sk tx p)
  have w2 := sp_le (p := sk tx p) tW_1 ht s2
  obtain ⟨d1, d2, d3, d4, d5, d6, d7, d8⟩ := hD
  unfold spClause at h
  split at h
  · cases h
  · rename_i k hk
    split at h
    · cases h
    · rename_i hfull
      split at h
      · obtain ⟨a, q1, e1, h⟩ := spBind_ok h
        obtain ⟨b, q2, e2, h⟩ := spBind_ok h
        obtain ⟨c', q3, e3, h⟩ := spBind_ok h
        obtain ⟨d, q4, e4, h⟩ := spBind_ok h
        obtain ⟨u, q5, e5, h⟩ := spBind_ok h
        cases h
        have a1 := spNum_ok ht w2 e1
        have a2 := spNum_ok ht a1.2.1 e2
        have a3 := spNum_ok ht a2.2.1 e3
        have a4 := spNum_ok ht a3.2.1 e4
        have a5 := spSign_ok ht a4.2.1 (by omega) e5
        have hl : D.1 < 8 := by omega
        refine ⟨⟨by show D.1 + 1 ≤ 8; omega, d2, fun i hi => ?_, fun i hi => ?_, d5, d6, d7, d8⟩, by omega, a5.2⟩
        · have hi : i < D.1 + 1 := hi
          show (0 ≤ dRow D.2.1 D.1 [(a : Int), b, c', d, -1, -1] i 0 ∧ _) ∧ _
          by_cases e : i = D.1
          · subst e
            simp only [dRow, if_true]
            simp
            omega
          · have := d3 i (by omega)
            simp only [dRow, e, if_false]
            show _ ∧ _ ∧ _ ∧ _ ∧ _ ∧ (_ ∧ _ < ((D.1 + 1 : Nat) : Int) ∧ _)
            omega
        · have := d4 i hi
          have h9 := this.1.2
          refine ⟨⟨this.1.1, ?_⟩, this.2⟩
          show D.2.2.2.1 i 0 < ((D.1 + 1 : Nat) : Int)
          omega
      · obtain ⟨a, q1, e1, h⟩ := spBind_ok h
        obtain ⟨b, q2, e2, h⟩ := spBind_ok h
        obtain ⟨c', q3, e3, h⟩ := spBind_ok h
        obtain ⟨u, q5, e5, h⟩ := spBind_ok h
        cases h
        have a1 := spNum_ok ht w2 e1
        have a2 := spNum_ok ht a1.2.1 e2
        have a3 := spNum_ok ht a2.2.1 e3
        have a5 := spSign_ok ht a3.2.1 (by omega) e5
        have hl : D.2.2.1 < 24 := by omega
        refine ⟨⟨d1, by show D.2.2.1 + 1 ≤ 24; omega, d3, fun i hi => ?_, d5, d6, d7, d8⟩, by omega, a5.2⟩
        have hi : i < D.2.2.1 + 1 := hi
        show (0 ≤ dRow D.2.2.2.1 D.2.2.1 [(a : Int), b, c'] i 0 ∧ _) ∧ _
        by_cases e : i = D.2.2.1
        · subst e
          simp only [dRow, if_true]
          simp
          omega
        · have := d4 i (by omega)
          simp only [dRow, e, if_false]
          exact this
      · obtain ⟨a, q1, e1, h⟩ := spBind_ok h
        obtain ⟨b, q2, e2, h⟩ := spBind_ok h
        obtain ⟨u, q5, e5, h⟩ := spBind_ok h
        cases h
        have a1 := spNum_ok ht w2 e1
        have a2 := spNum_ok ht a1.2.1 e2
        have a5 := spSign_ok ht a2.2.1 (by omega) e5
        refine ⟨⟨d1, d2, fun i hi => ?_, d4, d5, d6, d7, d8⟩, by omega, a5.2⟩
        have := d3 i hi
        simp only [dSet]
        refine ⟨by simpa using this.1, by simpa using this.2.1, by simpa using this.2.2.1, by simpa using this.2.2.2.1, ?_, by simpa using this.2.2.2.2.2⟩
        split
        · omega
        · exact this.2.2.2.2.1
      · obtain ⟨a, q1, e1, h⟩ := spBind_ok h
        obtain ⟨b, q2, e2, h⟩ := spBind_ok h
        split at h
        · cases h
        · rename_i hab
          obtain ⟨u, q5, e5, h⟩ := spBind_ok h
          cases h
          have a1 := spNum_ok ht w2 e1
          have a2 := spNum_ok ht a1.2.1 e2
          have a5 := spSign_ok ht a2.2.1 (by omega) e5
          refine ⟨⟨d1, d2, fun i hi => ?_, d4, d5, d6, d7, d8⟩, by omega, a5.2⟩
          have := d3 i hi
          simp only [dSet]
          refine ⟨by simpa using this.1, by simpa using this.2.1, by simpa using this.2.2.1, by simpa using this.2.2.2.1, by simpa using this.2.2.2.2.1, ?_⟩
          split
          · rename_i e
            have := e.1
            omega
          · exact this.2.2.2.2.2
      · rename_i k2 h0 h1 h6 h7
        obtain ⟨v, q1, e1, h⟩ := spBind_ok h
        obtain ⟨u, q5, e5, h⟩ := spBind_ok h
        cases h
        have a1 := spNum_ok ht w2 e1
        have a5 := spSign_ok ht a1.2.1 (by omega) e5
        have hk5 : k = 2 ∨ k = 3 ∨ k = 4 ∨ k = 5 := by
          have h0' : ¬ k = 0 := h0
          have h1' : ¬ k = 1 := h1
          have h6' : ¬ k = 6 := h6
          have h7' : ¬ k = 7 := h7
          unfold dwK at hk
          repeat' split at hk
          all_goals (first | (injection hk with hk; omega) | cases hk)
        refine ⟨⟨d1, d2, d3, d4, ?_, ?_, ?_, ?_⟩, by omega, a5.2⟩
        all_goals (rcases hk5 with e | e | e | e <;> subst e <;> simp [dLo, dHi] at a1 ⊢ <;> omega)
end
-- P 11i
section
-- THE REFERENCE READS DRAWERS
def dRep (M : fmM) (D : dD) : Prop := (M.1 3 0).toInt = (D.1 : Int) ∧ (M.1 3 1).toInt = (D.2.2.1 : Int) ∧ (∀ k, 2 ≤ k → k ≤ 5 → (M.1 3 k).toInt = D.2.2.2.2 k) ∧ (∀ i, i < D.1 → ∀ j, j < 6 → (M.1 (27 + i) j).toInt = D.2.1 i j) ∧ ∀ i, i < D.2.2.1 → ∀ j, j < 3 → (M.1 (43 + i) j).toInt = D.2.2.2.1 i j
def clFr (M M' : fmM) : Prop := (∀ k j, k ≠ 0 → k ≠ 3 → ¬ (27 ≤ k ∧ k < 35) → ¬ (43 ≤ k ∧ k < 67) → M'.1 k j = M.1 k j) ∧ (∀ j, j ≠ 4 → j ≠ 5 → j ≠ 6 → j ≠ 7 → M'.1 0 j = M.1 0 j) ∧ M'.2 = M.2
def clOk (M M' : fmM) (tx : tX) (n q : Nat) (D : dD) : Prop := rS M' tx n q ∧ M'.1 0 5 = 0 ∧ dRep M' D ∧ M'.1 0 7 = M.1 0 7 + 1 ∧ clFr M M'
def clBad (M M' : fmM) (tx : tX) (n k a : Nat) : Prop := (∃ q, rS M' tx n q) ∧ (M'.1 0 5).toInt = k ∧ (M'.1 0 6).toInt = a ∧ k ≠ 0 ∧ clFr M M'
theorem clFr.refl (M : fmM) : clFr M M := ⟨fun _ _ _ _ _ _ => rfl, fun _ _ _ _ _ => rfl, rfl⟩
theorem clFr.rd {M M1 M2 : fmM} (h : clFr M M1) (h' : rdFr M1 M2) : clFr M M2 := ⟨fun k j a b c d => (h'.1 k j a).trans (h.1 k j a b c d), fun j a b c d => (h'.2.1 j a b c).trans (h.2.1 j a b c d), h'.2.2.trans h.2.2⟩
theorem clFr.trans {M M1 M2 : fmM} (h : clFr M M1) (h' : clFr M1 M2) : clFr M M2 := ⟨fun k j a b c d => (h'.1 k j a b c d).trans (h.1 k j a b c d), fun j a b c d => (h'.2.1 j a b c d).trans (h.2.1 j a b c d), h'.2.2.trans h.2.2⟩
theorem clFr.row {M M1 : fmM} {k j : Nat} {x : Int32} (h : clFr M M1) (hk : k = 3 ∨ (27 ≤ k ∧ k < 35) ∨ (43 ≤ k ∧ k < 67)) : clFr M (fmI M1 k j x) := by
  refine ⟨fun k' j' a b c d => ?_, fun j' a b c d => ?_, h.2.2⟩
  · rw [fmI_k _ _ (by omega)]
    exact h.1 k' j' a b c d
  · rw [fmI_k _ _ (by omega)]
    exact h.2.1 j' a b c d
theorem clFr.c7 {M M1 : fmM} {x : Int32} (h : clFr M M1) : clFr M (fmI M1 0 7 x) := by
  refine ⟨fun k' j' a b c d => ?_, fun j' a b c d => ?_, h.2.2⟩
  · rw [fmI_k _ _ a]
    exact h.1 k' j' a b c d
  · rw [fmI_j _ _ d]
    exact h.2.1 j' a b c d
theorem clBad.row {M M1 : fmM} {tx : tX} {n kf a k j : Nat} {x : Int32} (hk : k = 3 ∨ (27 ≤ k ∧ k < 35) ∨ (43 ≤ k ∧ k < 67)) (h : clBad M M1 tx n kf a) : clBad M (fmI M1 k j x) tx n kf a := by
  obtain ⟨⟨q, h1⟩, h2, h3, h4, h5⟩ := h
  have e : ∀ j', (fmI M1 k j x).1 0 j' = M1.1 0 j' := fun j' => by rw [fmI_k _ _ (by omega)]
  refine ⟨⟨q, h1.of (e 2) (e 4) ?_⟩, by rw [e]; exact h2, by rw [e]; exact h3, h4, h5.row hk⟩
  rw [fmI_k _ _ (by omega)]
theorem clBad.of {M M1 M2 : fmM} {tx : tX} {n k a : Nat} (h : clFr M M1) (hB : rdBad M1 M2 tx n k a) : clBad M M2 tx n k a := ⟨hB.1, hB.2.1, hB.2.2.1, hB.2.2.2.1, h.rd hB.2.2.2.2⟩
theorem clBad.nz {M M' : fmM} {tx : tX} {n k a : Nat} (h : clBad M M' tx n k a) : ¬ M'.1 0 5 = 0 := by
  intro e
  have h1 := h.2.1
  rw [e] at h1
  have e0 : (0 : Int32).toInt = 0 := by decide
  have := h.2.2.2.1
  omega
theorem rS.row {M : fmM} {tx : tX} {n p k j : Nat} {x : Int32} (h : rS M tx n p) (hk : k ≠ 0 ∧ k ≠ 1) : rS (fmI M k j x) tx n p := h.of (by rw [fmI_k _ _ (fun e => hk.1 e.symm)]) (by rw [fmI_k _ _ (fun e => hk.1 e.symm)]) (by rw [fmI_k _ _ (fun e => hk.2 e.symm)])
theorem f0.row {M : fmM} {k j i : Nat} {x v : Int32} (h : M.1 0 i = v) (hk : k ≠ 0) : (fmI M k j x).1 0 i = v := by rw [fmI_k _ _ (fun e => hk e.symm)]; exact h
theorem dRep.rd {M M' : fmM} {D : dD} (h : dRep M D) (hf : rdFr M M') : dRep M' D := by
  obtain ⟨h1, h2, h3, h4, h5⟩ := h
  refine ⟨?_, ?_, fun k a b => ?_, fun i hi j hj => ?_, fun i hi j hj => ?_⟩
  · rw [hf.1 _ _ (by decide)]; exact h1
  · rw [hf.1 _ _ (by decide)]; exact h2
  · rw [hf.1 _ _ (by decide)]; exact h3 k a b
  · rw [hf.1 _ _ (by omega)]; exact h4 i hi j hj
  · rw [hf.1 _ _ (by omega)]; exact h5 i hi j hj
theorem rep_life {M2 Ma Mb Mc Md Me : fmM} {D : dD} {wa wb wc wd : Int32} {a b c d : Nat} (h : dRep M2 D) (hl : D.1 < 8) (f1 : rdFr M2 Ma) (f2 : rdFr (fmI Ma (27 + D.1) 0 wa) Mb) (f3 : rdFr (fmI Mb (27 + D.1) 1 wb) Mc) (f4 : rdFr (fmI Mc (27 + D.1) 2 wc) Md) (f5 : rdFr (fmI (fmI (fmI (fmI Md (27 + D.1) 3 wd) (27 + D.1) 4 (-1)) (27 + D.1) 5 (-1)) 3 0 ((fmI (fmI (fmI Md (27 + D.1) 3 wd) (27 + D.1) 4 (-1)) (27 + D.1) 5 (-1)).1 3 0 + 1)) Me) (ha : wa.toInt = a) (hb : wb.toInt = b) (hc : wc.toInt = c) (hd : wd.toInt = d) : dRep Me (D.1 + 1, dRow D.2.1 D.1 [(a : Int), b, c, d, -1, -1], D.2.2) := by
  obtain ⟨h1, h2, h3, h4, h5⟩ := h
  have g : ∀ k j, k ≠ 0 → k ≠ 27 + D.1 → Md.1 k j = M2.1 k j := fun k j a b => by
    rw [f4.1 k j a, fmI_k _ _ b, f3.1 k j a, fmI_k _ _ b, f2.1 k j a, fmI_k _ _ b, f1.1 k j a]
  have r0 : Md.1 (27 + D.1) 0 = wa := by
    rw [f4.1 _ _ (by omega), fmI_j _ _ (by decide), f3.1 _ _ (by omega), fmI_j _ _ (by decide), f2.1 _ _ (by omega), fmI_s]
  have r1 : Md.1 (27 + D.1) 1 = wb := by
    rw [f4.1 _ _ (by omega), fmI_j _ _ (by decide), f3.1 _ _ (by omega), fmI_s]
  have r2 : Md.1 (27 + D.1) 2 = wc := by
    rw [f4.1 _ _ (by omega), fmI_s]
  have e3 : ∀ j, j ≠ 0 → Me.1 3 j = M2.1 3 j := fun j hj => by
    rw [f5.1 _ _ (by decide), fmI_j _ _ hj, fmI_k _ _ (by omega), fmI_k _ _ (by omega), fmI_k _ _ (by omega), g 3 j (by decide) (by omega)]
  refine ⟨?_, ?_, fun k a b => ?_, fun i hi j hj => ?_, fun i hi j hj => ?_⟩
  · rw [f5.1 _ _ (by decide), fmI_s, fmI_k _ _ (by omega), fmI_k _ _ (by omega), fmI_k _ _ (by omega), g 3 0 (by decide) (by omega)]
    exact i32_p1 h1 (by omega)
  · rw [e3 1 (by decide)]
    exact h2
  · rw [e3 k (by omega)]
    exact h3 k a b
  · rw [f5.1 _ _ (by omega), fmI_k _ _ (by omega)]
    have hi : i < D.1 + 1 := hi
    by_cases e : i = D.1
    · subst e
      show _ = dRow D.2.1 D.1 [(a : Int), b, c, d, -1, -1] D.1 j
      simp only [dRow, if_true]
      rcases (show j = 0 ∨ j = 1 ∨ j = 2 ∨ j = 3 ∨ j = 4 ∨ j = 5 by omega) with rfl | rfl | rfl | rfl | rfl | rfl
      · rw [fmI_j _ _ (by decide), fmI_j _ _ (by decide), fmI_j _ _ (by decide), r0]; exact ha
      · rw [fmI_j _ _ (by decide), fmI_j _ _ (by decide), fmI_j _ _ (by decide), r1]; exact hb
      · rw [fmI_j _ _ (by decide), fmI_j _ _ (by decide), fmI_j _ _ (by decide), r2]; exact hc
      · rw [fmI_j _ _ (by decide), fmI_j _ _ (by decide), fmI_s]; exact hd
      · rw [fmI_j _ _ (by decide), fmI_s]; rfl
      · rw [fmI_s]; rfl
    · show _ = dRow D.2.1 D.1 [(a : Int), b, c, d, -1, -1] i j
      simp only [dRow, e, if_false]
      rw [fmI_k _ _ (by omega), fmI_k _ _ (by omega), fmI_k _ _ (by omega), g _ _ (by omega) (by omega)]
      exact h4 i (by omega) j hj
  · rw [f5.1 _ _ (by omega), fmI_k _ _ (by omega), fmI_k _ _ (by omega), fmI_k _ _ (by omega), fmI_k _ _ (by omega), g _ _ (by omega) (by omega)]
    exact h5 i hi j hj
theorem rep_fact {M2 Ma Mb Mc Me : fmM} {D : dD} {wa wb wc : Int32} {a b c : Nat} (h : dRep M2 D) (hl : D.1 ≤ 8) (hf : D.2.2.1 < 24) (f1 : rdFr M2 Ma) (f2 : rdFr (fmI Ma (43 + D.2.2.1) 0 wa) Mb) (f3 : rdFr (fmI Mb (43 + D.2.2.1) 1 wb) Mc) (f5 : rdFr (fmI (fmI Mc (43 + D.2.2.1) 2 wc) 3 1 ((fmI Mc (43 + D.2.2.1) 2 wc).1 3 1 + 1)) Me) (ha : wa.toInt = a) (hb : wb.toInt = b) (hc : wc.toInt = c) : dRep Me (D.1, D.2.1, D.2.2.1 + 1, dRow D.2.2.2.1 D.2.2.1 [(a : Int), b, c], D.2.2.2.2) := by
  obtain ⟨h1, h2, h3, h4, h5⟩ := h
  have g : ∀ k j, k ≠ 0 → k ≠ 43 + D.2.2.1 → Mc.1 k j = M2.1 k j := fun k j a b => by
    rw [f3.1 k j a, fmI_k _ _ b, f2.1 k j a, fmI_k _ _ b, f1.1 k j a]
  have r0 : Mc.1 (43 + D.2.2.1) 0 = wa := by
    rw [f3.1 _ _ (by omega), fmI_j _ _ (by decide), f2.1 _ _ (by omega), fmI_s]
  have r1 : Mc.1 (43 + D.2.2.1) 1 = wb := by
    rw [f3.1 _ _ (by omega), fmI_s]
  have e3 : ∀ j, j ≠ 1 → Me.1 3 j = M2.1 3 j := fun j hj => by
    rw [f5.1 _ _ (by decide), fmI_j _ _ hj, fmI_k _ _ (by omega), g 3 j (by decide) (by omega)]
  refine ⟨?_, ?_, fun k a b => ?_, fun i hi j hj => ?_, fun i hi j hj => ?_⟩
  · rw [e3 0 (by decide)]
    exact h1
  · rw [f5.1 _ _ (by decide), fmI_s, fmI_k _ _ (by omega), g 3 1 (by decide) (by omega)]
    exact i32_p1 h2 (by omega)
  · rw [e3 k (by omega)]
    exact h3 k a b
  · have hi : i < D.1 := hi
    rw [f5.1 _ _ (by omega), fmI_k _ _ (by omega), fmI_k _ _ (by omega), g _ _ (by omega) (by omega)]
    exact h4 i hi j hj
  · rw [f5.1 _ _ (by omega), fmI_k _ _ (by omega)]
    have hi : i < D.2.2.1 + 1 := hi
    by_cases e : i = D.2.2.1
    · subst e
      show _ = dRow D.2.2.2.1 D.2.2.1 [(a : Int), b, c] D.2.2.1 j
      simp only [dRow, if_true]
      rcases (show j = 0 ∨ j = 1 ∨ j = 2 by omega) with rfl | rfl | rfl
      · rw [fmI_j _ _ (by decide), r0]; exact ha
      · rw [fmI_j _ _ (by decide), r1]; exact hb
      · rw [fmI_s]; exact hc
    · show _ = dRow D.2.2.2.1 D.2.2.1 [(a : Int), b, c] i j
      simp only [dRow, e, if_false]
      rw [fmI_k _ _ (by omega), g _ _ (by omega) (by omega)]
      exact h5 i (by omega) j hj
/-- one number of a life -/
theorem rep_set {M2 Me : fmM} {D : dD} {w : Int32} {i c : Nat} {v : Int} (h : dRep M2 D) (hi : i < D.1) (hl : D.1 ≤ 8) (f5 : rdFr (fmI M2 (27 + i) c w) Me) (hw : w.toInt = v) : dRep Me (D.1, dSet D.2.1 i c v, D.2.2) := by
  obtain ⟨h1, h2, h3, h4, h5⟩ := h
  refine ⟨?_, ?_, fun k a b => ?_, fun i' hi' j hj => ?_, fun i' hi' j hj => ?_⟩
  · rw [f5.1 _ _ (by decide), fmI_k _ _ (by omega)]; exact h1
  · rw [f5.1 _ _ (by decide), fmI_k _ _ (by omega)]; exact h2
  · rw [f5.1 _ _ (by decide), fmI_k _ _ (by omega)]; exact h3 k a b
  · rw [f5.1 _ _ (by omega), fmI_at]
    show _ = dSet D.2.1 i c v i' j
    simp only [dSet]
    have e : (27 + i' = 27 + i ∧ j = c) ↔ (i' = i ∧ j = c) := by omega
    by_cases e2 : i' = i ∧ j = c
    · rw [if_pos (e.mpr e2), if_pos e2]; exact hw
    · rw [if_neg (fun h => e2 (e.mp h)), if_neg e2]; exact h4 i' hi' j hj
  · rw [f5.1 _ _ (by omega), fmI_k _ _ (by omega)]; exact h5 i' hi' j hj
theorem rep_rule {M2 Me : fmM} {D : dD} {w : Int32} {k : Nat} {v : Int} (h : dRep M2 D) (hk : 2 ≤ k ∧ k ≤ 5) (f5 : rdFr (fmI M2 3 k w) Me) (hw : w.toInt = v) : dRep Me (D.1, D.2.1, D.2.2.1, D.2.2.2.1, fun k' => if k' = k then v else D.2.2.2.2 k') := by
  obtain ⟨h1, h2, h3, h4, h5⟩ := h
  refine ⟨?_, ?_, fun k' a b => ?_, fun i' hi' j hj => ?_, fun i' hi' j hj => ?_⟩
  · rw [f5.1 _ _ (by decide), fmI_j _ _ (by omega)]; exact h1
  · rw [f5.1 _ _ (by decide), fmI_j _ _ (by omega)]; exact h2
  · rw [f5.1 _ _ (by decide)]
    show _ = if k' = k then v else D.2.2.2.2 k'
    by_cases e : k' = k
    · subst e
      rw [fmI_s, if_pos rfl]; exact hw
    · rw [fmI_j _ _ e, if_neg e]; exact h3 k' a b
  · rw [f5.1 _ _ (by omega), fmI_k _ _ (by omega)]; exact h4 i' hi' j hj
  · rw [f5.1 _ _ (by omega), fmI_k _ _ (by omega)]; exact h5 i' hi' j hj
end
