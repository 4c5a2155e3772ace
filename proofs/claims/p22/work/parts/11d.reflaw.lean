-- THE REFERENCE READS LAWS
/-- since M, nothing has changed but the reading's own numbers and what is noted from place m on -/
def lwFr (m : Nat) (M M' : fmM) : Prop := (∀ k j, k ≠ 0 → ¬ (251 + m ≤ k ∧ k < 411) → M'.1 k j = M.1 k j) ∧ (∀ j, j ≠ 4 → j ≠ 5 → j ≠ 6 → j ≠ 8 → j ≠ 18 → M'.1 0 j = M.1 0 j) ∧ M'.2 = M.2
def lwRep (M : fmM) (m : Nat) (cs : tC) : Prop := ∀ i c, cs[i]? = some c → (M.1 (251 + m + i) 0).toInt = c.1 ∧ (M.1 (251 + m + i) 1).toInt = c.2
def lwOk (M M' : fmM) (tx : tX) (n q m : Nat) (cs : tC) : Prop := rS M' tx n q ∧ M'.1 0 5 = 0 ∧ M'.1 0 8 = M.1 0 8 ∧ (M'.1 0 18).toInt = ((m + cs.length : Nat) : Int) ∧ lwRep M' m cs ∧ lwFr m M M'
def lwBad (M M' : fmM) (tx : tX) (n k a m : Nat) : Prop := (∃ q, rS M' tx n q) ∧ (M'.1 0 5).toInt = k ∧ (M'.1 0 6).toInt = a ∧ k ≠ 0 ∧ lwFr m M M'
theorem lwFr.trans {m m' : Nat} {M M1 M2 : fmM} (h : lwFr m M M1) (h' : lwFr m' M1 M2) (hm : m ≤ m') : lwFr m M M2 := by
  refine ⟨fun k j h1 h2 => ?_, fun j a b c d e => ?_, h'.2.2.trans h.2.2⟩
  · rw [h'.1 k j h1 (by omega), h.1 k j h1 h2]
  · rw [h'.2.1 j a b c d e, h.2.1 j a b c d e]
theorem lwFr.refl (m : Nat) (M : fmM) : lwFr m M M := ⟨fun _ _ _ _ => rfl, fun _ _ _ _ _ _ => rfl, rfl⟩
theorem lwFr.set {m j : Nat} {M M1 : fmM} {x : Int32} (h : lwFr m M M1) (hj : j = 4 ∨ j = 5 ∨ j = 6 ∨ j = 8 ∨ j = 18) : lwFr m M (fmI M1 0 j x) := by
  refine ⟨fun k i h1 h2 => ?_, fun i a b c d e => ?_, h.2.2⟩
  · rw [fmI_k M1 x h1]
    exact h.1 k i h1 h2
  · rw [fmI_j M1 x (by omega)]
    exact h.2.1 i a b c d e
theorem lwBad.nz {M M' : fmM} {tx : tX} {n k a m : Nat} (h : lwBad M M' tx n k a m) : ¬ M'.1 0 5 = 0 := by
  intro e
  have h1 := h.2.1
  rw [e] at h1
  have e0 : (0 : Int32).toInt = 0 := by decide
  have := h.2.2.2.1
  omega
theorem lwOk.trans {M M1 M2 : fmM} {tx : tX} {n q q2 m : Nat} {cs ds : tC} (h : lwOk M M1 tx n q m cs) (h' : lwOk M1 M2 tx n q2 (m + cs.length) ds) (hl : m + cs.length ≤ 160) : lwOk M M2 tx n q2 m (cs ++ ds) := by
  obtain ⟨a1, a2, a3, a4, a5, a6⟩ := h
  obtain ⟨b1, b2, b3, b4, b5, b6⟩ := h'
  refine ⟨b1, b2, b3.trans a3, ?_, ?_, a6.trans b6 (by omega)⟩
  · rw [b4, List.length_append]
    omega
  · intro i c hi
    by_cases h : i < cs.length
    · rw [List.getElem?_append_left h] at hi
      have := a5 i c hi
      rw [b6.1 _ _ (by omega) (by omega), b6.1 _ _ (by omega) (by omega)]
      exact this
    · rw [List.getElem?_append_right (by omega)] at hi
      have := b5 (i - cs.length) c hi
      rw [show 251 + m + i = 251 + (m + cs.length) + (i - cs.length) by omega]
      exact this
theorem lwOk.bad {M M1 M2 : fmM} {tx : tX} {n q k a m : Nat} {cs : tC} (h : lwOk M M1 tx n q m cs) (h' : lwBad M1 M2 tx n k a (m + cs.length)) : lwBad M M2 tx n k a m := ⟨h'.1, h'.2.1, h'.2.2.1, h'.2.2.2.1, h.2.2.2.2.2.trans h'.2.2.2.2 (by omega)⟩
/-- only the place has moved -/
theorem lwOk.at {M : fmM} {tx : tX} {n p q m : Nat} {x : Int32} (hS : rS M tx n p) (hf : M.1 0 5 = 0) (hm : (M.1 0 18).toInt = m) (hx : x.toInt = q) (hq : q ≤ n) : lwOk M (fmI M 0 4 x) tx n q m [] := ⟨hS.set hx hq, hf, rfl, hm, fun i c h => (by cases h), (lwFr.refl m M).set (Or.inl rfl)⟩
theorem lwBad.at {M : fmM} {tx : tX} {n p q k a m : Nat} {x kk aa : Int32} (hS : rS M tx n p) (hx : x.toInt = q) (hq : q ≤ n) (hk : kk.toInt = k) (ha : aa.toInt = a) (h0 : k ≠ 0) : lwBad M (fmI (fmI (fmI M 0 4 x) 0 5 kk) 0 6 aa) tx n k a m := ⟨⟨q, (hS.set hx hq).of rfl rfl rfl⟩, hk, ha, h0, (((lwFr.refl m M).set (Or.inl rfl)).set (Or.inr (Or.inl rfl))).set (Or.inr (Or.inr (Or.inl rfl)))⟩
/-- a bracket is closed -/
theorem lwBad.opn {M M1 : fmM} {tx : tX} {n k a m : Nat} {x : Int32} (h : lwBad M M1 tx n k a m) : lwBad M (fmI M1 0 8 x) tx n k a m := by
  obtain ⟨⟨q, h1⟩, h2, h3, h4, h5⟩ := h
  exact ⟨⟨q, h1.of rfl rfl rfl⟩, h2, h3, h4, h5.set (by omega)⟩
theorem lwBad.pre {M0 M M1 : fmM} {tx : tX} {n k a m m' : Nat} (h : lwBad M M1 tx n k a m') (hf : lwFr m M0 M) (hm : m ≤ m') : lwBad M0 M1 tx n k a m := ⟨h.1, h.2.1, h.2.2.1, h.2.2.2.1, hf.trans h.2.2.2.2 hm⟩
theorem l_sign {M : fmM} {Q : fmR → fmM → Prop} {tx : tX} {n p m : Nat} {c : Int32} (ci : Int) (hci : c.toInt = ci ∧ 0 ≤ ci) (hS : rS M tx n p) (hf : M.1 0 5 = 0) (hm : (M.1 0 18).toInt = m) (hok : ∀ (M' : fmM) (q : Nat), spSign tx ci p = .inr ((), q) → lwOk M M' tx n q m [] → Q (.inl none) M') (hbad : ∀ (M' : fmM) (k a : Nat), spSign tx ci p = .inl (k, a) → lwBad M M' tx n k a m → Q (.inl none) M') : pvGood Tm 2 qX11_sign [.ref 0, .int c] M Q := by
  obtain ⟨e, h0⟩ := hci
  subst e
  exact c_sign hS hf (fun q x e hx hq => hok _ q e (lwOk.at hS hf hm hx hq)) (fun k a q x kk aa e hk ha hx hq => hbad _ k a e (lwBad.at hS hx hq hk ha (by have := (spSign_bad hS.2.2.2.1 hS.2.2.1 e).2.2; omega))) h0
theorem l_num {M : fmM} {Q : fmR → fmM → Prop} {tx : tX} {n p m : Nat} {lo hi : Int32} (li hj : Int) (hl : lo.toInt = li ∧ hi.toInt = hj ∧ hj < 100000) (hS : rS M tx n p) (hf : M.1 0 5 = 0) (hm : (M.1 0 18).toInt = m) (hok : ∀ (M' : fmM) (v q : Nat) (w : Int32), spNum tx li hj p = .inr (v, q) → w.toInt = v → lwOk M M' tx n q m [] → Q (.inl (some (.int w))) M') (hbad : ∀ (M' : fmM) (k a : Nat), spNum tx li hj p = .inl (k, a) → lwBad M M' tx n k a m → Q (.inl (some (.int 0))) M') : pvGood Tm 2 qX11_number [.ref 0, .int lo, .int hi] M Q := by
  obtain ⟨e1, e2, h0⟩ := hl
  subst e1
  subst e2
  exact c_number hS hf h0 (fun v q x w e hw hx => hok _ v q w e hw (lwOk.at hS hf hm hx (spNum_ok hS.2.2.2.1 hS.2.2.1 e).2.1)) (fun k a q x kk aa e hk ha hx hq => hbad _ k a e (lwBad.at hS hx hq hk ha (by have := (spNum_bad hS.2.2.2.1 hS.2.2.1 e).2.2; omega)))
theorem lwOk.tr {M M1 M2 : fmM} {tx : tX} {n q q2 m m' : Nat} {cs ds es : tC} (h : lwOk M M1 tx n q m cs) (h' : lwOk M1 M2 tx n q2 m' ds) (hl : m' < 160) (e : m' = m + cs.length := by simp [Nat.add_assoc]) (e2 : cs ++ ds = es := by simp) : lwOk M M2 tx n q2 m es := by
  subst e
  subst e2
  exact h.trans h' (by omega)
theorem lwOk.bd {M M1 M2 : fmM} {tx : tX} {n q k a m m' : Nat} {cs : tC} (h : lwOk M M1 tx n q m cs) (h' : lwBad M1 M2 tx n k a m') (e : m' = m + cs.length := by simp [Nat.add_assoc]) : lwBad M M2 tx n k a m := by
  subst e
  exact h.bad h'
/-- the row of a note -/
theorem lw_row {m : Nat} (hm : m < 160) : 251 + m < Tm.1 ∧ Tm.2.1 (251 + m) = 0 ∧ Tm.2.2.1 (251 + m) = 2 := by
  have h : ∀ i, i < 160 → 251 + i < Tm.1 ∧ Tm.2.1 (251 + i) = 0 ∧ Tm.2.2.1 (251 + i) = 2 := by decide +kernel
  exact h m hm
theorem lw_at {x : Int32} {m : Nat} (hx : x.toInt = m) (hm : m < 160) : Tm.2.2.2 21 x.toNatClampNeg = 251 + m ∧ vp_in x 160 := by
  have e : x.toNatClampNeg = m := by
    show x.toInt.toNat = m
    omega
  rw [e]
  exact ⟨rfl, vp_in_iff.mpr ⟨by omega, by omega⟩⟩
theorem op_6 {x : Int32} {o : Nat} (ho : x.toInt = o) (h : x = 6) : o = 6 := by
  rw [h] at ho
  have e : (6 : Int32).toInt = 6 := by decide
  omega
theorem op_n {x : Int32} {o : Nat} (ho : x.toInt = o) (h : ¬ x = 6) : ¬ o = 6 := by
  intro e
  apply h
  apply i32_ext
  rw [ho, e]
  decide
theorem sk_sk {tx : tX} {n p : Nat} (ht : tOk tx n) (hp : p ≤ n) : sk tx (sk tx p) = sk tx p := sp_f (sp_stop tB_1 ht hp)
def lwPre (M : fmM) (tx : tX) (n p o m : Nat) : Prop := rS M tx n p ∧ M.1 0 5 = 0 ∧ (M.1 0 8).toInt = o ∧ o ≤ 6 ∧ (M.1 0 18).toInt = m ∧ m ≤ p ∧ n ≤ 150
def lwPo (r : tR tC) (M : fmM) (tx : tX) (n m : Nat) (Q : fmM → Prop) : Prop := (∀ (M' : fmM) (cs : tC) (q : Nat), r = .inr (cs, q) → lwOk M M' tx n q m cs → Q M') ∧ ∀ (M' : fmM) (k a : Nat), r = .inl (k, a) → lwBad M M' tx n k a m → Q M'
def lwG (tx : tX) (n f md : Nat) : Prop := ∀ (o p m : Nat) (M : fmM) (Q : fmR → fmM → Prop), lwPre M tx n p o m → ¬ spL tx f md o p = .inl (9, 0) → lwPo (spL tx f md o p) M tx n m (Q (.inl none)) → match md with
  | 0 => pvGood Tm (8 + 3 * (6 - o)) qX11_sum [.ref 0] M Q
  | 1 => pvGood Tm (7 + 3 * (6 - o)) qX11_product [.ref 0] M Q
  | 2 => pvGood Tm (6 + 3 * (6 - o)) qX11_one [.ref 0] M Q
  | 3 => ∀ v : Option Value, pvEv Tm (8 + 3 * (6 - o)) qX11_sum 4 [some (.ref 0), v] [] M Q
  | _ => ∀ v : Option Value, pvEv Tm (7 + 3 * (6 - o)) qX11_product 4 [some (.ref 0), v] [] M Q
theorem lwPre.next {M M1 : fmM} {tx : tX} {n p o m q : Nat} {cs : tC} (h : lwPre M tx n p o m) (k : lwOk M M1 tx n q m cs) (hq : p + cs.length ≤ q) : lwPre M1 tx n q o (m + cs.length) := ⟨k.1, k.2.1, by rw [k.2.2.1]; exact h.2.2.1, h.2.2.2.1, k.2.2.2.1, by have := h.2.2.2.2.2.1; omega, h.2.2.2.2.2.2⟩
theorem lwPre.at {M : fmM} {tx : tX} {n p o m q : Nat} {x : Int32} (h : lwPre M tx n p o m) (hx : x.toInt = q) (hq : q ≤ n) (hp : p ≤ q) : lwPre (fmI M 0 4 x) tx n q o m := ⟨h.1.set hx hq, h.2.1, h.2.2.1, h.2.2.2.1, h.2.2.2.2.1, by have := h.2.2.2.2.2.1; omega, h.2.2.2.2.2.2⟩
theorem lwPre.lt {M : fmM} {tx : tX} {n p o m : Nat} (h : lwPre M tx n p o m) : m < 160 := by
  have h1 := h.1.2.2.1
  have h2 := h.2.2.2.2.2.1
  have h3 := h.2.2.2.2.2.2
  omega
theorem spApp_ok {r : tR tC} {k : Nat → tR tC} {cs ds : tC} {q q2 : Nat} (e : r = .inr (cs, q)) (e2 : k q = .inr (ds, q2)) : spApp r k = .inr (cs ++ ds, q2) := by
  unfold spApp
  rw [e]
  simp only [spBind]
  rw [e2]
theorem spApp_b1 {r : tR tC} {k : Nat → tR tC} {e : Nat × Nat} (h : r = .inl e) : spApp r k = .inl e := by
  unfold spApp
  rw [h]
  rfl
theorem spApp_b2 {r : tR tC} {k : Nat → tR tC} {cs : tC} {q : Nat} {e : Nat × Nat} (h : r = .inr (cs, q)) (h2 : k q = .inl e) : spApp r k = .inl e := by
  unfold spApp
  rw [h]
  simp only [spBind]
  rw [h2]
theorem spOp_ok {c : Nat} {r : tR tC} {k : Nat → tR tC} {cs ds : tC} {q q2 : Nat} (e : r = .inr (cs, q)) (e2 : k q = .inr (ds, q2)) : spOp c r k = .inr (cs ++ (c, 0) :: ds, q2) := by
  unfold spOp
  rw [e]
  simp only [spBind]
  rw [e2]
theorem spOp_b1 {c : Nat} {r : tR tC} {k : Nat → tR tC} {e : Nat × Nat} (h : r = .inl e) : spOp c r k = .inl e := by
  unfold spOp
  rw [h]
  rfl
theorem spOp_b2 {c : Nat} {r : tR tC} {k : Nat → tR tC} {cs : tC} {q : Nat} {e : Nat × Nat} (h : r = .inr (cs, q)) (h2 : k q = .inl e) : spOp c r k = .inl e := by
  unfold spOp
  rw [h]
  simp only [spBind]
  rw [h2]
/-- what came ahead of a note, the note, and what follows -/
theorem lwOk.op {M M1 M2 M3 : fmM} {tx : tX} {n q q2 m c : Nat} {cs ds : tC} (h : lwOk M M1 tx n q m cs) (h2 : lwOk M1 M2 tx n q (m + cs.length) [(c, 0)]) (h3 : lwOk M2 M3 tx n q2 (m + (cs.length + 1)) ds) (hl : m + cs.length < 160) : lwOk M M3 tx n q2 m (cs ++ (c, 0) :: ds) := by
  have a := (h.trans h2 (by omega)).trans (ds := ds) (M2 := M3) (q2 := q2) (by simpa using h3) (by simp; omega)
  rw [List.append_assoc] at a
  exact a
theorem lwOk.pre {M0 M M1 : fmM} {tx : tX} {n q m : Nat} {cs : tC} (h : lwOk M M1 tx n q m cs) (hf : lwFr m M0 M) (ho : M.1 0 8 = M0.1 0 8) : lwOk M0 M1 tx n q m cs := ⟨h.1, h.2.1, h.2.2.1.trans ho, h.2.2.2.1, h.2.2.2.2.1, hf.trans h.2.2.2.2.2 (Nat.le_refl _)⟩
theorem lwFr.at {m : Nat} {M : fmM} {x : Int32} : lwFr m M (fmI M 0 4 x) := (lwFr.refl m M).set (Or.inl rfl)
theorem i32_add_sub (x : Int32) : x + 1 - 1 = x := by
  apply Int32.toBitVec_inj.mp
  simp
theorem lwOk.cl {M0 M M5 : fmM} {tx : tX} {n q m : Nat} {cs : tC} (h : lwOk M M5 tx n q m cs) (hf : lwFr m M0 M) (ho : M.1 0 8 = M0.1 0 8 + 1) : lwOk M0 (fmI M5 0 8 (M5.1 0 8 - 1)) tx n q m cs := by
  obtain ⟨a1, a2, a3, a4, a5, a6⟩ := h
  refine ⟨a1.of rfl rfl rfl, a2, ?_, a4, fun i c h => (by rw [fmI_k _ _ (by omega)]; exact a5 i c h), (hf.trans a6 (Nat.le_refl _)).set (by omega)⟩
  rw [fmI_s, a3, ho, i32_add_sub]
theorem lwBad.cl {M0 M M5 : fmM} {tx : tX} {n k a m : Nat} (h : lwBad M M5 tx n k a m) (hf : lwFr m M0 M) : lwBad M0 (fmI M5 0 8 (M5.1 0 8 - 1)) tx n k a m := (h.pre hf (Nat.le_refl _)).opn
theorem spTwo_ne1 {tx : tX} {rc : Nat → tR tC} {c q q1 : Nat} {u : Unit} (h : ¬ spTwo tx rc c q = .inl (9, 0)) (e1 : spSign tx 91 q = .inr (u, q1)) : ¬ rc q1 = .inl (9, 0) := spBind_ne (spBind_ne2 h e1)
theorem spTwo_ne2 {tx : tX} {rc : Nat → tR tC} {c q q1 q2 q3 : Nat} {u v : Unit} {cs : tC} (h : ¬ spTwo tx rc c q = .inl (9, 0)) (e1 : spSign tx 91 q = .inr (u, q1)) (e2 : rc q1 = .inr (cs, q2)) (e3 : spSign tx 44 q2 = .inr (v, q3)) : ¬ rc q3 = .inl (9, 0) := spBind_ne (spBind_ne2 (spBind_ne2 (spBind_ne2 h e1) e2) e3)
theorem lwOk.cs {M M' : fmM} {tx : tX} {n q m : Nat} {cs ds : tC} (h : lwOk M M' tx n q m cs) (e : cs = ds) : lwOk M M' tx n q m ds := e ▸ h
theorem tw_len {M M' : fmM} {tx : tX} {n k a m m' : Nat} (h : lwBad M M' tx n k a m) (e : m = m' := by simp [Nat.add_assoc]) : lwBad M M' tx n k a m' := e ▸ h
theorem tw_l2 {M M' : fmM} {tx : tX} {n q m m' : Nat} {cs : tC} (h : lwOk M M' tx n q m cs) (e : m = m' := by simp [Nat.add_assoc]) : lwOk M M' tx n q m' cs := e ▸ h
theorem tw_b {m m' : Nat} (h : m < 160) (e : m = m' := by simp [Nat.add_assoc]) : m' ≤ 160 := by omega
/-- a bracket is opened -/
theorem lwPre.opn {M : fmM} {tx : tX} {n p o m : Nat} (h : lwPre M tx n p o m) (h6 : ¬ o = 6) : lwPre (fmI M 0 8 (M.1 0 8 + 1)) tx n p (o + 1) m := by
  have h1 := h.2.2.2.1
  refine ⟨h.1.of rfl rfl rfl, h.2.1, ?_, by omega, h.2.2.2.2.1, h.2.2.2.2.2.1, h.2.2.2.2.2.2⟩
  rw [fmI_s]
  exact i32_p1 h.2.2.1 (by omega)
/-- too many of them -/
theorem lwPre.full {M : fmM} {tx : tX} {n p o m k : Nat} {kk : Int32} (h : lwPre M tx n p o m) (hk : kk.toInt = k ∧ k ≠ 0) : lwBad M (fmI (fmI M 0 5 kk) 0 6 (M.1 0 4)) tx n k p m := ⟨⟨p, h.1.of rfl rfl rfl⟩, hk.1, h.1.2.1, hk.2, ((lwFr.refl m M).set (Or.inr (Or.inl rfl))).set (Or.inr (Or.inr (Or.inl rfl)))⟩
section SpOne
variable {tx : tX} {rc : Nat → tR tC} {o a : Nat}
theorem spOne_1 (e : wd tx a = lwLeast) : (¬ o = 6 → spOne tx rc o a = spTwo tx rc 6 (sp tW tx a)) ∧ (o = 6 → spOne tx rc o a = .inl (3, a)) := by
  unfold spOne
  rw [if_pos e]
  exact ⟨fun h => if_neg h, fun h => if_pos h⟩
theorem spOne_2 (e1 : ¬ wd tx a = lwLeast) (e : wd tx a = lwMost) : (¬ o = 6 → spOne tx rc o a = spTwo tx rc 7 (sp tW tx a)) ∧ (o = 6 → spOne tx rc o a = .inl (3, a)) := by
  unfold spOne
  rw [if_neg e1, if_pos e]
  exact ⟨fun h => if_neg h, fun h => if_pos h⟩
theorem spOne_3 (e1 : ¬ wd tx a = lwLeast) (e2 : ¬ wd tx a = lwMost) (e : tx a = 40) : (¬ o = 6 → spOne tx rc o a = spPar tx rc (a + 1)) ∧ (o = 6 → spOne tx rc o a = .inl (3, a)) := by
  unfold spOne
  rw [if_neg e1, if_neg e2, if_pos e]
  exact ⟨fun h => if_neg h, fun h => if_pos h⟩
theorem spOne_4 {k : Nat} (e1 : ¬ wd tx a = lwLeast) (e2 : ¬ wd tx a = lwMost) (e3 : ¬ tx a = 40) (e : lwK (wd tx a) = some k) : spOne tx rc o a = .inr ([(1, k)], sp tW tx a) := by
  unfold spOne
  rw [if_neg e1, if_neg e2, if_neg e3, e]
theorem spOne_5 {v q : Nat} (e1 : ¬ wd tx a = lwLeast) (e2 : ¬ wd tx a = lwMost) (e3 : ¬ tx a = 40) (e : lwK (wd tx a) = none) (e5 : spNum tx 0 999 a = .inr (v, q)) : spOne tx rc o a = .inr ([(0, v)], q) := by
  unfold spOne
  rw [if_neg e1, if_neg e2, if_neg e3, e, e5]
  rfl
theorem spOne_6 {b : Nat × Nat} (e1 : ¬ wd tx a = lwLeast) (e2 : ¬ wd tx a = lwMost) (e3 : ¬ tx a = 40) (e : lwK (wd tx a) = none) (e5 : spNum tx 0 999 a = .inl b) : spOne tx rc o a = .inl b := by
  unfold spOne
  rw [if_neg e1, if_neg e2, if_neg e3, e, e5]
  rfl
end SpOne
set_option maxRecDepth 20000 in
theorem c_notes {M : fmM} {Q : fmR → fmM → Prop} {m : Nat} {w v : Int32} (hf : M.1 0 5 = 0) (hm : (M.1 0 18).toInt = m) (hm6 : m < 160) (hq : Q (.inl none) (fmI (fmI (fmI M (251 + m) 0 w) (251 + m) 1 v) 0 18 (M.1 0 18 + 1))) : pvGood Tm 0 qX11_notes [.ref 0, .int w, .int v] M Q := by
  refine pvGood_of (Nat.le_of_ble_eq_true rfl) ?_
  show pvEv Tm 0 qX11_notes 0 [some (.ref 0), some (.int w), some (.int v)] [] M Q
  refine pv_aloadn (pc := 0) (n := 0) 0 rfl rfl (fm_dec dtX11_notes 0 rfl) ?_
  refine pv_getI (k := 0) (j := 5) (ci := 11) (pc := 1) pfl_X11_117 (by decide) rfl (by decide) (fm_dec dtX11_notes 1 rfl) ?_
  refine pv_if_eq (pc := 4) 8 (by decide) (fm_dec dtX11_notes 2 rfl) (fun _ => ?_) (fun hc4 => by exfalso; exact hc4 hf)
  refine pv_aloadn (pc := 8) (n := 0) 0 rfl rfl (fm_dec dtX11_notes 4 rfl) ?_
  refine pv_getR (k := 0) (j := 20) (ci := 11) (pc := 9) 21 rfl (by decide) pfl_X11_43 (by decide) rfl (by decide) (fm_dec dtX11_notes 5 rfl) ?_
  refine pv_aloadn (pc := 12) (n := 0) 0 rfl rfl (fm_dec dtX11_notes 6 rfl) ?_
  refine pv_getI (k := 0) (j := 18) (ci := 11) (pc := 13) pfl_X11_209 (by decide) rfl (by decide) (fm_dec dtX11_notes 7 rfl) ?_
  refine pv_aald (k := 21) (n := 160) (r := (251 + m)) (pc := 16) (by decide) (Or.inr (Or.inr rfl)) rfl (lw_at hm hm6).2 (lw_at hm hm6).1 (by omega) (fm_dec dtX11_notes 8 rfl) ?_
  refine pv_iconst (pc := 17) (v := 0) (by decide) (fm_dec dtX11_notes 9 rfl) ?_
  refine pv_iloadn (pc := 18) (n := 1) 1 rfl rfl (fm_dec dtX11_notes 10 rfl) ?_
  refine pv_iast (k := (251 + m)) (n := 2) (pc := 19) (lw_row hm6).1 (lw_row hm6).2.1 (lw_row hm6).2.2 (fm_inl (by decide)) (fm_dec dtX11_notes 11 rfl) ?_
  refine pv_aloadn (pc := 20) (n := 0) 0 rfl rfl (fm_dec dtX11_notes 12 rfl) ?_
  refine pv_getR (k := 0) (j := 20) (ci := 11) (pc := 21) 21 rfl (by decide) pfl_X11_43 (by decide) rfl (by decide) (fm_dec dtX11_notes 13 rfl) ?_
  refine pv_aloadn (pc := 24) (n := 0) 0 rfl rfl (fm_dec dtX11_notes 14 rfl) ?_
  refine pv_getI (k := 0) (j := 18) (ci := 11) (pc := 25) pfl_X11_209 (by decide) rfl (by decide) (fm_dec dtX11_notes 15 rfl) ?_
  refine pv_aald (k := 21) (n := 160) (r := (251 + m)) (pc := 28) (by decide) (Or.inr (Or.inr rfl)) rfl (lw_at (show ((fmI M (251 + m) 0 w).1 0 18).toInt = m by rw [fmI_k M w (by omega)]; exact hm) hm6).2 (lw_at (show ((fmI M (251 + m) 0 w).1 0 18).toInt = m by rw [fmI_k M w (by omega)]; exact hm) hm6).1 (by omega) (fm_dec dtX11_notes 16 rfl) ?_
  refine pv_iconst (pc := 29) (v := 1) (by decide) (fm_dec dtX11_notes 17 rfl) ?_
  refine pv_iloadn (pc := 30) (n := 2) 2 rfl rfl (fm_dec dtX11_notes 18 rfl) ?_
  refine pv_iast (k := (251 + m)) (n := 2) (pc := 31) (lw_row hm6).1 (lw_row hm6).2.1 (lw_row hm6).2.2 (fm_inl (by decide)) (fm_dec dtX11_notes 19 rfl) ?_
  refine pv_aloadn (pc := 32) (n := 0) 0 rfl rfl (fm_dec dtX11_notes 20 rfl) ?_
  refine pv_dup (pc := 33) rfl (fm_dec dtX11_notes 21 rfl) ?_
  refine pv_getI (k := 0) (j := 18) (ci := 11) (pc := 34) pfl_X11_209 (by decide) rfl (by decide) (fm_dec dtX11_notes 22 rfl) ?_
  refine pv_iconst (pc := 37) (v := 1) (by decide) (fm_dec dtX11_notes 23 rfl) ?_
  refine pv_iadd (pc := 38) (fm_dec dtX11_notes 24 rfl) ?_
  refine pv_putI (k := 0) (j := 18) (ci := 11) (pc := 39) pfl_X11_209 (by decide) rfl (by decide) (fm_dec dtX11_notes 25 rfl) ?_
  exact pv_return (pc := 42) rfl (fm_dec dtX11_notes 26 rfl) (by rw [fmI_k _ _ (show (0 : Nat) ≠ 251 + m by omega), fmI_k _ _ (show (0 : Nat) ≠ 251 + m by omega)]; exact hq)
set_option maxRecDepth 20000 in
theorem c_notes1 {M : fmM} {Q : fmR → fmM → Prop} {w v : Int32} (hf : ¬ M.1 0 5 = 0) (hq : Q (.inl none) M) : pvGood Tm 0 qX11_notes [.ref 0, .int w, .int v] M Q := by
  refine pvGood_of (Nat.le_of_ble_eq_true rfl) ?_
  show pvEv Tm 0 qX11_notes 0 [some (.ref 0), some (.int w), some (.int v)] [] M Q
  refine pv_aloadn (pc := 0) (n := 0) 0 rfl rfl (fm_dec dtX11_notes 0 rfl) ?_
  refine pv_getI (k := 0) (j := 5) (ci := 11) (pc := 1) pfl_X11_117 (by decide) rfl (by decide) (fm_dec dtX11_notes 1 rfl) ?_
  refine pv_if_eq (pc := 4) 8 (by decide) (fm_dec dtX11_notes 2 rfl) (fun hc4 => by exfalso; exact hf hc4) (fun _ => ?_)
  exact pv_return (pc := 7) rfl (fm_dec dtX11_notes 3 rfl) hq
theorem l_notes {M : fmM} {Q : fmR → fmM → Prop} {tx : tX} {n p m : Nat} {w v : Int32} (wn vn : Nat) (hS : rS M tx n p) (hf : M.1 0 5 = 0) (hm : (M.1 0 18).toInt = m) (hm6 : m < 160) (hw : w.toInt = wn) (hv : v.toInt = vn) (hok : ∀ M' : fmM, lwOk M M' tx n p m [(wn, vn)] → Q (.inl none) M') : pvGood Tm 0 qX11_notes [.ref 0, .int w, .int v] M Q := by
  refine c_notes hf hm hm6 (hok _ ?_)
  have e1 : ∀ j, (fmI (fmI (fmI M (251 + m) 0 w) (251 + m) 1 v) 0 18 (M.1 0 18 + 1)).1 0 j = if j = 18 then M.1 0 18 + 1 else M.1 0 j := by
    intro j
    by_cases e : j = 18
    · subst e
      rw [fmI_s]
      rfl
    · rw [fmI_j _ _ e, fmI_k _ _ (by omega), fmI_k _ _ (by omega), if_neg e]
  have e2 : ∀ k j, k ≠ 0 → k ≠ 251 + m → (fmI (fmI (fmI M (251 + m) 0 w) (251 + m) 1 v) 0 18 (M.1 0 18 + 1)).1 k j = M.1 k j := by
    intro k j h1 h2
    rw [fmI_k _ _ h1, fmI_k _ _ h2, fmI_k _ _ h2]
  refine ⟨hS.of (e1 2) (e1 4) (funext fun j => e2 1 j (by omega) (by omega)), by rw [e1]; exact hf, e1 8, ?_, ?_, ?_, ?_, rfl⟩
  · rw [e1]
    exact i32_p1 hm (by omega)
  · intro i c hi
    cases i with
    | zero =>
      cases hi
      have r0 : (fmI (fmI (fmI M (251 + m) 0 w) (251 + m) 1 v) 0 18 (M.1 0 18 + 1)).1 (251 + m) 0 = w := by rw [fmI_k _ _ (by omega), fmI_j _ _ (by omega), fmI_s]
      have r1 : (fmI (fmI (fmI M (251 + m) 0 w) (251 + m) 1 v) 0 18 (M.1 0 18 + 1)).1 (251 + m) 1 = v := by rw [fmI_k _ _ (by omega), fmI_s]
      rw [Nat.add_zero, r0, r1]
      exact ⟨hw, hv⟩
    | succ i => simp at hi
  · intro k j h1 h2
    exact e2 k j h1 (by omega)
  · intro j a b c d e
    rw [e1, if_neg e]
set_option maxRecDepth 20000 in
theorem c_opens {M : fmM} {Q : fmR → fmM → Prop} {tx : tX} {n p o : Nat} (hS : rS M tx n p) (hf : M.1 0 5 = 0) (ho : (M.1 0 8).toInt = o) (h6 : o = 6 → Q (.inl (some (.int 0))) (fmI (fmI M 0 5 3) 0 6 (M.1 0 4))) (hn : ¬ o = 6 → Q (.inl (some (.int 1))) (fmI M 0 8 (M.1 0 8 + 1))) : pvGood Tm 1 qX11_opens [.ref 0] M Q := by
  refine pvGood_of (Nat.le_of_ble_eq_true rfl) ?_
  show pvEv Tm 1 qX11_opens 0 [some (.ref 0)] [] M Q
  refine pv_aloadn (pc := 0) (n := 0) 0 rfl rfl (fm_dec dtX11_opens 0 rfl) ?_
  refine pv_getI (k := 0) (j := 5) (ci := 11) (pc := 1) pfl_X11_117 (by decide) rfl (by decide) (fm_dec dtX11_opens 1 rfl) ?_
  refine pv_if_ne (pc := 4) 28 (by decide) (fm_dec dtX11_opens 2 rfl) (fun hc4 => by exfalso; exact hc4 hf) (fun _ => ?_)
  refine pv_aloadn (pc := 7) (n := 0) 0 rfl rfl (fm_dec dtX11_opens 3 rfl) ?_
  refine pv_getI (k := 0) (j := 8) (ci := 11) (pc := 8) pfl_X11_160 (by decide) rfl (by decide) (fm_dec dtX11_opens 4 rfl) ?_
  refine pv_bipush (pc := 11) (v := 6) (by decide) (fm_dec dtX11_opens 5 rfl) ?_
  refine pv_icmp_ne (pc := 13) 28 (by decide) (fm_dec dtX11_opens 6 rfl) (fun hc13 => ?_) (fun hc13 => ?_)
  · refine pv_aloadn (pc := 28) (n := 0) 0 rfl rfl (fm_dec dtX11_opens 13 rfl) ?_
    refine pv_getI (k := 0) (j := 5) (ci := 11) (pc := 29) pfl_X11_117 (by decide) rfl (by decide) (fm_dec dtX11_opens 14 rfl) ?_
    refine pv_if_ne (pc := 32) 45 (by decide) (fm_dec dtX11_opens 15 rfl) (fun hc32 => by exfalso; exact hc32 hf) (fun _ => ?_)
    refine pv_aloadn (pc := 35) (n := 0) 0 rfl rfl (fm_dec dtX11_opens 16 rfl) ?_
    refine pv_dup (pc := 36) rfl (fm_dec dtX11_opens 17 rfl) ?_
    refine pv_getI (k := 0) (j := 8) (ci := 11) (pc := 37) pfl_X11_160 (by decide) rfl (by decide) (fm_dec dtX11_opens 18 rfl) ?_
    refine pv_iconst (pc := 40) (v := 1) (by decide) (fm_dec dtX11_opens 19 rfl) ?_
    refine pv_iadd (pc := 41) (fm_dec dtX11_opens 20 rfl) ?_
    refine pv_putI (k := 0) (j := 8) (ci := 11) (pc := 42) pfl_X11_160 (by decide) rfl (by decide) (fm_dec dtX11_opens 21 rfl) ?_
    refine pv_aloadn (pc := 45) (n := 0) 0 rfl rfl (fm_dec dtX11_opens 22 rfl) ?_
    refine pv_getI (k := 0) (j := 5) (ci := 11) (pc := 46) pfl_X11_117 (by decide) rfl (by decide) (fm_dec dtX11_opens 23 rfl) ?_
    refine pv_if_ne (pc := 49) 56 (by decide) (fm_dec dtX11_opens 24 rfl) (fun hc49 => by exfalso; exact hc49 hf) (fun _ => ?_)
    refine pv_iconst (pc := 52) (v := 1) (by decide) (fm_dec dtX11_opens 25 rfl) ?_
    refine pv_goto (pc := 53) 57 (by decide) (fm_dec dtX11_opens 26 rfl) ?_
    exact pv_zreturn (pc := 57) rfl (by first | exact Or.inr rfl | exact Or.inl rfl) (fm_dec dtX11_opens 28 rfl) (by first | exact h6 (op_6 ho hc13) | exact hn (op_n ho hc13))
  · refine pv_aloadn (pc := 16) (n := 0) 0 rfl rfl (fm_dec dtX11_opens 7 rfl) ?_
    refine pv_iconst (pc := 17) (v := 3) (by decide) (fm_dec dtX11_opens 8 rfl) ?_
    refine pv_aloadn (pc := 18) (n := 0) 0 rfl rfl (fm_dec dtX11_opens 9 rfl) ?_
    refine pv_getI (k := 0) (j := 4) (ci := 11) (pc := 19) pfl_X11_110 (by decide) rfl (by decide) (fm_dec dtX11_opens 10 rfl) ?_
    refine pv_invV2 (k := 0) (d' := 0) (pc := 22) pcv_X11_130 (by decide) rfl (Nat.le_of_ble_eq_true rfl) (by decide) (fm_dec dtX11_opens 11 rfl) ?_
    refine c_wrongAt (fun _ => ?_) (fun h9 => absurd hf h9) 
    refine pv_then0 ?_
    refine pv_goto (pc := 25) 45 (by decide) (fm_dec dtX11_opens 12 rfl) ?_
    refine pv_aloadn (pc := 45) (n := 0) 0 rfl rfl (fm_dec dtX11_opens 22 rfl) ?_
    refine pv_getI (k := 0) (j := 5) (ci := 11) (pc := 46) pfl_X11_117 (by decide) rfl (by decide) (fm_dec dtX11_opens 23 rfl) ?_
    refine pv_if_ne (pc := 49) 56 (by decide) (fm_dec dtX11_opens 24 rfl) (fun _ => ?_) (fun hc49 => by exfalso; exact absurd (show (3 : Int32) = 0 from hc49) (by decide))
    refine pv_iconst (pc := 56) (v := 0) (by decide) (fm_dec dtX11_opens 27 rfl) ?_
    exact pv_zreturn (pc := 57) rfl (by first | exact Or.inr rfl | exact Or.inl rfl) (fm_dec dtX11_opens 28 rfl) (by first | exact h6 (op_6 ho hc13) | exact hn (op_n ho hc13))
set_option maxRecDepth 20000 in
theorem out_sum {Q : fmR → fmM → Prop} {M : fmM} {o : Nat} {v : Option Value} (hf : ¬ M.1 0 5 = 0) (hq : Q (.inl none) M) : pvEv Tm (8 + 3 * (6 - o)) qX11_sum 4 [some (.ref 0), v] [] M Q := by
  refine pv_aloadn (pc := 4) (n := 0) 0 rfl rfl (fm_dec dtX11_sum 2 rfl) ?_
  refine pv_getI (k := 0) (j := 5) (ci := 11) (pc := 5) pfl_X11_117 (by decide) rfl (by decide) (fm_dec dtX11_sum 3 rfl) ?_
  refine pv_if_ne (pc := 8) 58 (by decide) (fm_dec dtX11_sum 4 rfl) (fun _ => ?_) (fun hc8 => by exfalso; exact hf hc8)
  exact pv_return (pc := 58) rfl (fm_dec dtX11_sum 30 rfl) hq
set_option maxRecDepth 20000 in
theorem out_product {Q : fmR → fmM → Prop} {M : fmM} {o : Nat} {v : Option Value} (hf : ¬ M.1 0 5 = 0) (hq : Q (.inl none) M) : pvEv Tm (7 + 3 * (6 - o)) qX11_product 4 [some (.ref 0), v] [] M Q := by
  refine pv_aloadn (pc := 4) (n := 0) 0 rfl rfl (fm_dec dtX11_product 2 rfl) ?_
  refine pv_getI (k := 0) (j := 5) (ci := 11) (pc := 5) pfl_X11_117 (by decide) rfl (by decide) (fm_dec dtX11_product 3 rfl) ?_
  refine pv_if_ne (pc := 8) 58 (by decide) (fm_dec dtX11_product 4 rfl) (fun _ => ?_) (fun hc8 => by exfalso; exact hf hc8)
  exact pv_return (pc := 58) rfl (fm_dec dtX11_product 30 rfl) hq
set_option maxRecDepth 20000 in
theorem c_knownHere {M : fmM} {Q : fmR → fmM → Prop} {tx : tX} {n a : Nat} (ha : sk tx a = a) (hS : rS M tx n a) (hf : M.1 0 5 = 0) (hy : ∀ (k : Nat) (x w : Int32), lwK (wd tx a) = some k → x.toInt = sp tW tx a → w.toInt = k → Q (.inl (some (.int w))) (fmI M 0 4 x)) (hn : ∀ x : Int32, lwK (wd tx a) = none → x.toInt = a → Q (.inl (some (.int (-1)))) (fmI M 0 4 x)) : pvGood Tm 5 qX11_knownHere [.ref 0] M Q := by
  refine pvGood_of (Nat.le_of_ble_eq_true rfl) ?_
  show pvEv Tm 5 qX11_knownHere 0 [some (.ref 0)] [] M Q
  refine pv_aloadn (pc := 0) (n := 0) 0 rfl rfl (fm_dec dtX11_knownHere 0 rfl) ?_
  refine pv_iconst (pc := 1) (v := 1) (by decide) (fm_dec dtX11_knownHere 1 rfl) ?_
  refine pv_bipush (pc := 2) (v := 7) (by decide) (fm_dec dtX11_knownHere 2 rfl) ?_
  refine pv_iconst (pc := 4) (v := 5) (by decide) (fm_dec dtX11_knownHere 3 rfl) ?_
  refine pv_iconst (pc := 5) (v := 0) (by decide) (fm_dec dtX11_knownHere 4 rfl) ?_
  refine pv_iconst (pc := 6) (v := 0) (by decide) (fm_dec dtX11_knownHere 5 rfl) ?_
  refine pv_invV5 (k := 0) (d' := 4) (pc := 7) pcv_X11_224 (by decide) rfl (Nat.le_of_ble_eq_true rfl) (by decide) (fm_dec dtX11_knownHere 6 rfl) ?_
  refine c_takes [97, 103, 101] ⟨by decide, by decide, by decide⟩ hS hf (fun x7 e7 hx7 => ?_) (fun x7 e7 hx7 => ?_)
  · refine pv_then1 ?_
    refine pv_if_eq (pc := 10) 15 (by decide) (fm_dec dtX11_knownHere 7 rfl) (fun hc10 => by exfalso; revert hc10; decide) (fun _ => ?_)
    refine pv_iconst (pc := 13) (v := 0) (by decide) (fm_dec dtX11_knownHere 8 rfl) ?_
    exact pv_ireturn (pc := 14) rfl (fm_dec dtX11_knownHere 9 rfl) (by rw [ha] at e7 hx7; (try simp only [fmI_fmI]); exact hy 0 x7 _ (by unfold lwK; rw [if_pos e7]) hx7 (by decide))
  · refine pv_then1 ?_
    refine pv_if_eq (pc := 10) 15 (by decide) (fm_dec dtX11_knownHere 7 rfl) (fun _ => ?_) (fun hc10 => by exfalso; revert hc10; decide)
    rw [ha] at e7 hx7
    have hS1 := hS.set hx7 hS.2.2.1
    refine pv_aloadn (pc := 15) (n := 0) 0 rfl rfl (fm_dec dtX11_knownHere 10 rfl) ?_
    refine pv_bipush (pc := 16) (v := 25) (by decide) (fm_dec dtX11_knownHere 11 rfl) ?_
    refine pv_iconst (pc := 18) (v := 5) (by decide) (fm_dec dtX11_knownHere 12 rfl) ?_
    refine pv_iconst (pc := 19) (v := 1) (by decide) (fm_dec dtX11_knownHere 13 rfl) ?_
    refine pv_bipush (pc := 20) (v := 18) (by decide) (fm_dec dtX11_knownHere 14 rfl) ?_
    refine pv_bipush (pc := 22) (v := 19) (by decide) (fm_dec dtX11_knownHere 15 rfl) ?_
    refine pv_invV5 (k := 0) (d' := 4) (pc := 24) pcv_X11_224 (by decide) rfl (Nat.le_of_ble_eq_true rfl) (by decide) (fm_dec dtX11_knownHere 16 rfl) ?_
    refine c_takes [121, 101, 97, 114, 115] ⟨by decide, by decide, by decide⟩ hS1 hf (fun x24 e24 hx24 => ?_) (fun x24 e24 hx24 => ?_)
    · refine pv_then1 ?_
      refine pv_if_eq (pc := 27) 32 (by decide) (fm_dec dtX11_knownHere 17 rfl) (fun hc27 => by exfalso; revert hc27; decide) (fun _ => ?_)
      refine pv_iconst (pc := 30) (v := 1) (by decide) (fm_dec dtX11_knownHere 18 rfl) ?_
      exact pv_ireturn (pc := 31) rfl (fm_dec dtX11_knownHere 19 rfl) (by rw [ha] at e24 hx24; (try simp only [fmI_fmI]); exact hy 1 x24 _ (by unfold lwK; rw [if_neg e7]; rw [if_pos e24]) hx24 (by decide))
    · refine pv_then1 ?_
      refine pv_if_eq (pc := 27) 32 (by decide) (fm_dec dtX11_knownHere 17 rfl) (fun _ => ?_) (fun hc27 => by exfalso; revert hc27; decide)
      rw [ha] at e24 hx24
      have hS2 := hS1.set hx24 hS1.2.2.1
      refine pv_aloadn (pc := 32) (n := 0) 0 rfl rfl (fm_dec dtX11_knownHere 20 rfl) ?_
      refine pv_bipush (pc := 33) (v := 23) (by decide) (fm_dec dtX11_knownHere 21 rfl) ?_
      refine pv_bipush (pc := 35) (v := 15) (by decide) (fm_dec dtX11_knownHere 22 rfl) ?_
      refine pv_bipush (pc := 37) (v := 18) (by decide) (fm_dec dtX11_knownHere 23 rfl) ?_
      refine pv_bipush (pc := 39) (v := 20) (by decide) (fm_dec dtX11_knownHere 24 rfl) ?_
      refine pv_bipush (pc := 41) (v := 8) (by decide) (fm_dec dtX11_knownHere 25 rfl) ?_
      refine pv_invV5 (k := 0) (d' := 4) (pc := 43) pcv_X11_224 (by decide) rfl (Nat.le_of_ble_eq_true rfl) (by decide) (fm_dec dtX11_knownHere 26 rfl) ?_
      refine c_takes [119, 111, 114, 116, 104] ⟨by decide, by decide, by decide⟩ hS2 hf (fun x43 e43 hx43 => ?_) (fun x43 e43 hx43 => ?_)
      · refine pv_then1 ?_
        refine pv_if_eq (pc := 46) 51 (by decide) (fm_dec dtX11_knownHere 27 rfl) (fun hc46 => by exfalso; revert hc46; decide) (fun _ => ?_)
        refine pv_iconst (pc := 49) (v := 2) (by decide) (fm_dec dtX11_knownHere 28 rfl) ?_
        exact pv_ireturn (pc := 50) rfl (fm_dec dtX11_knownHere 29 rfl) (by rw [ha] at e43 hx43; (try simp only [fmI_fmI]); exact hy 2 x43 _ (by unfold lwK; rw [if_neg e7]; rw [if_neg e24]; rw [if_pos e43]) hx43 (by decide))
      · refine pv_then1 ?_
        refine pv_if_eq (pc := 46) 51 (by decide) (fm_dec dtX11_knownHere 27 rfl) (fun _ => ?_) (fun hc46 => by exfalso; revert hc46; decide)
        rw [ha] at e43 hx43
        have hS3 := hS2.set hx43 hS2.2.2.1
        refine pv_aloadn (pc := 51) (n := 0) 0 rfl rfl (fm_dec dtX11_knownHere 30 rfl) ?_
        refine pv_iconst (pc := 52) (v := 4) (by decide) (fm_dec dtX11_knownHere 31 rfl) ?_
        refine pv_iconst (pc := 53) (v := 5) (by decide) (fm_dec dtX11_knownHere 32 rfl) ?_
        refine pv_iconst (pc := 54) (v := 1) (by decide) (fm_dec dtX11_knownHere 33 rfl) ?_
        refine pv_iconst (pc := 55) (v := 4) (by decide) (fm_dec dtX11_knownHere 34 rfl) ?_
        refine pv_iconst (pc := 56) (v := 0) (by decide) (fm_dec dtX11_knownHere 35 rfl) ?_
        refine pv_invV5 (k := 0) (d' := 4) (pc := 57) pcv_X11_224 (by decide) rfl (Nat.le_of_ble_eq_true rfl) (by decide) (fm_dec dtX11_knownHere 36 rfl) ?_
        refine c_takes [100, 101, 97, 100] ⟨by decide, by decide, by decide⟩ hS3 hf (fun x57 e57 hx57 => ?_) (fun x57 e57 hx57 => ?_)
        · refine pv_then1 ?_
          refine pv_if_eq (pc := 60) 65 (by decide) (fm_dec dtX11_knownHere 37 rfl) (fun hc60 => by exfalso; revert hc60; decide) (fun _ => ?_)
          refine pv_iconst (pc := 63) (v := 3) (by decide) (fm_dec dtX11_knownHere 38 rfl) ?_
          exact pv_ireturn (pc := 64) rfl (fm_dec dtX11_knownHere 39 rfl) (by rw [ha] at e57 hx57; (try simp only [fmI_fmI]); exact hy 3 x57 _ (by unfold lwK; rw [if_neg e7]; rw [if_neg e24]; rw [if_neg e43]; rw [if_pos e57]) hx57 (by decide))
        · refine pv_then1 ?_
          refine pv_if_eq (pc := 60) 65 (by decide) (fm_dec dtX11_knownHere 37 rfl) (fun _ => ?_) (fun hc60 => by exfalso; revert hc60; decide)
          rw [ha] at e57 hx57
          have hS4 := hS3.set hx57 hS3.2.2.1
          refine pv_aloadn (pc := 65) (n := 0) 0 rfl rfl (fm_dec dtX11_knownHere 40 rfl) ?_
          refine pv_bipush (pc := 66) (v := 6) (by decide) (fm_dec dtX11_knownHere 41 rfl) ?_
          refine pv_iconst (pc := 68) (v := 1) (by decide) (fm_dec dtX11_knownHere 42 rfl) ?_
          refine pv_iconst (pc := 69) (v := 3) (by decide) (fm_dec dtX11_knownHere 43 rfl) ?_
          refine pv_bipush (pc := 70) (v := 20) (by decide) (fm_dec dtX11_knownHere 44 rfl) ?_
          refine pv_bipush (pc := 72) (v := 19) (by decide) (fm_dec dtX11_knownHere 45 rfl) ?_
          refine pv_invV5 (k := 0) (d' := 4) (pc := 74) pcv_X11_224 (by decide) rfl (Nat.le_of_ble_eq_true rfl) (by decide) (fm_dec dtX11_knownHere 46 rfl) ?_
          refine c_takes [102, 97, 99, 116, 115] ⟨by decide, by decide, by decide⟩ hS4 hf (fun x74 e74 hx74 => ?_) (fun x74 e74 hx74 => ?_)
          · refine pv_then1 ?_
            refine pv_if_eq (pc := 77) 84 (by decide) (fm_dec dtX11_knownHere 47 rfl) (fun hc77 => by exfalso; revert hc77; decide) (fun _ => ?_)
            refine pv_iconst (pc := 80) (v := 4) (by decide) (fm_dec dtX11_knownHere 48 rfl) ?_
            refine pv_goto (pc := 81) 85 (by decide) (fm_dec dtX11_knownHere 49 rfl) ?_
            exact pv_ireturn (pc := 85) rfl (fm_dec dtX11_knownHere 51 rfl) (by first | exact (by rw [ha] at e74 hx74; (try simp only [fmI_fmI]); exact hy 4 x74 _ (by unfold lwK; rw [if_neg e7]; rw [if_neg e24]; rw [if_neg e43]; rw [if_neg e57]; rw [if_pos e74]) hx74 (by decide)) | (rw [ha] at e74 hx74; (try simp only [fmI_fmI]); exact hn x74 (by unfold lwK; rw [if_neg e7, if_neg e24, if_neg e43, if_neg e57, if_neg e74]) hx74))
          · refine pv_then1 ?_
            refine pv_if_eq (pc := 77) 84 (by decide) (fm_dec dtX11_knownHere 47 rfl) (fun _ => ?_) (fun hc77 => by exfalso; revert hc77; decide)
            refine pv_iconst (pc := 84) (v := (-1)) (by decide) (fm_dec dtX11_knownHere 50 rfl) ?_
            exact pv_ireturn (pc := 85) rfl (fm_dec dtX11_knownHere 51 rfl) (by first | exact (by rw [ha] at e74 hx74; (try simp only [fmI_fmI]); exact hy 4 x74 _ (by unfold lwK; rw [if_neg e7]; rw [if_neg e24]; rw [if_neg e43]; rw [if_neg e57]; rw [if_pos e74]) hx74 (by decide)) | (rw [ha] at e74 hx74; (try simp only [fmI_fmI]); exact hn x74 (by unfold lwK; rw [if_neg e7, if_neg e24, if_neg e43, if_neg e57, if_neg e74]) hx74))
set_option maxRecDepth 20000 in
theorem c_one1 {M : fmM} {Q : fmR → fmM → Prop}  (hf : ¬ M.1 0 5 = 0) (hq : Q (.inl none) M) : pvGood Tm 6 qX11_one [.ref 0] M Q := by
  refine pvGood_of (Nat.le_of_ble_eq_true rfl) ?_
  show pvEv Tm 6 qX11_one 0 [some (.ref 0), none, none] [] M Q
  refine pv_aloadn (pc := 0) (n := 0) 0 rfl rfl (fm_dec dtX11_one 0 rfl) ?_
  refine pv_getI (k := 0) (j := 5) (ci := 11) (pc := 1) pfl_X11_117 (by decide) rfl (by decide) (fm_dec dtX11_one 1 rfl) ?_
  refine pv_if_eq (pc := 4) 8 (by decide) (fm_dec dtX11_one 2 rfl) (fun hc4 => by exfalso; exact hf hc4) (fun _ => ?_)
  exact pv_return (pc := 7) rfl (fm_dec dtX11_one 3 rfl) hq
set_option maxRecDepth 20000 in
theorem c_product1 {M : fmM} {Q : fmR → fmM → Prop}  (hf : ¬ M.1 0 5 = 0) (hq : Q (.inl none) M) : pvGood Tm 7 qX11_product [.ref 0] M Q := by
  refine pvGood_of (Nat.le_of_ble_eq_true rfl) ?_
  show pvEv Tm 7 qX11_product 0 [some (.ref 0), none] [] M Q
  refine pv_aloadn (pc := 0) (n := 0) 0 rfl rfl (fm_dec dtX11_product 0 rfl) ?_
  refine pv_invV0 (k := 0) (d' := 6) (pc := 1) pcv_X11_221 (by decide) rfl (Nat.le_of_ble_eq_true rfl) (by decide) (fm_dec dtX11_product 1 rfl) ?_
  refine c_one1 hf ?_
  refine pv_then0 ?_
  refine pv_aloadn (pc := 4) (n := 0) 0 rfl rfl (fm_dec dtX11_product 2 rfl) ?_
  refine pv_getI (k := 0) (j := 5) (ci := 11) (pc := 5) pfl_X11_117 (by decide) rfl (by decide) (fm_dec dtX11_product 3 rfl) ?_
  refine pv_if_ne (pc := 8) 58 (by decide) (fm_dec dtX11_product 4 rfl) (fun _ => ?_) (fun hc8 => by exfalso; exact hf hc8)
  exact pv_return (pc := 58) rfl (fm_dec dtX11_product 30 rfl) hq
set_option maxRecDepth 20000 in
theorem c_sum1 {M : fmM} {Q : fmR → fmM → Prop}  (hf : ¬ M.1 0 5 = 0) (hq : Q (.inl none) M) : pvGood Tm 8 qX11_sum [.ref 0] M Q := by
  refine pvGood_of (Nat.le_of_ble_eq_true rfl) ?_
  show pvEv Tm 8 qX11_sum 0 [some (.ref 0), none] [] M Q
  refine pv_aloadn (pc := 0) (n := 0) 0 rfl rfl (fm_dec dtX11_sum 0 rfl) ?_
  refine pv_invV0 (k := 0) (d' := 7) (pc := 1) pcv_X11_212 (by decide) rfl (Nat.le_of_ble_eq_true rfl) (by decide) (fm_dec dtX11_sum 1 rfl) ?_
  refine c_product1 hf ?_
  refine pv_then0 ?_
  refine pv_aloadn (pc := 4) (n := 0) 0 rfl rfl (fm_dec dtX11_sum 2 rfl) ?_
  refine pv_getI (k := 0) (j := 5) (ci := 11) (pc := 5) pfl_X11_117 (by decide) rfl (by decide) (fm_dec dtX11_sum 3 rfl) ?_
  refine pv_if_ne (pc := 8) 58 (by decide) (fm_dec dtX11_sum 4 rfl) (fun _ => ?_) (fun hc8 => by exfalso; exact hf hc8)
  exact pv_return (pc := 58) rfl (fm_dec dtX11_sum 30 rfl) hq
set_option maxRecDepth 20000 in
theorem lw_sum0 {tx : tX} {n f : Nat} (ih1 : lwG tx n f 1) (ih3 : lwG tx n f 3) : lwG tx n (f + 1) 0 := by
  intro o p m M Q hP hne hpo
  refine pvGood_of (Nat.le_of_ble_eq_true rfl) ?_
  show pvEv Tm (8 + 3 * (6 - o)) qX11_sum 0 [some (.ref 0), none] [] M Q
  refine pv_aloadn (pc := 0) (n := 0) 0 rfl rfl (fm_dec dtX11_sum 0 rfl) ?_
  refine pv_invV0 (k := 0) (d' := (7 + 3 * (6 - o))) (pc := 1) pcv_X11_212 (by decide) rfl (Nat.le_of_ble_eq_true rfl) (by omega) (fm_dec dtX11_sum 1 rfl) ?_
  refine ih1 o p m M _ hP (spBind_ne hne) ⟨fun M1 cs1 q1 e1 k1 => ?_, fun M1 kb ab eb hB => ?_⟩  
  · refine pv_then0 ?_
    have l1 := spL_len hP.1.2.2.2.1 _ _ _ _ _ _ hP.1.2.2.1 e1
    have hP1 := hP.next k1 l1.1
    exact ih3 o q1 (m + cs1.length) M1 Q hP1 (spBind_ne (spBind_ne2 hne e1)) ⟨fun M2 ds q2 e2 k2 => hpo.1 M2 _ q2 (spApp_ok e1 e2) (k1.trans k2 (Nat.le_of_lt hP1.lt)), fun M2 k a e2 k2 => hpo.2 M2 k a (spApp_b2 e1 e2) (k1.bad k2)⟩ none
  · refine pv_then0 ?_
    exact out_sum hB.nz (hpo.2 M1 kb ab (spApp_b1 eb) hB)
set_option maxRecDepth 20000 in
theorem lw_sum3 {tx : tX} {n f : Nat} (ih1 : lwG tx n f 1) (ih3 : lwG tx n f 3) : lwG tx n (f + 1) 3 := by
  intro o p m M Q hP hne hpo v
  show pvEv Tm (8 + 3 * (6 - o)) qX11_sum 4 [some (.ref 0), v] [] M Q
  refine pv_aloadn (pc := 4) (n := 0) 0 rfl rfl (fm_dec dtX11_sum 2 rfl) ?_
  refine pv_getI (k := 0) (j := 5) (ci := 11) (pc := 5) pfl_X11_117 (by decide) rfl (by decide) (fm_dec dtX11_sum 3 rfl) ?_
  refine pv_if_ne (pc := 8) 58 (by decide) (fm_dec dtX11_sum 4 rfl) (fun hc8 => by exfalso; exact hc8 hP.2.1) (fun _ => ?_)
  refine pv_aloadn (pc := 11) (n := 0) 0 rfl rfl (fm_dec dtX11_sum 5 rfl) ?_
  refine pv_bipush (pc := 12) (v := 43) (by decide) (fm_dec dtX11_sum 6 rfl) ?_
  refine pv_invV1 (k := 0) (d' := 2) (pc := 14) pcv_X11_215 (by decide) rfl (Nat.le_of_ble_eq_true rfl) (by omega) (fm_dec dtX11_sum 7 rfl) ?_
  refine c_takesSign hP.1 hP.2.1 (by decide) (fun x14 e14 hx14 hl14 => ?_) (fun x14 e14 hx14 => ?_)
  · refine pv_then1 ?_
    refine pv_if_eq (pc := 17) 24 (by decide) (fm_dec dtX11_sum 8 rfl) (fun hc17 => by exfalso; revert hc17; decide) (fun _ => ?_)
    refine pv_iconst (pc := 20) (v := 2) (by decide) (fm_dec dtX11_sum 9 rfl) ?_
    refine pv_goto (pc := 21) 38 (by decide) (fm_dec dtX11_sum 10 rfl) ?_
    refine pv_istoren (pc := 38) (n := 1) 1 rfl (by decide) rfl (fm_dec dtX11_sum 18 rfl) ?_
    dsimp only [List.set_cons_zero, List.set_cons_succ]
    refine pv_iloadn (pc := 39) (n := 1) 1 rfl rfl (fm_dec dtX11_sum 19 rfl) ?_
    refine pv_iconst (pc := 40) (v := (-1)) (by decide) (fm_dec dtX11_sum 20 rfl) ?_
    refine pv_icmp_ne (pc := 41) 45 (by decide) (fm_dec dtX11_sum 21 rfl) (fun _ => ?_) (fun hc41 => by exfalso; revert hc41; decide)
    have ne46 : ¬ spOp 2 (spL tx f 1 o (sk tx p + 1)) (fun q => spL tx f 3 o q) = .inl (9, 0) := fun h9 => hne ((if_pos e14).trans h9)
    have hP46 := hP.at (x := x14) hx14 hl14 (Nat.le_succ_of_le (sp_ge p))
    refine pv_aloadn (pc := 45) (n := 0) 0 rfl rfl (fm_dec dtX11_sum 23 rfl) ?_
    refine pv_invV0 (k := 0) (d' := (7 + 3 * (6 - o))) (pc := 46) pcv_X11_212 (by decide) rfl (Nat.le_of_ble_eq_true rfl) (by omega) (fm_dec dtX11_sum 24 rfl) ?_
    refine ih1 o (sk tx p + 1) m (fmI M 0 4 x14) _ hP46 (spBind_ne ne46) ⟨fun M46 c46 q46 e46 k46 => ?_, fun M46 kb ab eb hB => ?_⟩  
    · refine pv_then0 ?_
      have l46 := spL_len hP.1.2.2.2.1 _ _ _ _ _ _ hP46.1.2.2.1 e46
      have hP2 := hP46.next k46 l46.1
      refine pv_aloadn (pc := 49) (n := 0) 0 rfl rfl (fm_dec dtX11_sum 25 rfl) ?_
      refine pv_iloadn (pc := 50) (n := 1) 1 rfl rfl (fm_dec dtX11_sum 26 rfl) ?_
      refine pv_iconst (pc := 51) (v := 0) (by decide) (fm_dec dtX11_sum 27 rfl) ?_
      refine pv_invV2 (k := 0) (d' := 0) (pc := 52) pcv_X11_218 (by decide) rfl (Nat.le_of_ble_eq_true rfl) (by omega) (fm_dec dtX11_sum 28 rfl) ?_
      refine l_notes 2 0 k46.1 k46.2.1 hP2.2.2.2.2.1 hP2.lt (by decide) (by decide) (fun M52 k52 => ?_) 
      refine pv_then0 ?_
      refine pv_goto (pc := 55) 4 (by decide) (fm_dec dtX11_sum 29 rfl) ?_
      have hP3 : lwPre M52 tx n q46 o (m + (c46.length + 1)) := ⟨k52.1, k52.2.1, (by rw [k52.2.2.1]; exact hP2.2.2.1), hP2.2.2.2.1, (by have h9 := k52.2.2.2.1; simpa [Nat.add_assoc] using h9), (by have := hP.2.2.2.2.2.1; have := sp_ge (P := tB) (tx := tx) p; unfold sk at l46; omega), hP2.2.2.2.2.2.2⟩
      have ne4 := spBind_ne (spBind_ne2 ne46 e46)
      exact ih3 o q46 (m + (c46.length + 1)) M52 Q hP3 ne4 ⟨fun M2 ds q2 e2 k2 => hpo.1 M2 _ q2 ((if_pos e14).trans (spOp_ok e46 e2)) ((k46.op k52 k2 hP2.lt).pre lwFr.at rfl), fun M2 k a e2 k2 => hpo.2 M2 k a ((if_pos e14).trans (spOp_b2 e46 e2)) (((k46.trans k52 (Nat.le_of_lt hP2.lt)).bad (by simpa using k2)).pre lwFr.at (Nat.le_refl _))⟩ _
    · refine pv_then0 ?_
      refine pv_aloadn (pc := 49) (n := 0) 0 rfl rfl (fm_dec dtX11_sum 25 rfl) ?_
      refine pv_iloadn (pc := 50) (n := 1) 1 rfl rfl (fm_dec dtX11_sum 26 rfl) ?_
      refine pv_iconst (pc := 51) (v := 0) (by decide) (fm_dec dtX11_sum 27 rfl) ?_
      refine pv_invV2 (k := 0) (d' := 0) (pc := 52) pcv_X11_218 (by decide) rfl (Nat.le_of_ble_eq_true rfl) (by omega) (fm_dec dtX11_sum 28 rfl) ?_
      refine c_notes1 hB.nz ?_
      refine pv_then0 ?_
      refine pv_goto (pc := 55) 4 (by decide) (fm_dec dtX11_sum 29 rfl) ?_
      exact out_sum hB.nz (hpo.2 _ kb ab ((if_pos e14).trans (spOp_b1 eb)) (hB.pre lwFr.at (Nat.le_refl _)))
  · refine pv_then1 ?_
    refine pv_if_eq (pc := 17) 24 (by decide) (fm_dec dtX11_sum 8 rfl) (fun _ => ?_) (fun hc17 => by exfalso; revert hc17; decide)
    refine pv_aloadn (pc := 24) (n := 0) 0 rfl rfl (fm_dec dtX11_sum 11 rfl) ?_
    refine pv_bipush (pc := 25) (v := 45) (by decide) (fm_dec dtX11_sum 12 rfl) ?_
    refine pv_invV1 (k := 0) (d' := 2) (pc := 27) pcv_X11_215 (by decide) rfl (Nat.le_of_ble_eq_true rfl) (by omega) (fm_dec dtX11_sum 13 rfl) ?_
    refine c_takesSign (hP.1.bl hx14) hP.2.1 (by decide) (fun x27 e27 hx27 hl27 => ?_) (fun x27 e27 hx27 => ?_)
    · refine pv_then1 ?_
      refine pv_if_eq (pc := 30) 37 (by decide) (fm_dec dtX11_sum 14 rfl) (fun hc30 => by exfalso; revert hc30; decide) (fun _ => ?_)
      refine pv_iconst (pc := 33) (v := 3) (by decide) (fm_dec dtX11_sum 15 rfl) ?_
      refine pv_goto (pc := 34) 38 (by decide) (fm_dec dtX11_sum 16 rfl) ?_
      refine pv_istoren (pc := 38) (n := 1) 1 rfl (by decide) rfl (fm_dec dtX11_sum 18 rfl) ?_
      dsimp only [List.set_cons_zero, List.set_cons_succ]
      refine pv_iloadn (pc := 39) (n := 1) 1 rfl rfl (fm_dec dtX11_sum 19 rfl) ?_
      refine pv_iconst (pc := 40) (v := (-1)) (by decide) (fm_dec dtX11_sum 20 rfl) ?_
      refine pv_icmp_ne (pc := 41) 45 (by decide) (fm_dec dtX11_sum 21 rfl) (fun _ => ?_) (fun hc41 => by exfalso; revert hc41; decide)
      rw [sk_sk hP.1.2.2.2.1 hP.1.2.2.1] at e27 hx27 hl27
      have ne46 : ¬ spOp 3 (spL tx f 1 o (sk tx p + 1)) (fun q => spL tx f 3 o q) = .inl (9, 0) := fun h9 => hne (((if_neg e14).trans (if_pos e27)).trans h9)
      have hP46 := (hP.at (x := x14) hx14 (hP.1.bl hx14).2.2.1 (sp_ge p)).at (x := x27) hx27 hl27 (Nat.le_succ _)
      refine pv_aloadn (pc := 45) (n := 0) 0 rfl rfl (fm_dec dtX11_sum 23 rfl) ?_
      refine pv_invV0 (k := 0) (d' := (7 + 3 * (6 - o))) (pc := 46) pcv_X11_212 (by decide) rfl (Nat.le_of_ble_eq_true rfl) (by omega) (fm_dec dtX11_sum 24 rfl) ?_
      refine ih1 o (sk tx p + 1) m (fmI (fmI M 0 4 x14) 0 4 x27) _ hP46 (spBind_ne ne46) ⟨fun M46 c46 q46 e46 k46 => ?_, fun M46 kb ab eb hB => ?_⟩  
      · refine pv_then0 ?_
        have l46 := spL_len hP.1.2.2.2.1 _ _ _ _ _ _ hP46.1.2.2.1 e46
        have hP2 := hP46.next k46 l46.1
        refine pv_aloadn (pc := 49) (n := 0) 0 rfl rfl (fm_dec dtX11_sum 25 rfl) ?_
        refine pv_iloadn (pc := 50) (n := 1) 1 rfl rfl (fm_dec dtX11_sum 26 rfl) ?_
        refine pv_iconst (pc := 51) (v := 0) (by decide) (fm_dec dtX11_sum 27 rfl) ?_
        refine pv_invV2 (k := 0) (d' := 0) (pc := 52) pcv_X11_218 (by decide) rfl (Nat.le_of_ble_eq_true rfl) (by omega) (fm_dec dtX11_sum 28 rfl) ?_
        refine l_notes 3 0 k46.1 k46.2.1 hP2.2.2.2.2.1 hP2.lt (by decide) (by decide) (fun M52 k52 => ?_) 
        refine pv_then0 ?_
        refine pv_goto (pc := 55) 4 (by decide) (fm_dec dtX11_sum 29 rfl) ?_
        have hP3 : lwPre M52 tx n q46 o (m + (c46.length + 1)) := ⟨k52.1, k52.2.1, (by rw [k52.2.2.1]; exact hP2.2.2.1), hP2.2.2.2.1, (by have h9 := k52.2.2.2.1; simpa [Nat.add_assoc] using h9), (by have := hP.2.2.2.2.2.1; have := sp_ge (P := tB) (tx := tx) p; unfold sk at l46; omega), hP2.2.2.2.2.2.2⟩
        have ne4 := spBind_ne (spBind_ne2 ne46 e46)
        exact ih3 o q46 (m + (c46.length + 1)) M52 Q hP3 ne4 ⟨fun M2 ds q2 e2 k2 => hpo.1 M2 _ q2 (((if_neg e14).trans (if_pos e27)).trans (spOp_ok e46 e2)) ((k46.op k52 k2 hP2.lt).pre (lwFr.at.trans lwFr.at (Nat.le_refl _)) rfl), fun M2 k a e2 k2 => hpo.2 M2 k a (((if_neg e14).trans (if_pos e27)).trans (spOp_b2 e46 e2)) (((k46.trans k52 (Nat.le_of_lt hP2.lt)).bad (by simpa using k2)).pre (lwFr.at.trans lwFr.at (Nat.le_refl _)) (Nat.le_refl _))⟩ _
      · refine pv_then0 ?_
        refine pv_aloadn (pc := 49) (n := 0) 0 rfl rfl (fm_dec dtX11_sum 25 rfl) ?_
        refine pv_iloadn (pc := 50) (n := 1) 1 rfl rfl (fm_dec dtX11_sum 26 rfl) ?_
        refine pv_iconst (pc := 51) (v := 0) (by decide) (fm_dec dtX11_sum 27 rfl) ?_
        refine pv_invV2 (k := 0) (d' := 0) (pc := 52) pcv_X11_218 (by decide) rfl (Nat.le_of_ble_eq_true rfl) (by omega) (fm_dec dtX11_sum 28 rfl) ?_
        refine c_notes1 hB.nz ?_
        refine pv_then0 ?_
        refine pv_goto (pc := 55) 4 (by decide) (fm_dec dtX11_sum 29 rfl) ?_
        exact out_sum hB.nz (hpo.2 _ kb ab (((if_neg e14).trans (if_pos e27)).trans (spOp_b1 eb)) (hB.pre (lwFr.at.trans lwFr.at (Nat.le_refl _)) (Nat.le_refl _)))
    · refine pv_then1 ?_
      refine pv_if_eq (pc := 30) 37 (by decide) (fm_dec dtX11_sum 14 rfl) (fun _ => ?_) (fun hc30 => by exfalso; revert hc30; decide)
      refine pv_iconst (pc := 37) (v := (-1)) (by decide) (fm_dec dtX11_sum 17 rfl) ?_
      refine pv_istoren (pc := 38) (n := 1) 1 rfl (by decide) rfl (fm_dec dtX11_sum 18 rfl) ?_
      dsimp only [List.set_cons_zero, List.set_cons_succ]
      refine pv_iloadn (pc := 39) (n := 1) 1 rfl rfl (fm_dec dtX11_sum 19 rfl) ?_
      refine pv_iconst (pc := 40) (v := (-1)) (by decide) (fm_dec dtX11_sum 20 rfl) ?_
      refine pv_icmp_ne (pc := 41) 45 (by decide) (fm_dec dtX11_sum 21 rfl) (fun hc41 => by exfalso; revert hc41; decide) (fun _ => ?_)
      exact pv_return (pc := 44) rfl (fm_dec dtX11_sum 22 rfl) (by rw [sk_sk hP.1.2.2.2.1 hP.1.2.2.1] at e27 hx27; have h9 := hpo.1 (fmI M 0 4 x27) [] (sk tx p) ((if_neg e14).trans (if_neg e27)) (lwOk.at hP.1 hP.2.1 hP.2.2.2.2.1 hx27 (hP.1.bl hx14).2.2.1); rw [fmI_fmI]; exact h9)
set_option maxRecDepth 20000 in
theorem lw_product0 {tx : tX} {n f : Nat} (ih2 : lwG tx n f 2) (ih4 : lwG tx n f 4) : lwG tx n (f + 1) 1 := by
  intro o p m M Q hP hne hpo
  refine pvGood_of (Nat.le_of_ble_eq_true rfl) ?_
  show pvEv Tm (7 + 3 * (6 - o)) qX11_product 0 [some (.ref 0), none] [] M Q
  refine pv_aloadn (pc := 0) (n := 0) 0 rfl rfl (fm_dec dtX11_product 0 rfl) ?_
  refine pv_invV0 (k := 0) (d' := (6 + 3 * (6 - o))) (pc := 1) pcv_X11_221 (by decide) rfl (Nat.le_of_ble_eq_true rfl) (by omega) (fm_dec dtX11_product 1 rfl) ?_
  refine ih2 o p m M _ hP (spBind_ne hne) ⟨fun M1 cs1 q1 e1 k1 => ?_, fun M1 kb ab eb hB => ?_⟩  
  · refine pv_then0 ?_
    have l1 := spL_len hP.1.2.2.2.1 _ _ _ _ _ _ hP.1.2.2.1 e1
    have hP1 := hP.next k1 l1.1
    exact ih4 o q1 (m + cs1.length) M1 Q hP1 (spBind_ne (spBind_ne2 hne e1)) ⟨fun M2 ds q2 e2 k2 => hpo.1 M2 _ q2 (spApp_ok e1 e2) (k1.trans k2 (Nat.le_of_lt hP1.lt)), fun M2 k a e2 k2 => hpo.2 M2 k a (spApp_b2 e1 e2) (k1.bad k2)⟩ none
  · refine pv_then0 ?_
    exact out_product hB.nz (hpo.2 M1 kb ab (spApp_b1 eb) hB)
set_option maxRecDepth 20000 in
theorem lw_product3 {tx : tX} {n f : Nat} (ih2 : lwG tx n f 2) (ih4 : lwG tx n f 4) : lwG tx n (f + 1) 4 := by
  intro o p m M Q hP hne hpo v
  show pvEv Tm (7 + 3 * (6 - o)) qX11_product 4 [some (.ref 0), v] [] M Q
  refine pv_aloadn (pc := 4) (n := 0) 0 rfl rfl (fm_dec dtX11_product 2 rfl) ?_
  refine pv_getI (k := 0) (j := 5) (ci := 11) (pc := 5) pfl_X11_117 (by decide) rfl (by decide) (fm_dec dtX11_product 3 rfl) ?_
  refine pv_if_ne (pc := 8) 58 (by decide) (fm_dec dtX11_product 4 rfl) (fun hc8 => by exfalso; exact hc8 hP.2.1) (fun _ => ?_)
  refine pv_aloadn (pc := 11) (n := 0) 0 rfl rfl (fm_dec dtX11_product 5 rfl) ?_
  refine pv_bipush (pc := 12) (v := 42) (by decide) (fm_dec dtX11_product 6 rfl) ?_
  refine pv_invV1 (k := 0) (d' := 2) (pc := 14) pcv_X11_215 (by decide) rfl (Nat.le_of_ble_eq_true rfl) (by omega) (fm_dec dtX11_product 7 rfl) ?_
  refine c_takesSign hP.1 hP.2.1 (by decide) (fun x14 e14 hx14 hl14 => ?_) (fun x14 e14 hx14 => ?_)
  · refine pv_then1 ?_
    refine pv_if_eq (pc := 17) 24 (by decide) (fm_dec dtX11_product 8 rfl) (fun hc17 => by exfalso; revert hc17; decide) (fun _ => ?_)
    refine pv_iconst (pc := 20) (v := 4) (by decide) (fm_dec dtX11_product 9 rfl) ?_
    refine pv_goto (pc := 21) 38 (by decide) (fm_dec dtX11_product 10 rfl) ?_
    refine pv_istoren (pc := 38) (n := 1) 1 rfl (by decide) rfl (fm_dec dtX11_product 18 rfl) ?_
    dsimp only [List.set_cons_zero, List.set_cons_succ]
    refine pv_iloadn (pc := 39) (n := 1) 1 rfl rfl (fm_dec dtX11_product 19 rfl) ?_
    refine pv_iconst (pc := 40) (v := (-1)) (by decide) (fm_dec dtX11_product 20 rfl) ?_
    refine pv_icmp_ne (pc := 41) 45 (by decide) (fm_dec dtX11_product 21 rfl) (fun _ => ?_) (fun hc41 => by exfalso; revert hc41; decide)
    have ne46 : ¬ spOp 4 (spL tx f 2 o (sk tx p + 1)) (fun q => spL tx f 4 o q) = .inl (9, 0) := fun h9 => hne ((if_pos e14).trans h9)
    have hP46 := hP.at (x := x14) hx14 hl14 (Nat.le_succ_of_le (sp_ge p))
    refine pv_aloadn (pc := 45) (n := 0) 0 rfl rfl (fm_dec dtX11_product 23 rfl) ?_
    refine pv_invV0 (k := 0) (d' := (6 + 3 * (6 - o))) (pc := 46) pcv_X11_221 (by decide) rfl (Nat.le_of_ble_eq_true rfl) (by omega) (fm_dec dtX11_product 24 rfl) ?_
    refine ih2 o (sk tx p + 1) m (fmI M 0 4 x14) _ hP46 (spBind_ne ne46) ⟨fun M46 c46 q46 e46 k46 => ?_, fun M46 kb ab eb hB => ?_⟩  
    · refine pv_then0 ?_
      have l46 := spL_len hP.1.2.2.2.1 _ _ _ _ _ _ hP46.1.2.2.1 e46
      have hP2 := hP46.next k46 l46.1
      refine pv_aloadn (pc := 49) (n := 0) 0 rfl rfl (fm_dec dtX11_product 25 rfl) ?_
      refine pv_iloadn (pc := 50) (n := 1) 1 rfl rfl (fm_dec dtX11_product 26 rfl) ?_
      refine pv_iconst (pc := 51) (v := 0) (by decide) (fm_dec dtX11_product 27 rfl) ?_
      refine pv_invV2 (k := 0) (d' := 0) (pc := 52) pcv_X11_218 (by decide) rfl (Nat.le_of_ble_eq_true rfl) (by omega) (fm_dec dtX11_product 28 rfl) ?_
      refine l_notes 4 0 k46.1 k46.2.1 hP2.2.2.2.2.1 hP2.lt (by decide) (by decide) (fun M52 k52 => ?_) 
      refine pv_then0 ?_
      refine pv_goto (pc := 55) 4 (by decide) (fm_dec dtX11_product 29 rfl) ?_
      have hP3 : lwPre M52 tx n q46 o (m + (c46.length + 1)) := ⟨k52.1, k52.2.1, (by rw [k52.2.2.1]; exact hP2.2.2.1), hP2.2.2.2.1, (by have h9 := k52.2.2.2.1; simpa [Nat.add_assoc] using h9), (by have := hP.2.2.2.2.2.1; have := sp_ge (P := tB) (tx := tx) p; unfold sk at l46; omega), hP2.2.2.2.2.2.2⟩
      have ne4 := spBind_ne (spBind_ne2 ne46 e46)
      exact ih4 o q46 (m + (c46.length + 1)) M52 Q hP3 ne4 ⟨fun M2 ds q2 e2 k2 => hpo.1 M2 _ q2 ((if_pos e14).trans (spOp_ok e46 e2)) ((k46.op k52 k2 hP2.lt).pre lwFr.at rfl), fun M2 k a e2 k2 => hpo.2 M2 k a ((if_pos e14).trans (spOp_b2 e46 e2)) (((k46.trans k52 (Nat.le_of_lt hP2.lt)).bad (by simpa using k2)).pre lwFr.at (Nat.le_refl _))⟩ _
    · refine pv_then0 ?_
      refine pv_aloadn (pc := 49) (n := 0) 0 rfl rfl (fm_dec dtX11_product 25 rfl) ?_
      refine pv_iloadn (pc := 50) (n := 1) 1 rfl rfl (fm_dec dtX11_product 26 rfl) ?_
      refine pv_iconst (pc := 51) (v := 0) (by decide) (fm_dec dtX11_product 27 rfl) ?_
      refine pv_invV2 (k := 0) (d' := 0) (pc := 52) pcv_X11_218 (by decide) rfl (Nat.le_of_ble_eq_true rfl) (by omega) (fm_dec dtX11_product 28 rfl) ?_
      refine c_notes1 hB.nz ?_
      refine pv_then0 ?_
      refine pv_goto (pc := 55) 4 (by decide) (fm_dec dtX11_product 29 rfl) ?_
      exact out_product hB.nz (hpo.2 _ kb ab ((if_pos e14).trans (spOp_b1 eb)) (hB.pre lwFr.at (Nat.le_refl _)))
  · refine pv_then1 ?_
    refine pv_if_eq (pc := 17) 24 (by decide) (fm_dec dtX11_product 8 rfl) (fun _ => ?_) (fun hc17 => by exfalso; revert hc17; decide)
    refine pv_aloadn (pc := 24) (n := 0) 0 rfl rfl (fm_dec dtX11_product 11 rfl) ?_
    refine pv_bipush (pc := 25) (v := 47) (by decide) (fm_dec dtX11_product 12 rfl) ?_
    refine pv_invV1 (k := 0) (d' := 2) (pc := 27) pcv_X11_215 (by decide) rfl (Nat.le_of_ble_eq_true rfl) (by omega) (fm_dec dtX11_product 13 rfl) ?_
    refine c_takesSign (hP.1.bl hx14) hP.2.1 (by decide) (fun x27 e27 hx27 hl27 => ?_) (fun x27 e27 hx27 => ?_)
    · refine pv_then1 ?_
      refine pv_if_eq (pc := 30) 37 (by decide) (fm_dec dtX11_product 14 rfl) (fun hc30 => by exfalso; revert hc30; decide) (fun _ => ?_)
      refine pv_iconst (pc := 33) (v := 5) (by decide) (fm_dec dtX11_product 15 rfl) ?_
      refine pv_goto (pc := 34) 38 (by decide) (fm_dec dtX11_product 16 rfl) ?_
      refine pv_istoren (pc := 38) (n := 1) 1 rfl (by decide) rfl (fm_dec dtX11_product 18 rfl) ?_
      dsimp only [List.set_cons_zero, List.set_cons_succ]
      refine pv_iloadn (pc := 39) (n := 1) 1 rfl rfl (fm_dec dtX11_product 19 rfl) ?_
      refine pv_iconst (pc := 40) (v := (-1)) (by decide) (fm_dec dtX11_product 20 rfl) ?_
      refine pv_icmp_ne (pc := 41) 45 (by decide) (fm_dec dtX11_product 21 rfl) (fun _ => ?_) (fun hc41 => by exfalso; revert hc41; decide)
      rw [sk_sk hP.1.2.2.2.1 hP.1.2.2.1] at e27 hx27 hl27
      have ne46 : ¬ spOp 5 (spL tx f 2 o (sk tx p + 1)) (fun q => spL tx f 4 o q) = .inl (9, 0) := fun h9 => hne (((if_neg e14).trans (if_pos e27)).trans h9)
      have hP46 := (hP.at (x := x14) hx14 (hP.1.bl hx14).2.2.1 (sp_ge p)).at (x := x27) hx27 hl27 (Nat.le_succ _)
      refine pv_aloadn (pc := 45) (n := 0) 0 rfl rfl (fm_dec dtX11_product 23 rfl) ?_
      refine pv_invV0 (k := 0) (d' := (6 + 3 * (6 - o))) (pc := 46) pcv_X11_221 (by decide) rfl (Nat.le_of_ble_eq_true rfl) (by omega) (fm_dec dtX11_product 24 rfl) ?_
      refine ih2 o (sk tx p + 1) m (fmI (fmI M 0 4 x14) 0 4 x27) _ hP46 (spBind_ne ne46) ⟨fun M46 c46 q46 e46 k46 => ?_, fun M46 kb ab eb hB => ?_⟩  
      · refine pv_then0 ?_
        have l46 := spL_len hP.1.2.2.2.1 _ _ _ _ _ _ hP46.1.2.2.1 e46
        have hP2 := hP46.next k46 l46.1
        refine pv_aloadn (pc := 49) (n := 0) 0 rfl rfl (fm_dec dtX11_product 25 rfl) ?_
        refine pv_iloadn (pc := 50) (n := 1) 1 rfl rfl (fm_dec dtX11_product 26 rfl) ?_
        refine pv_iconst (pc := 51) (v := 0) (by decide) (fm_dec dtX11_product 27 rfl) ?_
        refine pv_invV2 (k := 0) (d' := 0) (pc := 52) pcv_X11_218 (by decide) rfl (Nat.le_of_ble_eq_true rfl) (by omega) (fm_dec dtX11_product 28 rfl) ?_
        refine l_notes 5 0 k46.1 k46.2.1 hP2.2.2.2.2.1 hP2.lt (by decide) (by decide) (fun M52 k52 => ?_) 
        refine pv_then0 ?_
        refine pv_goto (pc := 55) 4 (by decide) (fm_dec dtX11_product 29 rfl) ?_
        have hP3 : lwPre M52 tx n q46 o (m + (c46.length + 1)) := ⟨k52.1, k52.2.1, (by rw [k52.2.2.1]; exact hP2.2.2.1), hP2.2.2.2.1, (by have h9 := k52.2.2.2.1; simpa [Nat.add_assoc] using h9), (by have := hP.2.2.2.2.2.1; have := sp_ge (P := tB) (tx := tx) p; unfold sk at l46; omega), hP2.2.2.2.2.2.2⟩
        have ne4 := spBind_ne (spBind_ne2 ne46 e46)
        exact ih4 o q46 (m + (c46.length + 1)) M52 Q hP3 ne4 ⟨fun M2 ds q2 e2 k2 => hpo.1 M2 _ q2 (((if_neg e14).trans (if_pos e27)).trans (spOp_ok e46 e2)) ((k46.op k52 k2 hP2.lt).pre (lwFr.at.trans lwFr.at (Nat.le_refl _)) rfl), fun M2 k a e2 k2 => hpo.2 M2 k a (((if_neg e14).trans (if_pos e27)).trans (spOp_b2 e46 e2)) (((k46.trans k52 (Nat.le_of_lt hP2.lt)).bad (by simpa using k2)).pre (lwFr.at.trans lwFr.at (Nat.le_refl _)) (Nat.le_refl _))⟩ _
      · refine pv_then0 ?_
        refine pv_aloadn (pc := 49) (n := 0) 0 rfl rfl (fm_dec dtX11_product 25 rfl) ?_
        refine pv_iloadn (pc := 50) (n := 1) 1 rfl rfl (fm_dec dtX11_product 26 rfl) ?_
        refine pv_iconst (pc := 51) (v := 0) (by decide) (fm_dec dtX11_product 27 rfl) ?_
        refine pv_invV2 (k := 0) (d' := 0) (pc := 52) pcv_X11_218 (by decide) rfl (Nat.le_of_ble_eq_true rfl) (by omega) (fm_dec dtX11_product 28 rfl) ?_
        refine c_notes1 hB.nz ?_
        refine pv_then0 ?_
        refine pv_goto (pc := 55) 4 (by decide) (fm_dec dtX11_product 29 rfl) ?_
        exact out_product hB.nz (hpo.2 _ kb ab (((if_neg e14).trans (if_pos e27)).trans (spOp_b1 eb)) (hB.pre (lwFr.at.trans lwFr.at (Nat.le_refl _)) (Nat.le_refl _)))
    · refine pv_then1 ?_
      refine pv_if_eq (pc := 30) 37 (by decide) (fm_dec dtX11_product 14 rfl) (fun _ => ?_) (fun hc30 => by exfalso; revert hc30; decide)
      refine pv_iconst (pc := 37) (v := (-1)) (by decide) (fm_dec dtX11_product 17 rfl) ?_
      refine pv_istoren (pc := 38) (n := 1) 1 rfl (by decide) rfl (fm_dec dtX11_product 18 rfl) ?_
      dsimp only [List.set_cons_zero, List.set_cons_succ]
      refine pv_iloadn (pc := 39) (n := 1) 1 rfl rfl (fm_dec dtX11_product 19 rfl) ?_
      refine pv_iconst (pc := 40) (v := (-1)) (by decide) (fm_dec dtX11_product 20 rfl) ?_
      refine pv_icmp_ne (pc := 41) 45 (by decide) (fm_dec dtX11_product 21 rfl) (fun hc41 => by exfalso; revert hc41; decide) (fun _ => ?_)
      exact pv_return (pc := 44) rfl (fm_dec dtX11_product 22 rfl) (by rw [sk_sk hP.1.2.2.2.1 hP.1.2.2.1] at e27 hx27; have h9 := hpo.1 (fmI M 0 4 x27) [] (sk tx p) ((if_neg e14).trans (if_neg e27)) (lwOk.at hP.1 hP.2.1 hP.2.2.2.2.1 hx27 (hP.1.bl hx14).2.2.1); rw [fmI_fmI]; exact h9)
set_option maxRecDepth 20000 in
theorem one_two {tx : tX} {n f o a m cn : Nat} {M : fmM} {Q : fmR → fmM → Prop} {c : Int32} {v2 : Option Value} (hcn : c.toInt = cn) (ho6 : o < 6) (ih0 : lwG tx n f 0) (hP : lwPre M tx n a (o + 1) m) (hne : ¬ spTwo tx (fun q => spL tx f 0 (o + 1) q) cn (sp tW tx a) = .inl (9, 0)) (hok : ∀ (M5 : fmM) (cs : tC) (q : Nat), spTwo tx (fun q => spL tx f 0 (o + 1) q) cn (sp tW tx a) = .inr (cs, q) → lwOk M M5 tx n q m cs → Q (.inl none) (fmI M5 0 8 (M5.1 0 8 - 1))) (hbad : ∀ (M5 : fmM) (k a1 : Nat), spTwo tx (fun q => spL tx f 0 (o + 1) q) cn (sp tW tx a) = .inl (k, a1) → lwBad M M5 tx n k a1 m → Q (.inl none) (fmI M5 0 8 (M5.1 0 8 - 1))) : pvEv Tm (6 + 3 * (6 - o)) qX11_one 68 [some (.ref 0), some (.int c), v2] [] M Q := by
  refine pv_aloadn (pc := 68) (n := 0) 0 rfl rfl (fm_dec dtX11_one 35 rfl) ?_
  refine pv_invV0 (k := 0) (d' := 1) (pc := 69) pcv_X11_154 (by decide) rfl (Nat.le_of_ble_eq_true rfl) (by omega) (fm_dec dtX11_one 36 rfl) ?_
  refine c_skipWord hP.1 (fun x69 hx69 => ?_)
  refine pv_then0 ?_
  have hw2 := sp_le (p := a) tW_1 hP.1.2.2.2.1 hP.1.2.2.1
  have hP1 := hP.at (x := x69) hx69 hw2 (sp_ge a)
  refine pv_aloadn (pc := 72) (n := 0) 0 rfl rfl (fm_dec dtX11_one 37 rfl) ?_
  refine pv_bipush (pc := 73) (v := 91) (by decide) (fm_dec dtX11_one 38 rfl) ?_
  refine pv_invV1 (k := 0) (d' := 2) (pc := 75) pcv_X11_173 (by decide) rfl (Nat.le_of_ble_eq_true rfl) (by omega) (fm_dec dtX11_one 39 rfl) ?_
  refine l_sign 91 ⟨by decide, by decide⟩ hP1.1 hP1.2.1 hP1.2.2.2.2.1 (fun M75 q75 e75 k75 => ?_) (fun Mb kb ab eb hB => ?_)  
  · refine pv_then0 ?_
    have hP2 : lwPre M75 tx n q75 (o + 1) m := hP1.next k75 (Nat.le_of_lt (spSign_ok hP.1.2.2.2.1 hw2 (by decide) e75).1)
    refine pv_aloadn (pc := 78) (n := 0) 0 rfl rfl (fm_dec dtX11_one 40 rfl) ?_
    refine pv_invV0 (k := 0) (d' := (8 + 3 * (6 - (o + 1)))) (pc := 79) pcv_X11_231 (by decide) rfl (Nat.le_of_ble_eq_true rfl) (by omega) (fm_dec dtX11_one 41 rfl) ?_
    refine ih0 (o + 1) q75 m M75 _ hP2 (spTwo_ne1 hne e75) ⟨fun M79 c79 q79 e79 k79 => ?_, fun Mb kb ab eb hB => ?_⟩  
    · refine pv_then0 ?_
      have l79 := spL_len hP.1.2.2.2.1 _ _ _ _ _ _ hP2.1.2.2.1 e79
      have hP3 := hP2.next k79 l79.1
      refine pv_aloadn (pc := 82) (n := 0) 0 rfl rfl (fm_dec dtX11_one 42 rfl) ?_
      refine pv_bipush (pc := 83) (v := 44) (by decide) (fm_dec dtX11_one 43 rfl) ?_
      refine pv_invV1 (k := 0) (d' := 2) (pc := 85) pcv_X11_173 (by decide) rfl (Nat.le_of_ble_eq_true rfl) (by omega) (fm_dec dtX11_one 44 rfl) ?_
      refine l_sign 44 ⟨by decide, by decide⟩ hP3.1 hP3.2.1 hP3.2.2.2.2.1 (fun M85 q85 e85 k85 => ?_) (fun Mb kb ab eb hB => ?_)  
      · refine pv_then0 ?_
        have hP4 : lwPre M85 tx n q85 (o + 1) (m + c79.length) := hP3.next k85 (Nat.le_of_lt (spSign_ok hP.1.2.2.2.1 hP3.1.2.2.1 (by decide) e85).1)
        refine pv_aloadn (pc := 88) (n := 0) 0 rfl rfl (fm_dec dtX11_one 45 rfl) ?_
        refine pv_invV0 (k := 0) (d' := (8 + 3 * (6 - (o + 1)))) (pc := 89) pcv_X11_231 (by decide) rfl (Nat.le_of_ble_eq_true rfl) (by omega) (fm_dec dtX11_one 46 rfl) ?_
        refine ih0 (o + 1) q85 (m + c79.length) M85 _ hP4 (spTwo_ne2 hne e75 e79 e85) ⟨fun M89 c89 q89 e89 k89 => ?_, fun Mb kb ab eb hB => ?_⟩  
        · refine pv_then0 ?_
          have l89 := spL_len hP.1.2.2.2.1 _ _ _ _ _ _ hP4.1.2.2.1 e89
          have hP5 := hP4.next k89 l89.1
          refine pv_aloadn (pc := 92) (n := 0) 0 rfl rfl (fm_dec dtX11_one 47 rfl) ?_
          refine pv_bipush (pc := 93) (v := 93) (by decide) (fm_dec dtX11_one 48 rfl) ?_
          refine pv_invV1 (k := 0) (d' := 2) (pc := 95) pcv_X11_173 (by decide) rfl (Nat.le_of_ble_eq_true rfl) (by omega) (fm_dec dtX11_one 49 rfl) ?_
          refine l_sign 93 ⟨by decide, by decide⟩ hP5.1 hP5.2.1 hP5.2.2.2.2.1 (fun M95 q95 e95 k95 => ?_) (fun Mb kb ab eb hB => ?_)  
          · refine pv_then0 ?_
            have hP6 : lwPre M95 tx n q95 (o + 1) (m + c79.length + c89.length) := hP5.next k95 (Nat.le_of_lt (spSign_ok hP.1.2.2.2.1 hP5.1.2.2.1 (by decide) e95).1)
            refine pv_aloadn (pc := 98) (n := 0) 0 rfl rfl (fm_dec dtX11_one 50 rfl) ?_
            refine pv_iloadn (pc := 99) (n := 1) 1 rfl rfl (fm_dec dtX11_one 51 rfl) ?_
            refine pv_iconst (pc := 100) (v := 0) (by decide) (fm_dec dtX11_one 52 rfl) ?_
            refine pv_invV2 (k := 0) (d' := 0) (pc := 101) pcv_X11_218 (by decide) rfl (Nat.le_of_ble_eq_true rfl) (by omega) (fm_dec dtX11_one 53 rfl) ?_
            refine l_notes cn 0 hP6.1 hP6.2.1 hP6.2.2.2.2.1 hP6.lt hcn (by decide) (fun M101 k101 => ?_) 
            refine pv_then0 ?_
            refine pv_aloadn (pc := 104) (n := 0) 0 rfl rfl (fm_dec dtX11_one 54 rfl) ?_
            refine pv_dup (pc := 105) rfl (fm_dec dtX11_one 55 rfl) ?_
            refine pv_getI (k := 0) (j := 8) (ci := 11) (pc := 106) pfl_X11_160 (by decide) rfl (by decide) (fm_dec dtX11_one 56 rfl) ?_
            refine pv_iconst (pc := 109) (v := 1) (by decide) (fm_dec dtX11_one 57 rfl) ?_
            refine pv_isub (pc := 110) (fm_dec dtX11_one 58 rfl) ?_
            refine pv_putI (k := 0) (j := 8) (ci := 11) (pc := 111) pfl_X11_160 (by decide) rfl (by decide) (fm_dec dtX11_one 59 rfl) ?_
            exact pv_return (pc := 114) rfl (fm_dec dtX11_one 60 rfl) (hok _ (c79 ++ c89 ++ [(cn, 0)]) q95 (by simp only [spTwo, spBind, e75, e79, e85, e89, e95]) ((((((k75.tr (es := c79) k79 hP2.lt).tr (es := c79) k85 hP3.lt).tr (es := c79 ++ c89) k89 hP4.lt).tr (es := c79 ++ c89) k95 hP5.lt).tr (es := c79 ++ c89 ++ [(cn, 0)]) k101 hP6.lt).pre (lwFr.at (x := x69)) rfl))
          · refine pv_then0 ?_
            refine pv_aloadn (pc := 98) (n := 0) 0 rfl rfl (fm_dec dtX11_one 50 rfl) ?_
            refine pv_iloadn (pc := 99) (n := 1) 1 rfl rfl (fm_dec dtX11_one 51 rfl) ?_
            refine pv_iconst (pc := 100) (v := 0) (by decide) (fm_dec dtX11_one 52 rfl) ?_
            refine pv_invV2 (k := 0) (d' := 0) (pc := 101) pcv_X11_218 (by decide) rfl (Nat.le_of_ble_eq_true rfl) (by omega) (fm_dec dtX11_one 53 rfl) ?_
            refine c_notes1 hB.nz ?_
            refine pv_then0 ?_
            refine pv_aloadn (pc := 104) (n := 0) 0 rfl rfl (fm_dec dtX11_one 54 rfl) ?_
            refine pv_dup (pc := 105) rfl (fm_dec dtX11_one 55 rfl) ?_
            refine pv_getI (k := 0) (j := 8) (ci := 11) (pc := 106) pfl_X11_160 (by decide) rfl (by decide) (fm_dec dtX11_one 56 rfl) ?_
            refine pv_iconst (pc := 109) (v := 1) (by decide) (fm_dec dtX11_one 57 rfl) ?_
            refine pv_isub (pc := 110) (fm_dec dtX11_one 58 rfl) ?_
            refine pv_putI (k := 0) (j := 8) (ci := 11) (pc := 111) pfl_X11_160 (by decide) rfl (by decide) (fm_dec dtX11_one 59 rfl) ?_
            exact pv_return (pc := 114) rfl (fm_dec dtX11_one 60 rfl) (hbad _ kb ab (by simp only [spTwo, spBind, e75, e79, e85, e89, eb]) (((((k75.tr (es := c79) k79 hP2.lt).tr (es := c79) k85 hP3.lt).tr (es := c79 ++ c89) k89 hP4.lt).bd hB).pre (lwFr.at (x := x69)) (Nat.le_refl _)))
        · refine pv_then0 ?_
          refine pv_aloadn (pc := 92) (n := 0) 0 rfl rfl (fm_dec dtX11_one 47 rfl) ?_
          refine pv_bipush (pc := 93) (v := 93) (by decide) (fm_dec dtX11_one 48 rfl) ?_
          refine pv_invV1 (k := 0) (d' := 2) (pc := 95) pcv_X11_173 (by decide) rfl (Nat.le_of_ble_eq_true rfl) (by omega) (fm_dec dtX11_one 49 rfl) ?_
          refine c_sign1 hB.nz ?_
          refine pv_then0 ?_
          refine pv_aloadn (pc := 98) (n := 0) 0 rfl rfl (fm_dec dtX11_one 50 rfl) ?_
          refine pv_iloadn (pc := 99) (n := 1) 1 rfl rfl (fm_dec dtX11_one 51 rfl) ?_
          refine pv_iconst (pc := 100) (v := 0) (by decide) (fm_dec dtX11_one 52 rfl) ?_
          refine pv_invV2 (k := 0) (d' := 0) (pc := 101) pcv_X11_218 (by decide) rfl (Nat.le_of_ble_eq_true rfl) (by omega) (fm_dec dtX11_one 53 rfl) ?_
          refine c_notes1 hB.nz ?_
          refine pv_then0 ?_
          refine pv_aloadn (pc := 104) (n := 0) 0 rfl rfl (fm_dec dtX11_one 54 rfl) ?_
          refine pv_dup (pc := 105) rfl (fm_dec dtX11_one 55 rfl) ?_
          refine pv_getI (k := 0) (j := 8) (ci := 11) (pc := 106) pfl_X11_160 (by decide) rfl (by decide) (fm_dec dtX11_one 56 rfl) ?_
          refine pv_iconst (pc := 109) (v := 1) (by decide) (fm_dec dtX11_one 57 rfl) ?_
          refine pv_isub (pc := 110) (fm_dec dtX11_one 58 rfl) ?_
          refine pv_putI (k := 0) (j := 8) (ci := 11) (pc := 111) pfl_X11_160 (by decide) rfl (by decide) (fm_dec dtX11_one 59 rfl) ?_
          exact pv_return (pc := 114) rfl (fm_dec dtX11_one 60 rfl) (hbad _ kb ab (by simp only [spTwo, spBind, e75, e79, e85, eb]) ((((k75.tr (es := c79) k79 hP2.lt).tr (es := c79) k85 hP3.lt).bd hB).pre (lwFr.at (x := x69)) (Nat.le_refl _)))
      · refine pv_then0 ?_
        refine pv_aloadn (pc := 88) (n := 0) 0 rfl rfl (fm_dec dtX11_one 45 rfl) ?_
        refine pv_invV0 (k := 0) (d' := 8) (pc := 89) pcv_X11_231 (by decide) rfl (Nat.le_of_ble_eq_true rfl) (by omega) (fm_dec dtX11_one 46 rfl) ?_
        refine c_sum1 hB.nz ?_
        refine pv_then0 ?_
        refine pv_aloadn (pc := 92) (n := 0) 0 rfl rfl (fm_dec dtX11_one 47 rfl) ?_
        refine pv_bipush (pc := 93) (v := 93) (by decide) (fm_dec dtX11_one 48 rfl) ?_
        refine pv_invV1 (k := 0) (d' := 2) (pc := 95) pcv_X11_173 (by decide) rfl (Nat.le_of_ble_eq_true rfl) (by omega) (fm_dec dtX11_one 49 rfl) ?_
        refine c_sign1 hB.nz ?_
        refine pv_then0 ?_
        refine pv_aloadn (pc := 98) (n := 0) 0 rfl rfl (fm_dec dtX11_one 50 rfl) ?_
        refine pv_iloadn (pc := 99) (n := 1) 1 rfl rfl (fm_dec dtX11_one 51 rfl) ?_
        refine pv_iconst (pc := 100) (v := 0) (by decide) (fm_dec dtX11_one 52 rfl) ?_
        refine pv_invV2 (k := 0) (d' := 0) (pc := 101) pcv_X11_218 (by decide) rfl (Nat.le_of_ble_eq_true rfl) (by omega) (fm_dec dtX11_one 53 rfl) ?_
        refine c_notes1 hB.nz ?_
        refine pv_then0 ?_
        refine pv_aloadn (pc := 104) (n := 0) 0 rfl rfl (fm_dec dtX11_one 54 rfl) ?_
        refine pv_dup (pc := 105) rfl (fm_dec dtX11_one 55 rfl) ?_
        refine pv_getI (k := 0) (j := 8) (ci := 11) (pc := 106) pfl_X11_160 (by decide) rfl (by decide) (fm_dec dtX11_one 56 rfl) ?_
        refine pv_iconst (pc := 109) (v := 1) (by decide) (fm_dec dtX11_one 57 rfl) ?_
        refine pv_isub (pc := 110) (fm_dec dtX11_one 58 rfl) ?_
        refine pv_putI (k := 0) (j := 8) (ci := 11) (pc := 111) pfl_X11_160 (by decide) rfl (by decide) (fm_dec dtX11_one 59 rfl) ?_
        exact pv_return (pc := 114) rfl (fm_dec dtX11_one 60 rfl) (hbad _ kb ab (by simp only [spTwo, spBind, e75, e79, eb]) (((k75.tr (es := c79) k79 hP2.lt).bd hB).pre (lwFr.at (x := x69)) (Nat.le_refl _)))
    · refine pv_then0 ?_
      refine pv_aloadn (pc := 82) (n := 0) 0 rfl rfl (fm_dec dtX11_one 42 rfl) ?_
      refine pv_bipush (pc := 83) (v := 44) (by decide) (fm_dec dtX11_one 43 rfl) ?_
      refine pv_invV1 (k := 0) (d' := 2) (pc := 85) pcv_X11_173 (by decide) rfl (Nat.le_of_ble_eq_true rfl) (by omega) (fm_dec dtX11_one 44 rfl) ?_
      refine c_sign1 hB.nz ?_
      refine pv_then0 ?_
      refine pv_aloadn (pc := 88) (n := 0) 0 rfl rfl (fm_dec dtX11_one 45 rfl) ?_
      refine pv_invV0 (k := 0) (d' := 8) (pc := 89) pcv_X11_231 (by decide) rfl (Nat.le_of_ble_eq_true rfl) (by omega) (fm_dec dtX11_one 46 rfl) ?_
      refine c_sum1 hB.nz ?_
      refine pv_then0 ?_
      refine pv_aloadn (pc := 92) (n := 0) 0 rfl rfl (fm_dec dtX11_one 47 rfl) ?_
      refine pv_bipush (pc := 93) (v := 93) (by decide) (fm_dec dtX11_one 48 rfl) ?_
      refine pv_invV1 (k := 0) (d' := 2) (pc := 95) pcv_X11_173 (by decide) rfl (Nat.le_of_ble_eq_true rfl) (by omega) (fm_dec dtX11_one 49 rfl) ?_
      refine c_sign1 hB.nz ?_
      refine pv_then0 ?_
      refine pv_aloadn (pc := 98) (n := 0) 0 rfl rfl (fm_dec dtX11_one 50 rfl) ?_
      refine pv_iloadn (pc := 99) (n := 1) 1 rfl rfl (fm_dec dtX11_one 51 rfl) ?_
      refine pv_iconst (pc := 100) (v := 0) (by decide) (fm_dec dtX11_one 52 rfl) ?_
      refine pv_invV2 (k := 0) (d' := 0) (pc := 101) pcv_X11_218 (by decide) rfl (Nat.le_of_ble_eq_true rfl) (by omega) (fm_dec dtX11_one 53 rfl) ?_
      refine c_notes1 hB.nz ?_
      refine pv_then0 ?_
      refine pv_aloadn (pc := 104) (n := 0) 0 rfl rfl (fm_dec dtX11_one 54 rfl) ?_
      refine pv_dup (pc := 105) rfl (fm_dec dtX11_one 55 rfl) ?_
      refine pv_getI (k := 0) (j := 8) (ci := 11) (pc := 106) pfl_X11_160 (by decide) rfl (by decide) (fm_dec dtX11_one 56 rfl) ?_
      refine pv_iconst (pc := 109) (v := 1) (by decide) (fm_dec dtX11_one 57 rfl) ?_
      refine pv_isub (pc := 110) (fm_dec dtX11_one 58 rfl) ?_
      refine pv_putI (k := 0) (j := 8) (ci := 11) (pc := 111) pfl_X11_160 (by decide) rfl (by decide) (fm_dec dtX11_one 59 rfl) ?_
      exact pv_return (pc := 114) rfl (fm_dec dtX11_one 60 rfl) (hbad _ kb ab (by simp only [spTwo, spBind, e75, eb]) ((k75.bd hB).pre (lwFr.at (x := x69)) (Nat.le_refl _)))
  · refine pv_then0 ?_
    refine pv_aloadn (pc := 78) (n := 0) 0 rfl rfl (fm_dec dtX11_one 40 rfl) ?_
    refine pv_invV0 (k := 0) (d' := 8) (pc := 79) pcv_X11_231 (by decide) rfl (Nat.le_of_ble_eq_true rfl) (by omega) (fm_dec dtX11_one 41 rfl) ?_
    refine c_sum1 hB.nz ?_
    refine pv_then0 ?_
    refine pv_aloadn (pc := 82) (n := 0) 0 rfl rfl (fm_dec dtX11_one 42 rfl) ?_
    refine pv_bipush (pc := 83) (v := 44) (by decide) (fm_dec dtX11_one 43 rfl) ?_
    refine pv_invV1 (k := 0) (d' := 2) (pc := 85) pcv_X11_173 (by decide) rfl (Nat.le_of_ble_eq_true rfl) (by omega) (fm_dec dtX11_one 44 rfl) ?_
    refine c_sign1 hB.nz ?_
    refine pv_then0 ?_
    refine pv_aloadn (pc := 88) (n := 0) 0 rfl rfl (fm_dec dtX11_one 45 rfl) ?_
    refine pv_invV0 (k := 0) (d' := 8) (pc := 89) pcv_X11_231 (by decide) rfl (Nat.le_of_ble_eq_true rfl) (by omega) (fm_dec dtX11_one 46 rfl) ?_
    refine c_sum1 hB.nz ?_
    refine pv_then0 ?_
    refine pv_aloadn (pc := 92) (n := 0) 0 rfl rfl (fm_dec dtX11_one 47 rfl) ?_
    refine pv_bipush (pc := 93) (v := 93) (by decide) (fm_dec dtX11_one 48 rfl) ?_
    refine pv_invV1 (k := 0) (d' := 2) (pc := 95) pcv_X11_173 (by decide) rfl (Nat.le_of_ble_eq_true rfl) (by omega) (fm_dec dtX11_one 49 rfl) ?_
    refine c_sign1 hB.nz ?_
    refine pv_then0 ?_
    refine pv_aloadn (pc := 98) (n := 0) 0 rfl rfl (fm_dec dtX11_one 50 rfl) ?_
    refine pv_iloadn (pc := 99) (n := 1) 1 rfl rfl (fm_dec dtX11_one 51 rfl) ?_
    refine pv_iconst (pc := 100) (v := 0) (by decide) (fm_dec dtX11_one 52 rfl) ?_
    refine pv_invV2 (k := 0) (d' := 0) (pc := 101) pcv_X11_218 (by decide) rfl (Nat.le_of_ble_eq_true rfl) (by omega) (fm_dec dtX11_one 53 rfl) ?_
    refine c_notes1 hB.nz ?_
    refine pv_then0 ?_
    refine pv_aloadn (pc := 104) (n := 0) 0 rfl rfl (fm_dec dtX11_one 54 rfl) ?_
    refine pv_dup (pc := 105) rfl (fm_dec dtX11_one 55 rfl) ?_
    refine pv_getI (k := 0) (j := 8) (ci := 11) (pc := 106) pfl_X11_160 (by decide) rfl (by decide) (fm_dec dtX11_one 56 rfl) ?_
    refine pv_iconst (pc := 109) (v := 1) (by decide) (fm_dec dtX11_one 57 rfl) ?_
    refine pv_isub (pc := 110) (fm_dec dtX11_one 58 rfl) ?_
    refine pv_putI (k := 0) (j := 8) (ci := 11) (pc := 111) pfl_X11_160 (by decide) rfl (by decide) (fm_dec dtX11_one 59 rfl) ?_
    exact pv_return (pc := 114) rfl (fm_dec dtX11_one 60 rfl) (hbad _ kb ab (by simp only [spTwo, spBind, eb]) (hB.pre (lwFr.at (x := x69)) (Nat.le_refl _)))
set_option maxRecDepth 20000 in
theorem one_par {tx : tX} {n f o a m : Nat} {M : fmM} {Q : fmR → fmM → Prop} {v1 v2 : Option Value} (ho6 : o < 6) (hlt : a + 1 ≤ n) (ih0 : lwG tx n f 0) (hP : lwPre M tx n a (o + 1) m) (hne : ¬ spPar tx (fun q => spL tx f 0 (o + 1) q) (a + 1) = .inl (9, 0)) (hok : ∀ (M5 : fmM) (cs : tC) (q : Nat), spPar tx (fun q => spL tx f 0 (o + 1) q) (a + 1) = .inr (cs, q) → lwOk M M5 tx n q m cs → Q (.inl none) (fmI M5 0 8 (M5.1 0 8 - 1))) (hbad : ∀ (M5 : fmM) (k a1 : Nat), spPar tx (fun q => spL tx f 0 (o + 1) q) (a + 1) = .inl (k, a1) → lwBad M M5 tx n k a1 m → Q (.inl none) (fmI M5 0 8 (M5.1 0 8 - 1))) : pvEv Tm (6 + 3 * (6 - o)) qX11_one 136 [some (.ref 0), v1, v2] [] M Q := by
  refine pv_aloadn (pc := 136) (n := 0) 0 rfl rfl (fm_dec dtX11_one 71 rfl) ?_
  refine pv_dup (pc := 137) rfl (fm_dec dtX11_one 72 rfl) ?_
  refine pv_getI (k := 0) (j := 4) (ci := 11) (pc := 138) pfl_X11_110 (by decide) rfl (by decide) (fm_dec dtX11_one 73 rfl) ?_
  refine pv_iconst (pc := 141) (v := 1) (by decide) (fm_dec dtX11_one 74 rfl) ?_
  refine pv_iadd (pc := 142) (fm_dec dtX11_one 75 rfl) ?_
  refine pv_putI (k := 0) (j := 4) (ci := 11) (pc := 143) pfl_X11_110 (by decide) rfl (by decide) (fm_dec dtX11_one 76 rfl) ?_
  have hP1 := hP.at (x := M.1 0 4 + 1) (i32_p1 hP.1.2.1 (by have := hP.1.2.2.2.1.1; omega)) hlt (Nat.le_succ a)
  refine pv_aloadn (pc := 146) (n := 0) 0 rfl rfl (fm_dec dtX11_one 77 rfl) ?_
  refine pv_invV0 (k := 0) (d' := (8 + 3 * (6 - (o + 1)))) (pc := 147) pcv_X11_231 (by decide) rfl (Nat.le_of_ble_eq_true rfl) (by omega) (fm_dec dtX11_one 78 rfl) ?_
  refine ih0 (o + 1) (a + 1) m (fmI M 0 4 (M.1 0 4 + 1)) _ hP1 (spBind_ne hne) ⟨fun M147 c147 q147 e147 k147 => ?_, fun Mb kb ab eb hB => ?_⟩  
  · refine pv_then0 ?_
    have l147 := spL_len hP.1.2.2.2.1 _ _ _ _ _ _ hP1.1.2.2.1 e147
    have hP2 := hP1.next k147 l147.1
    refine pv_aloadn (pc := 150) (n := 0) 0 rfl rfl (fm_dec dtX11_one 79 rfl) ?_
    refine pv_bipush (pc := 151) (v := 41) (by decide) (fm_dec dtX11_one 80 rfl) ?_
    refine pv_invV1 (k := 0) (d' := 2) (pc := 153) pcv_X11_173 (by decide) rfl (Nat.le_of_ble_eq_true rfl) (by omega) (fm_dec dtX11_one 81 rfl) ?_
    refine l_sign 41 ⟨by decide, by decide⟩ hP2.1 hP2.2.1 hP2.2.2.2.2.1 (fun M153 q153 e153 k153 => ?_) (fun Mb kb ab eb hB => ?_)  
    · refine pv_then0 ?_
      refine pv_aloadn (pc := 156) (n := 0) 0 rfl rfl (fm_dec dtX11_one 82 rfl) ?_
      refine pv_dup (pc := 157) rfl (fm_dec dtX11_one 83 rfl) ?_
      refine pv_getI (k := 0) (j := 8) (ci := 11) (pc := 158) pfl_X11_160 (by decide) rfl (by decide) (fm_dec dtX11_one 84 rfl) ?_
      refine pv_iconst (pc := 161) (v := 1) (by decide) (fm_dec dtX11_one 85 rfl) ?_
      refine pv_isub (pc := 162) (fm_dec dtX11_one 86 rfl) ?_
      refine pv_putI (k := 0) (j := 8) (ci := 11) (pc := 163) pfl_X11_160 (by decide) rfl (by decide) (fm_dec dtX11_one 87 rfl) ?_
      exact pv_return (pc := 166) rfl (fm_dec dtX11_one 88 rfl) (hok _ c147 q153 (by simp only [spPar, spBind, e147, e153]) ((k147.tr (es := c147) k153 hP2.lt).pre lwFr.at rfl))
    · refine pv_then0 ?_
      refine pv_aloadn (pc := 156) (n := 0) 0 rfl rfl (fm_dec dtX11_one 82 rfl) ?_
      refine pv_dup (pc := 157) rfl (fm_dec dtX11_one 83 rfl) ?_
      refine pv_getI (k := 0) (j := 8) (ci := 11) (pc := 158) pfl_X11_160 (by decide) rfl (by decide) (fm_dec dtX11_one 84 rfl) ?_
      refine pv_iconst (pc := 161) (v := 1) (by decide) (fm_dec dtX11_one 85 rfl) ?_
      refine pv_isub (pc := 162) (fm_dec dtX11_one 86 rfl) ?_
      refine pv_putI (k := 0) (j := 8) (ci := 11) (pc := 163) pfl_X11_160 (by decide) rfl (by decide) (fm_dec dtX11_one 87 rfl) ?_
      exact pv_return (pc := 166) rfl (fm_dec dtX11_one 88 rfl) (hbad _ kb ab (by simp only [spPar, spBind, e147, eb]) ((k147.bd hB).pre lwFr.at (Nat.le_refl _)))
  · refine pv_then0 ?_
    refine pv_aloadn (pc := 150) (n := 0) 0 rfl rfl (fm_dec dtX11_one 79 rfl) ?_
    refine pv_bipush (pc := 151) (v := 41) (by decide) (fm_dec dtX11_one 80 rfl) ?_
    refine pv_invV1 (k := 0) (d' := 2) (pc := 153) pcv_X11_173 (by decide) rfl (Nat.le_of_ble_eq_true rfl) (by omega) (fm_dec dtX11_one 81 rfl) ?_
    refine c_sign1 hB.nz ?_
    refine pv_then0 ?_
    refine pv_aloadn (pc := 156) (n := 0) 0 rfl rfl (fm_dec dtX11_one 82 rfl) ?_
    refine pv_dup (pc := 157) rfl (fm_dec dtX11_one 83 rfl) ?_
    refine pv_getI (k := 0) (j := 8) (ci := 11) (pc := 158) pfl_X11_160 (by decide) rfl (by decide) (fm_dec dtX11_one 84 rfl) ?_
    refine pv_iconst (pc := 161) (v := 1) (by decide) (fm_dec dtX11_one 85 rfl) ?_
    refine pv_isub (pc := 162) (fm_dec dtX11_one 86 rfl) ?_
    refine pv_putI (k := 0) (j := 8) (ci := 11) (pc := 163) pfl_X11_160 (by decide) rfl (by decide) (fm_dec dtX11_one 87 rfl) ?_
    exact pv_return (pc := 166) rfl (fm_dec dtX11_one 88 rfl) (hbad _ kb ab (by simp only [spPar, spBind, eb]) (hB.pre lwFr.at (Nat.le_refl _)))
set_option maxRecDepth 20000 in
theorem lw_one {tx : tX} {n f : Nat} (ih0 : lwG tx n f 0) : lwG tx n (f + 1) 2 := by
  intro o p m M Q hP hne hpo
  refine pvGood_of (Nat.le_of_ble_eq_true rfl) ?_
  show pvEv Tm (6 + 3 * (6 - o)) qX11_one 0 [some (.ref 0), none, none] [] M Q
  refine pv_aloadn (pc := 0) (n := 0) 0 rfl rfl (fm_dec dtX11_one 0 rfl) ?_
  refine pv_getI (k := 0) (j := 5) (ci := 11) (pc := 1) pfl_X11_117 (by decide) rfl (by decide) (fm_dec dtX11_one 1 rfl) ?_
  refine pv_if_eq (pc := 4) 8 (by decide) (fm_dec dtX11_one 2 rfl) (fun _ => ?_) (fun hc4 => by exfalso; exact hc4 hP.2.1)
  refine pv_aloadn (pc := 8) (n := 0) 0 rfl rfl (fm_dec dtX11_one 4 rfl) ?_
  refine pv_invV0 (k := 0) (d' := 1) (pc := 9) pcv_X11_123 (by decide) rfl (Nat.le_of_ble_eq_true rfl) (by omega) (fm_dec dtX11_one 5 rfl) ?_
  refine c_blanks hP.1 (fun x9 hx9 => ?_)
  refine pv_then0 ?_
  have hP1 := hP.at (x := x9) hx9 (hP.1.bl hx9).2.2.1 (sp_ge p)
  refine pv_aloadn (pc := 12) (n := 0) 0 rfl rfl (fm_dec dtX11_one 6 rfl) ?_
  refine pv_bipush (pc := 13) (v := 12) (by decide) (fm_dec dtX11_one 7 rfl) ?_
  refine pv_iconst (pc := 15) (v := 5) (by decide) (fm_dec dtX11_one 8 rfl) ?_
  refine pv_iconst (pc := 16) (v := 1) (by decide) (fm_dec dtX11_one 9 rfl) ?_
  refine pv_bipush (pc := 17) (v := 19) (by decide) (fm_dec dtX11_one 10 rfl) ?_
  refine pv_bipush (pc := 19) (v := 20) (by decide) (fm_dec dtX11_one 11 rfl) ?_
  refine pv_invV5 (k := 0) (d' := 3) (pc := 21) pcv_X11_150 (by decide) rfl (Nat.le_of_ble_eq_true rfl) (by omega) (fm_dec dtX11_one 12 rfl) ?_
  refine c_isWord [108, 101, 97, 115, 116] ⟨by decide, by decide, by decide⟩ hP1.1 hP1.2.1 (fun x21 e21 hx21 => ?_) (fun x21 e21 hx21 => ?_)
  · refine pv_then1 ?_
    rw [(sk_sk hP.1.2.2.2.1 hP.1.2.2.1)] at e21 hx21
    have hP2 := hP1.at (x := x21) hx21 (hP1.1).2.2.1 (Nat.le_refl _)
    refine pv_if_eq (pc := 24) 32 (by decide) (fm_dec dtX11_one 13 rfl) (fun hc24 => by exfalso; revert hc24; decide) (fun _ => ?_)
    refine pv_bipush (pc := 27) (v := 6) (by decide) (fm_dec dtX11_one 14 rfl) ?_
    refine pv_goto (pc := 29) 54 (by decide) (fm_dec dtX11_one 15 rfl) ?_
    refine pv_istoren (pc := 54) (n := 1) 1 rfl (by decide) rfl (fm_dec dtX11_one 27 rfl) ?_
    dsimp only [List.set_cons_zero, List.set_cons_succ]
    refine pv_iloadn (pc := 55) (n := 1) 1 rfl rfl (fm_dec dtX11_one 28 rfl) ?_
    refine pv_iconst (pc := 56) (v := (-1)) (by decide) (fm_dec dtX11_one 29 rfl) ?_
    refine pv_icmp_eq (pc := 57) 115 (by decide) (fm_dec dtX11_one 30 rfl) (fun hc57 => by exfalso; revert hc57; decide) (fun _ => ?_)
    refine pv_aloadn (pc := 60) (n := 0) 0 rfl rfl (fm_dec dtX11_one 31 rfl) ?_
    refine pv_invV0 (k := 0) (d' := 1) (pc := 61) pcv_X11_227 (by decide) rfl (Nat.le_of_ble_eq_true rfl) (by omega) (fm_dec dtX11_one 32 rfl) ?_
    refine c_opens hP2.1 hP2.2.1 hP2.2.2.1 (fun h61 => ?_) (fun h61 => ?_)  
    · refine pv_then1 ?_
      refine pv_if_ne (pc := 64) 68 (by decide) (fm_dec dtX11_one 33 rfl) (fun hc64 => by exfalso; revert hc64; decide) (fun _ => ?_)
      exact pv_return (pc := 67) rfl (fm_dec dtX11_one 34 rfl) (hpo.2 _ 3 (sk tx p) ((spOne_1 e21).2 h61) ((hP2.full (by decide)).pre (lwFr.at.trans lwFr.at (Nat.le_refl _)) (Nat.le_refl _)))
    · refine pv_then1 ?_
      refine pv_if_ne (pc := 64) 68 (by decide) (fm_dec dtX11_one 33 rfl) (fun _ => ?_) (fun hc64 => by exfalso; revert hc64; decide)
      have ho5 : o < 6 := (by have := hP.2.2.2.1; omega)
      refine one_two (o := o) (cn := 6) (by decide) ho5 ih0 (hP2.opn h61) (fun h9 => hne (((spOne_1 e21).1 h61).trans h9)) (fun M5 cs q e k => hpo.1 _ cs q (((spOne_1 e21).1 h61).trans e) (k.cl ((lwFr.at.trans lwFr.at (Nat.le_refl _)).set (by omega)) rfl)) (fun M5 k a e hb => hpo.2 _ k a (((spOne_1 e21).1 h61).trans e) (hb.cl ((lwFr.at.trans lwFr.at (Nat.le_refl _)).set (by omega))))
  · refine pv_then1 ?_
    rw [(sk_sk hP.1.2.2.2.1 hP.1.2.2.1)] at e21 hx21
    have hP2 := hP1.at (x := x21) hx21 (hP1.1).2.2.1 (Nat.le_refl _)
    refine pv_if_eq (pc := 24) 32 (by decide) (fm_dec dtX11_one 13 rfl) (fun _ => ?_) (fun hc24 => by exfalso; revert hc24; decide)
    refine pv_aloadn (pc := 32) (n := 0) 0 rfl rfl (fm_dec dtX11_one 16 rfl) ?_
    refine pv_bipush (pc := 33) (v := 13) (by decide) (fm_dec dtX11_one 17 rfl) ?_
    refine pv_bipush (pc := 35) (v := 15) (by decide) (fm_dec dtX11_one 18 rfl) ?_
    refine pv_bipush (pc := 37) (v := 19) (by decide) (fm_dec dtX11_one 19 rfl) ?_
    refine pv_bipush (pc := 39) (v := 20) (by decide) (fm_dec dtX11_one 20 rfl) ?_
    refine pv_iconst (pc := 41) (v := 0) (by decide) (fm_dec dtX11_one 21 rfl) ?_
    refine pv_invV5 (k := 0) (d' := 3) (pc := 42) pcv_X11_150 (by decide) rfl (Nat.le_of_ble_eq_true rfl) (by omega) (fm_dec dtX11_one 22 rfl) ?_
    refine c_isWord [109, 111, 115, 116] ⟨by decide, by decide, by decide⟩ hP2.1 hP2.2.1 (fun x42 e42 hx42 => ?_) (fun x42 e42 hx42 => ?_)
    · refine pv_then1 ?_
      rw [(sk_sk hP.1.2.2.2.1 hP.1.2.2.1)] at e42 hx42
      have hP3 := hP2.at (x := x42) hx42 (hP2.1).2.2.1 (Nat.le_refl _)
      refine pv_if_eq (pc := 45) 53 (by decide) (fm_dec dtX11_one 23 rfl) (fun hc45 => by exfalso; revert hc45; decide) (fun _ => ?_)
      refine pv_bipush (pc := 48) (v := 7) (by decide) (fm_dec dtX11_one 24 rfl) ?_
      refine pv_goto (pc := 50) 54 (by decide) (fm_dec dtX11_one 25 rfl) ?_
      refine pv_istoren (pc := 54) (n := 1) 1 rfl (by decide) rfl (fm_dec dtX11_one 27 rfl) ?_
      dsimp only [List.set_cons_zero, List.set_cons_succ]
      refine pv_iloadn (pc := 55) (n := 1) 1 rfl rfl (fm_dec dtX11_one 28 rfl) ?_
      refine pv_iconst (pc := 56) (v := (-1)) (by decide) (fm_dec dtX11_one 29 rfl) ?_
      refine pv_icmp_eq (pc := 57) 115 (by decide) (fm_dec dtX11_one 30 rfl) (fun hc57 => by exfalso; revert hc57; decide) (fun _ => ?_)
      refine pv_aloadn (pc := 60) (n := 0) 0 rfl rfl (fm_dec dtX11_one 31 rfl) ?_
      refine pv_invV0 (k := 0) (d' := 1) (pc := 61) pcv_X11_227 (by decide) rfl (Nat.le_of_ble_eq_true rfl) (by omega) (fm_dec dtX11_one 32 rfl) ?_
      refine c_opens hP3.1 hP3.2.1 hP3.2.2.1 (fun h61 => ?_) (fun h61 => ?_)  
      · refine pv_then1 ?_
        refine pv_if_ne (pc := 64) 68 (by decide) (fm_dec dtX11_one 33 rfl) (fun hc64 => by exfalso; revert hc64; decide) (fun _ => ?_)
        exact pv_return (pc := 67) rfl (fm_dec dtX11_one 34 rfl) (hpo.2 _ 3 (sk tx p) ((spOne_2 e21 e42).2 h61) ((hP3.full (by decide)).pre ((lwFr.at.trans lwFr.at (Nat.le_refl _)).trans lwFr.at (Nat.le_refl _)) (Nat.le_refl _)))
      · refine pv_then1 ?_
        refine pv_if_ne (pc := 64) 68 (by decide) (fm_dec dtX11_one 33 rfl) (fun _ => ?_) (fun hc64 => by exfalso; revert hc64; decide)
        have ho5 : o < 6 := (by have := hP.2.2.2.1; omega)
        refine one_two (o := o) (cn := 7) (by decide) ho5 ih0 (hP3.opn h61) (fun h9 => hne (((spOne_2 e21 e42).1 h61).trans h9)) (fun M5 cs q e k => hpo.1 _ cs q (((spOne_2 e21 e42).1 h61).trans e) (k.cl (((lwFr.at.trans lwFr.at (Nat.le_refl _)).trans lwFr.at (Nat.le_refl _)).set (by omega)) rfl)) (fun M5 k a e hb => hpo.2 _ k a (((spOne_2 e21 e42).1 h61).trans e) (hb.cl (((lwFr.at.trans lwFr.at (Nat.le_refl _)).trans lwFr.at (Nat.le_refl _)).set (by omega))))
    · refine pv_then1 ?_
      rw [(sk_sk hP.1.2.2.2.1 hP.1.2.2.1)] at e42 hx42
      have hP3 := hP2.at (x := x42) hx42 (hP2.1).2.2.1 (Nat.le_refl _)
      refine pv_if_eq (pc := 45) 53 (by decide) (fm_dec dtX11_one 23 rfl) (fun _ => ?_) (fun hc45 => by exfalso; revert hc45; decide)
      refine pv_iconst (pc := 53) (v := (-1)) (by decide) (fm_dec dtX11_one 26 rfl) ?_
      refine pv_istoren (pc := 54) (n := 1) 1 rfl (by decide) rfl (fm_dec dtX11_one 27 rfl) ?_
      dsimp only [List.set_cons_zero, List.set_cons_succ]
      refine pv_iloadn (pc := 55) (n := 1) 1 rfl rfl (fm_dec dtX11_one 28 rfl) ?_
      refine pv_iconst (pc := 56) (v := (-1)) (by decide) (fm_dec dtX11_one 29 rfl) ?_
      refine pv_icmp_eq (pc := 57) 115 (by decide) (fm_dec dtX11_one 30 rfl) (fun _ => ?_) (fun hc57 => by exfalso; revert hc57; decide)
      refine pv_aloadn (pc := 115) (n := 0) 0 rfl rfl (fm_dec dtX11_one 61 rfl) ?_
      refine pv_aloadn (pc := 116) (n := 0) 0 rfl rfl (fm_dec dtX11_one 62 rfl) ?_
      refine pv_getI (k := 0) (j := 4) (ci := 11) (pc := 117) pfl_X11_110 (by decide) rfl (by decide) (fm_dec dtX11_one 63 rfl) ?_
      refine pv_invV1 (k := 0) (d' := 0) (pc := 120) pcv_X11_113 (by decide) rfl (Nat.le_of_ble_eq_true rfl) (by omega) (fm_dec dtX11_one 64 rfl) ?_
      refine c_byteAt hP3.1 (sk tx p) hx42 (fun v120 hv120 => ?_)
      refine pv_then1 ?_
      refine pv_bipush (pc := 123) (v := 40) (by decide) (fm_dec dtX11_one 65 rfl) ?_
      refine pv_icmp_ne (pc := 125) 167 (by decide) (fm_dec dtX11_one 66 rfl) (fun hc125 => ?_) (fun hc125 => ?_)
      · refine pv_aloadn (pc := 167) (n := 0) 0 rfl rfl (fm_dec dtX11_one 89 rfl) ?_
        refine pv_invV0 (k := 0) (d' := 5) (pc := 168) pcv_X11_234 (by decide) rfl (Nat.le_of_ble_eq_true rfl) (by omega) (fm_dec dtX11_one 90 rfl) ?_
        refine c_knownHere (sk_sk hP.1.2.2.2.1 hP.1.2.2.1) hP3.1 hP3.2.1 (fun k168 x168 w168 e168 hx168 hw168 => ?_) (fun x168 e168 hx168 => ?_)  
        · refine pv_then1 ?_
          have hP4 := hP3.at (x := x168) hx168 (sp_le (p := sk tx p) tW_1 hP.1.2.2.2.1 hP3.1.2.2.1) (sp_ge _)
          refine pv_istoren (pc := 171) (n := 2) 2 rfl (by decide) rfl (fm_dec dtX11_one 91 rfl) ?_
          dsimp only [List.set_cons_zero, List.set_cons_succ]
          refine pv_iloadn (pc := 172) (n := 2) 2 rfl rfl (fm_dec dtX11_one 92 rfl) ?_
          refine pv_iconst (pc := 173) (v := (-1)) (by decide) (fm_dec dtX11_one 93 rfl) ?_
          refine pv_icmp_eq (pc := 174) 186 (by decide) (fm_dec dtX11_one 94 rfl) (fun hc174 => by exfalso; rw [hc174] at hw168; have h9 : (-1 : Int32).toInt = -1 := (by decide); omega) (fun _ => ?_)
          refine pv_aloadn (pc := 177) (n := 0) 0 rfl rfl (fm_dec dtX11_one 95 rfl) ?_
          refine pv_iconst (pc := 178) (v := 1) (by decide) (fm_dec dtX11_one 96 rfl) ?_
          refine pv_iloadn (pc := 179) (n := 2) 2 rfl rfl (fm_dec dtX11_one 97 rfl) ?_
          refine pv_invV2 (k := 0) (d' := 0) (pc := 180) pcv_X11_218 (by decide) rfl (Nat.le_of_ble_eq_true rfl) (by omega) (fm_dec dtX11_one 98 rfl) ?_
          refine l_notes 1 k168 hP4.1 hP4.2.1 hP4.2.2.2.2.1 hP4.lt (by decide) hw168 (fun M180 k180 => ?_) 
          refine pv_then0 ?_
          refine pv_goto (pc := 183) 199 (by decide) (fm_dec dtX11_one 99 rfl) ?_
          exact pv_return (pc := 199) rfl (fm_dec dtX11_one 107 rfl) (hpo.1 _ _ _ (spOne_4 e21 e42 (fun h9 => hc125 (i32_ext (by rw [hv120, h9]; decide))) e168) (k180.pre (((lwFr.at.trans lwFr.at (Nat.le_refl _)).trans lwFr.at (Nat.le_refl _)).trans lwFr.at (Nat.le_refl _)) rfl))
        · refine pv_then1 ?_
          have hP4 := hP3.at (x := x168) hx168 hP3.1.2.2.1 (Nat.le_refl _)
          refine pv_istoren (pc := 171) (n := 2) 2 rfl (by decide) rfl (fm_dec dtX11_one 91 rfl) ?_
          dsimp only [List.set_cons_zero, List.set_cons_succ]
          refine pv_iloadn (pc := 172) (n := 2) 2 rfl rfl (fm_dec dtX11_one 92 rfl) ?_
          refine pv_iconst (pc := 173) (v := (-1)) (by decide) (fm_dec dtX11_one 93 rfl) ?_
          refine pv_icmp_eq (pc := 174) 186 (by decide) (fm_dec dtX11_one 94 rfl) (fun _ => ?_) (fun hc174 => by exfalso; revert hc174; decide)
          refine pv_aloadn (pc := 186) (n := 0) 0 rfl rfl (fm_dec dtX11_one 100 rfl) ?_
          refine pv_iconst (pc := 187) (v := 0) (by decide) (fm_dec dtX11_one 101 rfl) ?_
          refine pv_aloadn (pc := 188) (n := 0) 0 rfl rfl (fm_dec dtX11_one 102 rfl) ?_
          refine pv_iconst (pc := 189) (v := 0) (by decide) (fm_dec dtX11_one 103 rfl) ?_
          refine pv_sipush (pc := 190) (v := 999) (by decide) (fm_dec dtX11_one 104 rfl) ?_
          refine pv_invV2 (k := 0) (d' := 2) (pc := 193) pcv_X11_163 (by decide) rfl (Nat.le_of_ble_eq_true rfl) (by omega) (fm_dec dtX11_one 105 rfl) ?_
          refine l_num 0 999 ⟨by decide, by decide, by decide⟩ hP4.1 hP4.2.1 hP4.2.2.2.2.1 (fun M193 v193 q193 w193 e193 hw193 k193 => ?_) (fun Mb kb ab eb hB => ?_)  
          · refine pv_then1 ?_
            have n193 := spNum_ok hP.1.2.2.2.1 hP4.1.2.2.1 e193
            have hP5 : lwPre M193 tx n q193 o m := hP4.next k193 (Nat.le_of_lt n193.1)
            refine pv_invV2 (k := 0) (d' := 0) (pc := 196) pcv_X11_218 (by decide) rfl (Nat.le_of_ble_eq_true rfl) (by omega) (fm_dec dtX11_one 106 rfl) ?_
            refine l_notes 0 v193 k193.1 k193.2.1 hP5.2.2.2.2.1 hP5.lt (by decide) hw193 (fun M196 k196 => ?_) 
            refine pv_then0 ?_
            exact pv_return (pc := 199) rfl (fm_dec dtX11_one 107 rfl) (hpo.1 _ _ _ (spOne_5 e21 e42 (fun h9 => hc125 (i32_ext (by rw [hv120, h9]; decide))) e168 e193) ((k193.tr (es := [(0, v193)]) k196 hP5.lt).pre (((lwFr.at.trans lwFr.at (Nat.le_refl _)).trans lwFr.at (Nat.le_refl _)).trans lwFr.at (Nat.le_refl _)) rfl))
          · refine pv_then1 ?_
            refine pv_invV2 (k := 0) (d' := 0) (pc := 196) pcv_X11_218 (by decide) rfl (Nat.le_of_ble_eq_true rfl) (by omega) (fm_dec dtX11_one 106 rfl) ?_
            refine c_notes1 hB.nz ?_
            refine pv_then0 ?_
            exact pv_return (pc := 199) rfl (fm_dec dtX11_one 107 rfl) (hpo.2 _ kb ab (spOne_6 e21 e42 (fun h9 => hc125 (i32_ext (by rw [hv120, h9]; decide))) e168 eb) (hB.pre (((lwFr.at.trans lwFr.at (Nat.le_refl _)).trans lwFr.at (Nat.le_refl _)).trans lwFr.at (Nat.le_refl _)) (Nat.le_refl _)))
      · refine pv_aloadn (pc := 128) (n := 0) 0 rfl rfl (fm_dec dtX11_one 67 rfl) ?_
        refine pv_invV0 (k := 0) (d' := 1) (pc := 129) pcv_X11_227 (by decide) rfl (Nat.le_of_ble_eq_true rfl) (by omega) (fm_dec dtX11_one 68 rfl) ?_
        refine c_opens hP3.1 hP3.2.1 hP3.2.2.1 (fun h61 => ?_) (fun h61 => ?_)  
        · refine pv_then1 ?_
          refine pv_if_ne (pc := 132) 136 (by decide) (fm_dec dtX11_one 69 rfl) (fun hc132 => by exfalso; revert hc132; decide) (fun _ => ?_)
          exact pv_return (pc := 135) rfl (fm_dec dtX11_one 70 rfl) (hpo.2 _ 3 (sk tx p) ((spOne_3 e21 e42 (by rw [← hv120, hc125]; decide)).2 h61) ((hP3.full (by decide)).pre ((lwFr.at.trans lwFr.at (Nat.le_refl _)).trans lwFr.at (Nat.le_refl _)) (Nat.le_refl _)))
        · refine pv_then1 ?_
          refine pv_if_ne (pc := 132) 136 (by decide) (fm_dec dtX11_one 69 rfl) (fun _ => ?_) (fun hc132 => by exfalso; revert hc132; decide)
          have ho5 : o < 6 := (by have := hP.2.2.2.1; omega)
          have e40 : tx (sk tx p) = 40 := (by rw [← hv120, hc125]; decide)
          have hlt := hP3.1.lt (by omega)
          refine one_par (o := o) ho5 hlt ih0 (hP3.opn h61) (fun h9 => hne (((spOne_3 e21 e42 e40).1 h61).trans h9)) (fun M5 cs q e k => hpo.1 _ cs q (((spOne_3 e21 e42 e40).1 h61).trans e) (k.cl (((lwFr.at.trans lwFr.at (Nat.le_refl _)).trans lwFr.at (Nat.le_refl _)).set (by omega)) rfl)) (fun M5 k a e hb => hpo.2 _ k a (((spOne_3 e21 e42 e40).1 h61).trans e) (hb.cl (((lwFr.at.trans lwFr.at (Nat.le_refl _)).trans lwFr.at (Nat.le_refl _)).set (by omega))))
theorem lw_all {tx : tX} {n : Nat} : ∀ f md, lwG tx n f md := by
  intro f
  induction f with
  | zero => intro md o p m M Q hP hne hpo; exact absurd rfl hne
  | succ f ih =>
    intro md
    match md with
    | 0 => exact lw_sum0 (ih 1) (ih 3)
    | 1 => exact lw_product0 (ih 2) (ih 4)
    | 2 => exact lw_one (ih 0)
    | 3 => exact lw_sum3 (ih 1) (ih 3)
    | md + 4 => exact lw_product3 (ih 2) (ih 4)
