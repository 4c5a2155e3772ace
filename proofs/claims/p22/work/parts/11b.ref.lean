-- THE REFERENCE READS TEXTS
theorem fmI_fmI (M : fmM) (k j : Nat) (a b : Int32) : fmI (fmI M k j a) k j b = fmI M k j b := by
  unfold fmI
  congr 1
  funext k'
  by_cases h : k' = k
  · subst h
    simp only [if_true]
    funext j'
    simp only [upd]
    split <;> rfl
  · simp only [h, if_false]
theorem fmI_id (M : fmM) (k j : Nat) : fmI M k j (M.1 k j) = M := by
  unfold fmI
  have : (fun k' => if k' = k then upd (M.1 k) j (M.1 k j) else M.1 k') = M.1 := by
    funext k'
    by_cases h : k' = k
    · subst h
      simp only [if_true]
      funext j'
      simp only [upd]
      split
      · rename_i e; rw [e]
      · rfl
    · simp only [h, if_false]
  rw [this]
/-- the reference stands at place p of a text of n bytes -/
def rS (M : fmM) (tx : tX) (n p : Nat) : Prop := (M.1 0 2).toInt = n ∧ (M.1 0 4).toInt = p ∧ p ≤ n ∧ tOk tx n ∧ ∀ i, i < n → (M.1 1 i).toInt = tx i
theorem tB_of {c : Int} {v : Int32} (h : v.toInt = c) (e : v = 32) : tB c = true := by
  subst e
  rw [← h]
  decide
theorem tB_no {c : Int} {v : Int32} (h : v.toInt = c) (e : ¬ v = 32) : tB c = false := by
  unfold tB
  rw [decide_eq_false_iff_not]
  intro h2
  apply e
  apply i32_ext
  rw [h, h2]
  decide
theorem tB_eq {c : Int} (h : tB c = true) : c = 32 := by simpa [tB] using h
theorem tD_t {c : Int32} (h1 : ¬ c < 48) (h2 : ¬ 57 < c) : tD c.toInt = true := by
  rw [sc_lt] at h1 h2
  have e1 : (48 : Int32).toInt = 48 := by decide
  have e2 : (57 : Int32).toInt = 57 := by decide
  simp only [tD, Bool.and_eq_true, decide_eq_true_eq]
  omega
theorem tD_f {c : Int32} (h : c < 48 ∨ 57 < c) : tD c.toInt = false := by
  rw [sc_lt, sc_lt] at h
  have e1 : (48 : Int32).toInt = 48 := by decide
  have e2 : (57 : Int32).toInt = 57 := by decide
  simp only [tD, Bool.and_eq_false_iff, decide_eq_false_iff_not]
  omega
theorem tW_t {c : Int32} (h1 : ¬ c < 97) (h2 : ¬ 122 < c) : tW c.toInt = true := by
  rw [sc_lt] at h1 h2
  have e1 : (97 : Int32).toInt = 97 := by decide
  have e2 : (122 : Int32).toInt = 122 := by decide
  simp only [tW, Bool.and_eq_true, decide_eq_true_eq]
  omega
theorem tW_f {c : Int32} (h : c < 97 ∨ 122 < c) : tW c.toInt = false := by
  rw [sc_lt, sc_lt] at h
  have e1 : (97 : Int32).toInt = 97 := by decide
  have e2 : (122 : Int32).toInt = 122 := by decide
  simp only [tW, Bool.and_eq_false_iff, decide_eq_false_iff_not]
  omega
theorem i32_p1 {x : Int32} {p : Nat} (h : x.toInt = p) (hp : p < 100000) : (x + 1).toInt = ((p + 1 : Nat) : Int) := by
  have e1 : (1 : Int32).toInt = 1 := by decide
  rw [sc_add (by omega) (by omega)]
  omega
section RS
variable {M : fmM} {tx : tX} {n p : Nat}
theorem rS.lt (h : rS M tx n p) (hc : 0 ≤ tx p) : p < n := by
  by_cases e : p < n
  · exact e
  · have := h.2.2.2.1.2.1 p (by omega)
    omega
theorem rS.set {q : Nat} {x : Int32} (h : rS M tx n p) (hx : x.toInt = q) (hq : q ≤ n) : rS (fmI M 0 4 x) tx n q := ⟨h.1, hx, hq, h.2.2.2.1, h.2.2.2.2⟩
theorem rS.step (h : rS M tx n p) (hp : p < n) : rS (fmI M 0 4 (M.1 0 4 + 1)) tx n (p + 1) := h.set (i32_p1 h.2.1 (by have := h.2.2.2.1.1; omega)) hp
/-- what isn't the text's own may change -/
theorem rS.of {M' : fmM} (h : rS M tx n p) (h1 : M'.1 0 2 = M.1 0 2) (h2 : M'.1 0 4 = M.1 0 4) (h3 : M'.1 1 = M.1 1) : rS M' tx n p := by
  unfold rS
  rw [h1, h2, h3]
  exact h
theorem rS.inb {k : Int32} {q : Nat} (h : rS M tx n p) (hk : k.toInt = q) (hc : k < M.1 0 2) : vp_in k 600 := by
  rw [sc_lt] at hc
  have h1 := h.1
  have h2 := h.2.2.2.1.1
  exact vp_in_iff.mpr ⟨by omega, by omega⟩
theorem rS.bend {k : Int32} {q : Nat} (h : rS M tx n p) (hk : k.toInt = q) (hc : ¬ k < M.1 0 2) : (-1 : Int32).toInt = tx q := by
  rw [sc_lt] at hc
  have h1 := h.1
  rw [h.2.2.2.1.2.1 q (by omega)]
  decide
theorem rS.bin {k : Int32} {q : Nat} (h : rS M tx n p) (hk : k.toInt = q) (hc : k < M.1 0 2) : (M.1 1 k.toNatClampNeg).toInt = tx q := by
  rw [sc_lt] at hc
  have h1 := h.1
  have e : k.toNatClampNeg = q := by
    show k.toInt.toNat = q
    omega
  rw [e]
  exact h.2.2.2.2 q (by omega)
end RS
theorem rS.bl {M : fmM} {tx : tX} {n p : Nat} {x : Int32} (h : rS M tx n p) (hx : x.toInt = sk tx p) : rS (fmI M 0 4 x) tx n (sk tx p) := h.set hx (sp_le tB_1 h.2.2.2.1 h.2.2.1)
theorem tD_in {c : Int} (h : tD c = true) : 48 ≤ c ∧ c ≤ 57 := by simpa [tD] using h
theorem tW_in {c : Int} (h : tW c = true) : 97 ≤ c ∧ c ≤ 122 := by simpa [tW] using h
theorem nm_ar {v c : Int32} {w : Nat} {t : Int} (hv : v.toInt = min (w : Int) 100000) (hc : c.toInt = t) (hd : 48 ≤ t ∧ t ≤ 57) : (10 * v + c - 48).toInt = 10 * v.toInt + (t - 48) := by
  have e1 : (10 : Int32).toInt = 10 := by decide
  have e2 : (48 : Int32).toInt = 48 := by decide
  have a1 : (10 * v).toInt = 10 * v.toInt := by rw [sc_mul (by rw [e1]; omega) (by rw [e1]; omega), e1]
  have a2 : (10 * v + c).toInt = 10 * v.toInt + t := by rw [sc_add (by rw [a1]; omega) (by rw [a1]; omega), a1, hc]
  rw [sc_sub (by rw [a2, e2]; omega) (by rw [a2, e2]; omega), a2, e2]
  omega
theorem nm_le {x v : Int32} {w : Nat} {t : Int} (e : x.toInt = 10 * v.toInt + (t - 48)) (h : x ≤ 100000) (hv : v.toInt = min (w : Int) 100000 := by assumption) (hd : 48 ≤ t ∧ t ≤ 57 := by assumption) : x.toInt = min ((10 * w + (t - 48).toNat : Nat) : Int) 100000 := by
  rw [sc_le] at h
  have e1 : (100000 : Int32).toInt = 100000 := by decide
  omega
theorem nm_gt {x v : Int32} {w : Nat} {t : Int} (e : x.toInt = 10 * v.toInt + (t - 48)) (h : ¬ x ≤ 100000) (hv : v.toInt = min (w : Int) 100000 := by assumption) (hd : 48 ≤ t ∧ t ≤ 57 := by assumption) : (100000 : Int32).toInt = min ((10 * w + (t - 48).toNat : Nat) : Int) 100000 := by
  rw [sc_le] at h
  have e1 : (100000 : Int32).toInt = 100000 := by decide
  omega
theorem spNum_y {tx : tX} {p : Nat} {lo hi : Int} (h : tD (tx (sk tx p)) = true) (h1 : lo ≤ (nu tx (sk tx p) 0 : Int)) (h2 : (nu tx (sk tx p) 0 : Int) ≤ hi) : spNum tx lo hi p = .inr (nu tx (sk tx p) 0, sp tD tx (sk tx p)) := by
  unfold spNum
  rw [if_pos h, if_pos (by simp [h1, h2])]
theorem spNum_n {tx : tX} {p : Nat} {lo hi : Int} (h : tD (tx (sk tx p)) = true) (h1 : ¬ (lo ≤ (nu tx (sk tx p) 0 : Int) ∧ (nu tx (sk tx p) 0 : Int) ≤ hi)) : spNum tx lo hi p = .inl (2, sk tx p) := by
  unfold spNum
  rw [if_pos h, if_neg (by simpa using h1)]
theorem spNum_0 {tx : tX} {p : Nat} {lo hi : Int} (h : tD (tx (sk tx p)) = false) : spNum tx lo hi p = .inl (1, sk tx p) := by
  unfold spNum
  rw [if_neg (by rw [h]; exact Bool.false_ne_true)]
theorem fmI_com {M : fmM} {k j j' : Nat} {a b : Int32} (h : j ≠ j') : fmI (fmI M k j a) k j' b = fmI (fmI M k j' b) k j a := by
  unfold fmI
  congr 1
  funext k'
  by_cases e : k' = k
  · subst e
    simp only [if_true]
    funext i
    simp only [upd]
    by_cases e1 : i = j
    · subst e1
      simp [h]
    · simp [e1]
  · simp only [e, if_false]
theorem fmI_com3 {M : fmM} {x y k a : Int32} : fmI (fmI (fmI M 0 4 x) 0 5 k) 0 6 a = fmI (fmI (fmI (fmI M 0 4 y) 0 5 k) 0 6 a) 0 4 x := by
  rw [fmI_com (j := 6) (j' := 4) (by decide), fmI_com (j := 5) (j' := 4) (by decide), fmI_fmI]
theorem spSign_y {tx : tX} {p : Nat} {v c : Int32} (hv : v.toInt = tx (sk tx p)) (h : v = c) : spSign tx c.toInt p = .inr ((), sk tx p + 1) := by
  unfold spSign
  rw [if_pos (by rw [← hv, h])]
theorem spSign_n {tx : tX} {p : Nat} {v c : Int32} (hv : v.toInt = tx (sk tx p)) (h : ¬ v = c) : spSign tx c.toInt p = .inl (1, sk tx p) := by
  unfold spSign
  rw [if_neg (fun e => h (i32_ext (by rw [hv, e])))]
def fvE (a b c d e : Int32) : Int32 :=
  let v := 27 * a + b
  let v := if c = 0 then v else 27 * v + c
  let v := if d = 0 then v else 27 * v + d
  if e = 0 then v else 27 * v + e
theorem w27_bd : ∀ (cs : List Int) (v : Int), (∀ c ∈ cs, tW c = true) → w27 v cs + 1 ≤ (v + 1) * 27 ^ cs.length
  | [], v, _ => by simp [w27]
  | c :: cs, v, h => by
    have h1 := tW_in (h c List.mem_cons_self)
    have ih := w27_bd cs (27 * v + (c - 96)) (fun x hx => h x (List.mem_cons_of_mem _ hx))
    have h3 : (27 * v + (c - 96) + 1) * 27 ^ cs.length ≤ (27 * (v + 1)) * 27 ^ cs.length := Int.mul_le_mul_of_nonneg_right (by omega) (Int.le_of_lt (Int.pow_pos (by omega)))
    have h4 : (27 * (v + 1)) * 27 ^ cs.length = (v + 1) * 27 ^ (c :: cs).length := by
      rw [List.length_cons, Int.pow_succ, Int.mul_comm 27 (v + 1), Int.mul_assoc, Int.mul_comm 27 (27 ^ cs.length)]
    show w27 (27 * v + (c - 96)) cs + 1 ≤ _
    omega
theorem rS.lt2 {M : fmM} {tx : tX} {n p q : Nat} (h : rS M tx n p) (hq : q ≤ n) (hc : 0 ≤ tx q) : q < n := by
  by_cases e : q < n
  · exact e
  · have := h.2.2.2.1.2.1 q (by omega)
    omega
theorem wh_k {M : fmM} {tx : tX} {n a i : Nat} {k : Int32} (hS : rS M tx n a) (hk : k.toInt = i) (hle : a + i ≤ n) : (M.1 0 4 + k).toInt = ((a + i : Nat) : Int) := by
  have h1 := hS.2.1
  have h2 := hS.2.2.2.1.1
  rw [sc_add (by omega) (by omega)]
  omega
theorem wh_k1 {M : fmM} {tx : tX} {n a : Nat} {k : Int32} {pre : List Int} {c : Int} (hk : k.toInt = pre.length) (hle : a + pre.length ≤ n) (hS : rS M tx n a) : (k + 1).toInt = ((pre ++ [c]).length : Int) := by
  have h2 := hS.2.2.2.1.1
  rw [i32_p1 hk (by omega)]
  simp
theorem wh_cons (pre : List Int) (c : Int) (r : List Int) : pre ++ c :: r = (pre ++ [c]) ++ r := by simp
theorem wh_lt {k v c : Int32} {pre : List Int} {t : Int} (hk : k.toInt = pre.length) (hc : ¬ 5 ≤ k) (hv : v.toInt = w27 0 (pre.take 5)) (hx : c.toInt = t) (ht : tW t = true) (hpre : ∀ c ∈ pre, tW c = true) : (27 * v + c - 97 + 1).toInt = w27 0 ((pre ++ [t]).take 5) := by
  rw [sc_le] at hc
  have e5 : (5 : Int32).toInt = 5 := by decide
  have hl : pre.length < 5 := by omega
  have e1 : pre.take 5 = pre := List.take_of_length_le (by omega)
  have e2 : (pre ++ [t]).take 5 = pre ++ [t] := List.take_of_length_le (by simp; omega)
  rw [e1] at hv
  rw [e2, w27_app]
  have b1 := w27_nn pre 0 (by omega) hpre
  have b2 := w27_bd pre 0 hpre
  have b4 := tW_in ht
  have b5 : w27 0 pre ≤ 531441 := by
    have p0 : ((0 : Int) + 1) * 27 ^ 0 = 1 := by decide
    have p1 : ((0 : Int) + 1) * 27 ^ 1 = 27 := by decide
    have p2 : ((0 : Int) + 1) * 27 ^ 2 = 729 := by decide
    have p3 : ((0 : Int) + 1) * 27 ^ 3 = 19683 := by decide
    have p4 : ((0 : Int) + 1) * 27 ^ 4 = 531441 := by decide
    rcases (show pre.length = 0 ∨ pre.length = 1 ∨ pre.length = 2 ∨ pre.length = 3 ∨ pre.length = 4 by omega) with h | h | h | h | h <;> rw [h] at b2 <;> omega
  have c1 : (27 : Int32).toInt = 27 := by decide
  have c2 : (97 : Int32).toInt = 97 := by decide
  have c3 : (1 : Int32).toInt = 1 := by decide
  have a1 : (27 * v).toInt = 27 * v.toInt := by rw [sc_mul (by rw [c1]; omega) (by rw [c1]; omega), c1]
  have a2 : (27 * v + c).toInt = 27 * v.toInt + t := by rw [sc_add (by rw [a1]; omega) (by rw [a1]; omega), a1, hx]
  have a3 : (27 * v + c - 97).toInt = 27 * v.toInt + t - 97 := by rw [sc_sub (by rw [a2, c2]; omega) (by rw [a2, c2]; omega), a2, c2]
  rw [sc_add (by rw [a3, c3]; omega) (by rw [a3, c3]; omega), a3, c3]
  omega
theorem wh_ge {k v : Int32} {pre : List Int} {t : Int} (hk : k.toInt = pre.length) (hc : 5 ≤ k) (hv : v.toInt = w27 0 (pre.take 5)) : v.toInt = w27 0 ((pre ++ [t]).take 5) := by
  rw [sc_le] at hc
  have e5 : (5 : Int32).toInt = 5 := by decide
  rw [hv, List.take_append_of_le_length (by omega)]
theorem wh_5 {k v : Int32} {pre : List Int} (hk : k.toInt = pre.length) (hc : k ≤ 5) (hv : v.toInt = w27 0 (pre.take 5)) : v.toInt = (if pre.length ≤ 5 then w27 0 pre else -1) := by
  rw [sc_le] at hc
  have e5 : (5 : Int32).toInt = 5 := by decide
  rw [if_pos (by omega), hv, List.take_of_length_le (by omega)]
theorem wh_6 {k : Int32} {pre : List Int} (hk : k.toInt = pre.length) (hc : ¬ k ≤ 5) : (-1 : Int32).toInt = (if pre.length ≤ 5 then w27 0 pre else -1) := by
  rw [sc_le] at hc
  have e5 : (5 : Int32).toInt = 5 := by decide
  rw [if_neg (by omega)]
  decide
theorem iw_y {v r : Int32} {w : List Int} (hw : v.toInt = w27 0 w ∧ w.length ≤ 5 ∧ ∀ c ∈ w, tW c = true) {tx : tX} {p : Nat} (hr : r.toInt = (if (wd tx p).length ≤ 5 then w27 0 (wd tx p) else -1)) (h : r = v) : wd tx p = w := by
  have h0 := w27_nn w 0 (by omega) hw.2.2
  rw [h, hw.1] at hr
  split at hr
  · exact (w27_inj _ w (wd tx p) (Nat.le_refl _) hw.2.2 wd_let hr).symm
  · omega
theorem iw_n {v r : Int32} {w : List Int} (hw : v.toInt = w27 0 w ∧ w.length ≤ 5 ∧ ∀ c ∈ w, tW c = true) {tx : tX} {p : Nat} (hr : r.toInt = (if (wd tx p).length ≤ 5 then w27 0 (wd tx p) else -1)) (h : ¬ r = v) : ¬ wd tx p = w := by
  intro e
  apply h
  apply i32_ext
  rw [hr, e, if_pos hw.2.1, hw.1]
set_option maxRecDepth 20000 in
theorem c_byteAt {M : fmM} {Q : fmR → fmM → Prop} {tx : tX} {n p : Nat} {k : Int32} (hS : rS M tx n p) (q : Nat) (hk : k.toInt = q) (hq : ∀ v : Int32, v.toInt = tx q → Q (.inl (some (.int v))) M) : pvGood Tm 0 qX11_byteAt [.ref 0, .int k] M Q := by
  refine pvGood_of (Nat.le_of_ble_eq_true rfl) ?_
  show pvEv Tm 0 qX11_byteAt 0 [some (.ref 0), some (.int k)] [] M Q
  refine pv_iloadn (pc := 0) (n := 1) 1 rfl rfl (fm_dec dtX11_byteAt 0 rfl) ?_
  refine pv_aloadn (pc := 1) (n := 0) 0 rfl rfl (fm_dec dtX11_byteAt 1 rfl) ?_
  refine pv_getI (k := 0) (j := 2) (ci := 11) (pc := 2) pfl_X11_107 (by decide) rfl (by decide) (fm_dec dtX11_byteAt 2 rfl) ?_
  refine pv_icmp_lt (pc := 5) 12 (by decide) (fm_dec dtX11_byteAt 3 rfl) (fun hc5 => ?_) (fun hc5 => ?_)
  · refine pv_aloadn (pc := 12) (n := 0) 0 rfl rfl (fm_dec dtX11_byteAt 6 rfl) ?_
    refine pv_getR (k := 0) (j := 9) (ci := 11) (pc := 13) 1 rfl (by decide) pfl_X11_13 (by decide) rfl (by decide) (fm_dec dtX11_byteAt 7 rfl) ?_
    refine pv_iloadn (pc := 16) (n := 1) 1 rfl rfl (fm_dec dtX11_byteAt 8 rfl) ?_
    refine pv_iald (k := 1) (n := 600) (pc := 17) (by decide) rfl rfl (rS.inb hS hk hc5) (fm_dec dtX11_byteAt 9 rfl) ?_
    exact pv_ireturn (pc := 18) rfl (fm_dec dtX11_byteAt 10 rfl) (hq _ (by first | exact rS.bend hS hk hc5 | exact rS.bin hS hk hc5))
  · refine pv_iconst (pc := 8) (v := (-1)) (by decide) (fm_dec dtX11_byteAt 4 rfl) ?_
    refine pv_goto (pc := 9) 18 (by decide) (fm_dec dtX11_byteAt 5 rfl) ?_
    exact pv_ireturn (pc := 18) rfl (fm_dec dtX11_byteAt 10 rfl) (hq _ (by first | exact rS.bend hS hk hc5 | exact rS.bin hS hk hc5))
set_option maxRecDepth 20000 in
theorem c_isDigit {M : fmM} {Q : fmR → fmM → Prop} {c : Int32} (ht : tD c.toInt = true → Q (.inl (some (.int 1))) M) (hf : tD c.toInt = false → Q (.inl (some (.int 0))) M) : pvGood Tm 0 qX11_isDigit [.int c] M Q := by
  refine pvGood_of (Nat.le_of_ble_eq_true rfl) ?_
  show pvEv Tm 0 qX11_isDigit 0 [some (.int c)] [] M Q
  refine pv_iloadn (pc := 0) (n := 0) 0 rfl rfl (fm_dec dtX11_isDigit 0 rfl) ?_
  refine pv_bipush (pc := 1) (v := 48) (by decide) (fm_dec dtX11_isDigit 1 rfl) ?_
  refine pv_icmp_lt (pc := 3) 16 (by decide) (fm_dec dtX11_isDigit 2 rfl) (fun hc3 => ?_) (fun hc3 => ?_)
  · refine pv_iconst (pc := 16) (v := 0) (by decide) (fm_dec dtX11_isDigit 8 rfl) ?_
    exact pv_zreturn (pc := 17) rfl (by first | exact Or.inr rfl | exact Or.inl rfl) (fm_dec dtX11_isDigit 9 rfl) (by first | exact ht (tD_t hc3 hc9) | exact hf (tD_f (Or.inl hc3)) | exact hf (tD_f (Or.inr hc9)))
  · refine pv_iloadn (pc := 6) (n := 0) 0 rfl rfl (fm_dec dtX11_isDigit 3 rfl) ?_
    refine pv_bipush (pc := 7) (v := 57) (by decide) (fm_dec dtX11_isDigit 4 rfl) ?_
    refine pv_icmp_gt (pc := 9) 16 (by decide) (fm_dec dtX11_isDigit 5 rfl) (fun hc9 => ?_) (fun hc9 => ?_)
    · refine pv_iconst (pc := 16) (v := 0) (by decide) (fm_dec dtX11_isDigit 8 rfl) ?_
      exact pv_zreturn (pc := 17) rfl (by first | exact Or.inr rfl | exact Or.inl rfl) (fm_dec dtX11_isDigit 9 rfl) (by first | exact ht (tD_t hc3 hc9) | exact hf (tD_f (Or.inl hc3)) | exact hf (tD_f (Or.inr hc9)))
    · refine pv_iconst (pc := 12) (v := 1) (by decide) (fm_dec dtX11_isDigit 6 rfl) ?_
      refine pv_goto (pc := 13) 17 (by decide) (fm_dec dtX11_isDigit 7 rfl) ?_
      exact pv_zreturn (pc := 17) rfl (by first | exact Or.inr rfl | exact Or.inl rfl) (fm_dec dtX11_isDigit 9 rfl) (by first | exact ht (tD_t hc3 hc9) | exact hf (tD_f (Or.inl hc3)) | exact hf (tD_f (Or.inr hc9)))
set_option maxRecDepth 20000 in
theorem c_isSmall {M : fmM} {Q : fmR → fmM → Prop} {c : Int32} (ht : tW c.toInt = true → Q (.inl (some (.int 1))) M) (hf : tW c.toInt = false → Q (.inl (some (.int 0))) M) : pvGood Tm 0 qX11_isSmall [.int c] M Q := by
  refine pvGood_of (Nat.le_of_ble_eq_true rfl) ?_
  show pvEv Tm 0 qX11_isSmall 0 [some (.int c)] [] M Q
  refine pv_iloadn (pc := 0) (n := 0) 0 rfl rfl (fm_dec dtX11_isSmall 0 rfl) ?_
  refine pv_bipush (pc := 1) (v := 97) (by decide) (fm_dec dtX11_isSmall 1 rfl) ?_
  refine pv_icmp_lt (pc := 3) 16 (by decide) (fm_dec dtX11_isSmall 2 rfl) (fun hc3 => ?_) (fun hc3 => ?_)
  · refine pv_iconst (pc := 16) (v := 0) (by decide) (fm_dec dtX11_isSmall 8 rfl) ?_
    exact pv_zreturn (pc := 17) rfl (by first | exact Or.inr rfl | exact Or.inl rfl) (fm_dec dtX11_isSmall 9 rfl) (by first | exact ht (tW_t hc3 hc9) | exact hf (tW_f (Or.inl hc3)) | exact hf (tW_f (Or.inr hc9)))
  · refine pv_iloadn (pc := 6) (n := 0) 0 rfl rfl (fm_dec dtX11_isSmall 3 rfl) ?_
    refine pv_bipush (pc := 7) (v := 122) (by decide) (fm_dec dtX11_isSmall 4 rfl) ?_
    refine pv_icmp_gt (pc := 9) 16 (by decide) (fm_dec dtX11_isSmall 5 rfl) (fun hc9 => ?_) (fun hc9 => ?_)
    · refine pv_iconst (pc := 16) (v := 0) (by decide) (fm_dec dtX11_isSmall 8 rfl) ?_
      exact pv_zreturn (pc := 17) rfl (by first | exact Or.inr rfl | exact Or.inl rfl) (fm_dec dtX11_isSmall 9 rfl) (by first | exact ht (tW_t hc3 hc9) | exact hf (tW_f (Or.inl hc3)) | exact hf (tW_f (Or.inr hc9)))
    · refine pv_iconst (pc := 12) (v := 1) (by decide) (fm_dec dtX11_isSmall 6 rfl) ?_
      refine pv_goto (pc := 13) 17 (by decide) (fm_dec dtX11_isSmall 7 rfl) ?_
      exact pv_zreturn (pc := 17) rfl (by first | exact Or.inr rfl | exact Or.inl rfl) (fm_dec dtX11_isSmall 9 rfl) (by first | exact ht (tW_t hc3 hc9) | exact hf (tW_f (Or.inl hc3)) | exact hf (tW_f (Or.inr hc9)))
set_option maxRecDepth 20000 in
theorem rb_loop {Q : fmR → fmM → Prop} {tx : tX} {n : Nat} : ∀ (m : Nat) (M : fmM) (p : Nat), rS M tx n p → n - p = m → (∀ x : Int32, x.toInt = sk tx p → Q (.inl none) (fmI M 0 4 x)) → pvEv Tm 1 qX11_blanks 0 [some (.ref 0)] [] M Q := by
  intro m
  induction m using Nat.strongRecOn with
  | _ m ih =>
    intro M p hS hm hq
    refine pv_aloadn (pc := 0) (n := 0) 0 rfl rfl (fm_dec dtX11_blanks 0 rfl) ?_
    refine pv_aloadn (pc := 1) (n := 0) 0 rfl rfl (fm_dec dtX11_blanks 1 rfl) ?_
    refine pv_getI (k := 0) (j := 4) (ci := 11) (pc := 2) pfl_X11_110 (by decide) rfl (by decide) (fm_dec dtX11_blanks 2 rfl) ?_
    refine pv_invV1 (k := 0) (d' := 0) (pc := 5) pcv_X11_113 (by decide) rfl (Nat.le_of_ble_eq_true rfl) (by decide) (fm_dec dtX11_blanks 3 rfl) ?_
    refine c_byteAt hS p hS.2.1 (fun v5 hv5 => ?_)
    refine pv_then1 ?_
    refine pv_bipush (pc := 8) (v := 32) (by decide) (fm_dec dtX11_blanks 4 rfl) ?_
    refine pv_icmp_ne (pc := 10) 26 (by decide) (fm_dec dtX11_blanks 5 rfl) (fun hc10 => ?_) (fun hc10 => ?_)
    · exact pv_return (pc := 26) rfl (fm_dec dtX11_blanks 13 rfl) (by have h9 := hq (M.1 0 4) (by rw [hS.2.1]; unfold sk; rw [sp_f (tB_no hv5 hc10)]); rw [fmI_id] at h9; exact h9)
    · refine pv_aloadn (pc := 13) (n := 0) 0 rfl rfl (fm_dec dtX11_blanks 6 rfl) ?_
      refine pv_dup (pc := 14) rfl (fm_dec dtX11_blanks 7 rfl) ?_
      refine pv_getI (k := 0) (j := 4) (ci := 11) (pc := 15) pfl_X11_110 (by decide) rfl (by decide) (fm_dec dtX11_blanks 8 rfl) ?_
      refine pv_iconst (pc := 18) (v := 1) (by decide) (fm_dec dtX11_blanks 9 rfl) ?_
      refine pv_iadd (pc := 19) (fm_dec dtX11_blanks 10 rfl) ?_
      refine pv_putI (k := 0) (j := 4) (ci := 11) (pc := 20) pfl_X11_110 (by decide) rfl (by decide) (fm_dec dtX11_blanks 11 rfl) ?_
      refine pv_goto (pc := 23) 0 (by decide) (fm_dec dtX11_blanks 12 rfl) ?_
      have ht : tB (tx p) = true := tB_of hv5 hc10
      have hlt := hS.lt (by have := tB_eq ht; omega)
      refine ih (n - (p + 1)) (by omega) _ (p + 1) (hS.step hlt) rfl (fun x hx => ?_)
      rw [fmI_fmI]
      exact hq x (by unfold sk at hx ⊢; rw [sp_t (by have := hS.2.2.2.1.1; omega) ht]; exact hx)
theorem c_blanks {M : fmM} {Q : fmR → fmM → Prop} {tx : tX} {n p : Nat} (hS : rS M tx n p) (hq : ∀ x : Int32, x.toInt = sk tx p → Q (.inl none) (fmI M 0 4 x)) : pvGood Tm 1 qX11_blanks [.ref 0] M Q := pvGood_of (Nat.le_of_ble_eq_true rfl) (rb_loop _ M p hS rfl hq)
set_option maxRecDepth 20000 in
theorem c_wrongAt {M : fmM} {Q : fmR → fmM → Prop} {k a : Int32} (h0 : M.1 0 5 = 0 → Q (.inl none) (fmI (fmI M 0 5 k) 0 6 a)) (h1 : ¬ M.1 0 5 = 0 → Q (.inl none) M) : pvGood Tm 0 qX11_wrongAt [.ref 0, .int k, .int a] M Q := by
  refine pvGood_of (Nat.le_of_ble_eq_true rfl) ?_
  show pvEv Tm 0 qX11_wrongAt 0 [some (.ref 0), some (.int k), some (.int a)] [] M Q
  refine pv_aloadn (pc := 0) (n := 0) 0 rfl rfl (fm_dec dtX11_wrongAt 0 rfl) ?_
  refine pv_getI (k := 0) (j := 5) (ci := 11) (pc := 1) pfl_X11_117 (by decide) rfl (by decide) (fm_dec dtX11_wrongAt 1 rfl) ?_
  refine pv_if_ne (pc := 4) 17 (by decide) (fm_dec dtX11_wrongAt 2 rfl) (fun hc4 => ?_) (fun hc4 => ?_)
  · exact pv_return (pc := 17) rfl (fm_dec dtX11_wrongAt 9 rfl) (by first | exact h1 hc4 | exact h0 hc4)
  · refine pv_aloadn (pc := 7) (n := 0) 0 rfl rfl (fm_dec dtX11_wrongAt 3 rfl) ?_
    refine pv_iloadn (pc := 8) (n := 1) 1 rfl rfl (fm_dec dtX11_wrongAt 4 rfl) ?_
    refine pv_putI (k := 0) (j := 5) (ci := 11) (pc := 9) pfl_X11_117 (by decide) rfl (by decide) (fm_dec dtX11_wrongAt 5 rfl) ?_
    refine pv_aloadn (pc := 12) (n := 0) 0 rfl rfl (fm_dec dtX11_wrongAt 6 rfl) ?_
    refine pv_iloadn (pc := 13) (n := 2) 2 rfl rfl (fm_dec dtX11_wrongAt 7 rfl) ?_
    refine pv_putI (k := 0) (j := 6) (ci := 11) (pc := 14) pfl_X11_120 (by decide) rfl (by decide) (fm_dec dtX11_wrongAt 8 rfl) ?_
    exact pv_return (pc := 17) rfl (fm_dec dtX11_wrongAt 9 rfl) (by first | exact h1 hc4 | exact h0 hc4)
set_option maxRecDepth 20000 in
theorem c_in {M : fmM} {Q : fmR → fmM → Prop} {v lo hi : Int32} (ht : lo.toInt ≤ v.toInt → v.toInt ≤ hi.toInt → Q (.inl (some (.int 1))) M) (hf : ¬ (lo.toInt ≤ v.toInt ∧ v.toInt ≤ hi.toInt) → Q (.inl (some (.int 0))) M) : pvGood Tm 0 qX11_in [.int v, .int lo, .int hi] M Q := by
  refine pvGood_of (Nat.le_of_ble_eq_true rfl) ?_
  show pvEv Tm 0 qX11_in 0 [some (.int v), some (.int lo), some (.int hi)] [] M Q
  refine pv_iloadn (pc := 0) (n := 0) 0 rfl rfl (fm_dec dtX11_in 0 rfl) ?_
  refine pv_iloadn (pc := 1) (n := 1) 1 rfl rfl (fm_dec dtX11_in 1 rfl) ?_
  refine pv_icmp_lt (pc := 2) 14 (by decide) (fm_dec dtX11_in 2 rfl) (fun hc2 => ?_) (fun hc2 => ?_)
  · refine pv_iconst (pc := 14) (v := 0) (by decide) (fm_dec dtX11_in 8 rfl) ?_
    exact pv_zreturn (pc := 15) rfl (by first | exact Or.inr rfl | exact Or.inl rfl) (fm_dec dtX11_in 9 rfl) (by first | exact ht (by rw [sc_lt] at hc2; omega) (by rw [sc_lt] at hc7; omega) | exact hf (fun h9 => by rw [sc_lt] at hc2; omega) | exact hf (fun h9 => by rw [sc_lt] at hc7; omega))
  · refine pv_iloadn (pc := 5) (n := 0) 0 rfl rfl (fm_dec dtX11_in 3 rfl) ?_
    refine pv_iloadn (pc := 6) (n := 2) 2 rfl rfl (fm_dec dtX11_in 4 rfl) ?_
    refine pv_icmp_gt (pc := 7) 14 (by decide) (fm_dec dtX11_in 5 rfl) (fun hc7 => ?_) (fun hc7 => ?_)
    · refine pv_iconst (pc := 14) (v := 0) (by decide) (fm_dec dtX11_in 8 rfl) ?_
      exact pv_zreturn (pc := 15) rfl (by first | exact Or.inr rfl | exact Or.inl rfl) (fm_dec dtX11_in 9 rfl) (by first | exact ht (by rw [sc_lt] at hc2; omega) (by rw [sc_lt] at hc7; omega) | exact hf (fun h9 => by rw [sc_lt] at hc2; omega) | exact hf (fun h9 => by rw [sc_lt] at hc7; omega))
    · refine pv_iconst (pc := 10) (v := 1) (by decide) (fm_dec dtX11_in 6 rfl) ?_
      refine pv_goto (pc := 11) 15 (by decide) (fm_dec dtX11_in 7 rfl) ?_
      exact pv_zreturn (pc := 15) rfl (by first | exact Or.inr rfl | exact Or.inl rfl) (fm_dec dtX11_in 9 rfl) (by first | exact ht (by rw [sc_lt] at hc2; omega) (by rw [sc_lt] at hc7; omega) | exact hf (fun h9 => by rw [sc_lt] at hc2; omega) | exact hf (fun h9 => by rw [sc_lt] at hc7; omega))
set_option maxRecDepth 20000 in
theorem nm_loop {Q : fmR → fmM → Prop} {tx : tX} {n : Nat} {lo hi b : Int32} : ∀ (m : Nat) (M : fmM) (q : Nat) (v : Int32) (w : Nat), rS M tx n q → n - q = m → v.toInt = min (w : Int) 100000 → (∀ x v' : Int32, x.toInt = sp tD tx q → v'.toInt = min (nu tx q w : Int) 100000 → pvEv Tm 2 qX11_number 106 [some (.ref 0), some (.int lo), some (.int hi), some (.int b), some (.int v')] [] (fmI M 0 4 x) Q) → pvEv Tm 2 qX11_number 44 [some (.ref 0), some (.int lo), some (.int hi), some (.int b), some (.int v)] [] M Q := by
  intro m
  induction m using Nat.strongRecOn with
  | _ m ih =>
    intro M q v w hS hm hv hq
    refine pv_aloadn (pc := 44) (n := 0) 0 rfl rfl (fm_dec dtX11_number 23 rfl) ?_
    refine pv_aloadn (pc := 45) (n := 0) 0 rfl rfl (fm_dec dtX11_number 24 rfl) ?_
    refine pv_getI (k := 0) (j := 4) (ci := 11) (pc := 46) pfl_X11_110 (by decide) rfl (by decide) (fm_dec dtX11_number 25 rfl) ?_
    refine pv_invV1 (k := 0) (d' := 0) (pc := 49) pcv_X11_113 (by decide) rfl (Nat.le_of_ble_eq_true rfl) (by decide) (fm_dec dtX11_number 26 rfl) ?_
    refine c_byteAt hS q hS.2.1 (fun v49 hv49 => ?_)
    refine pv_then1 ?_
    refine pv_iS1 (d' := 0) (pc := 52) pcs_X11_126 (Nat.le_of_ble_eq_true rfl) (by decide) (fm_dec dtX11_number 27 rfl) ?_
    refine c_isDigit (fun h52 => ?_) (fun h52 => ?_)
    · refine pv_then1 ?_
      refine pv_if_eq (pc := 55) 106 (by decide) (fm_dec dtX11_number 28 rfl) (fun hc55 => by exfalso; revert hc55; decide) (fun _ => ?_)
      refine pv_bipush (pc := 58) (v := 10) (by decide) (fm_dec dtX11_number 29 rfl) ?_
      refine pv_iload (pc := 60) (i := 4) rfl (fm_dec dtX11_number 30 rfl) ?_
      refine pv_imul (pc := 62) (fm_dec dtX11_number 31 rfl) ?_
      refine pv_aloadn (pc := 63) (n := 0) 0 rfl rfl (fm_dec dtX11_number 32 rfl) ?_
      refine pv_aloadn (pc := 64) (n := 0) 0 rfl rfl (fm_dec dtX11_number 33 rfl) ?_
      refine pv_getI (k := 0) (j := 4) (ci := 11) (pc := 65) pfl_X11_110 (by decide) rfl (by decide) (fm_dec dtX11_number 34 rfl) ?_
      refine pv_invV1 (k := 0) (d' := 0) (pc := 68) pcv_X11_113 (by decide) rfl (Nat.le_of_ble_eq_true rfl) (by decide) (fm_dec dtX11_number 35 rfl) ?_
      refine c_byteAt hS q hS.2.1 (fun v68 hv68 => ?_)
      refine pv_then1 ?_
      refine pv_iadd (pc := 71) (fm_dec dtX11_number 36 rfl) ?_
      refine pv_bipush (pc := 72) (v := 48) (by decide) (fm_dec dtX11_number 37 rfl) ?_
      refine pv_isub (pc := 74) (fm_dec dtX11_number 38 rfl) ?_
      refine pv_istore (pc := 75) (i := 4) (by decide) rfl (fm_dec dtX11_number 39 rfl) ?_
      dsimp only [List.set_cons_zero, List.set_cons_succ]
      refine pv_iload (pc := 77) (i := 4) rfl (fm_dec dtX11_number 40 rfl) ?_
      refine pv_ldc (pc := 79) pkc_X11_134 (fm_dec dtX11_number 41 rfl) ?_
      refine pv_icmp_le (pc := 81) 89 (by decide) (fm_dec dtX11_number 42 rfl) (fun hc81 => ?_) (fun hc81 => ?_)
      · refine pv_iload (pc := 89) (i := 4) rfl (fm_dec dtX11_number 45 rfl) ?_
        refine pv_istore (pc := 91) (i := 4) (by decide) rfl (fm_dec dtX11_number 46 rfl) ?_
        dsimp only [List.set_cons_zero, List.set_cons_succ]
        refine pv_aloadn (pc := 93) (n := 0) 0 rfl rfl (fm_dec dtX11_number 47 rfl) ?_
        refine pv_dup (pc := 94) rfl (fm_dec dtX11_number 48 rfl) ?_
        refine pv_getI (k := 0) (j := 4) (ci := 11) (pc := 95) pfl_X11_110 (by decide) rfl (by decide) (fm_dec dtX11_number 49 rfl) ?_
        refine pv_iconst (pc := 98) (v := 1) (by decide) (fm_dec dtX11_number 50 rfl) ?_
        refine pv_iadd (pc := 99) (fm_dec dtX11_number 51 rfl) ?_
        refine pv_putI (k := 0) (j := 4) (ci := 11) (pc := 100) pfl_X11_110 (by decide) rfl (by decide) (fm_dec dtX11_number 52 rfl) ?_
        refine pv_goto (pc := 103) 44 (by decide) (fm_dec dtX11_number 53 rfl) ?_
        rw [hv49] at h52
        have hd := tD_in h52
        have hlt := hS.lt (by omega)
        have e68 := nm_ar hv hv68 hd
        refine ih (n - (q + 1)) (by omega) _ (q + 1) _ (10 * w + (tx q - 48).toNat) (hS.step hlt) rfl (by first | exact nm_le e68 hc81 | exact nm_gt e68 hc81) (fun x v' hx hv' => ?_)
        rw [fmI_fmI]
        exact hq x v' (by rw [sp_t (by have := hS.2.2.2.1.1; omega) h52]; exact hx) (by rw [nu_t (by have := hS.2.2.2.1.1; omega) h52]; exact hv')
      · refine pv_ldc (pc := 84) pkc_X11_134 (fm_dec dtX11_number 43 rfl) ?_
        refine pv_goto (pc := 86) 91 (by decide) (fm_dec dtX11_number 44 rfl) ?_
        refine pv_istore (pc := 91) (i := 4) (by decide) rfl (fm_dec dtX11_number 46 rfl) ?_
        dsimp only [List.set_cons_zero, List.set_cons_succ]
        refine pv_aloadn (pc := 93) (n := 0) 0 rfl rfl (fm_dec dtX11_number 47 rfl) ?_
        refine pv_dup (pc := 94) rfl (fm_dec dtX11_number 48 rfl) ?_
        refine pv_getI (k := 0) (j := 4) (ci := 11) (pc := 95) pfl_X11_110 (by decide) rfl (by decide) (fm_dec dtX11_number 49 rfl) ?_
        refine pv_iconst (pc := 98) (v := 1) (by decide) (fm_dec dtX11_number 50 rfl) ?_
        refine pv_iadd (pc := 99) (fm_dec dtX11_number 51 rfl) ?_
        refine pv_putI (k := 0) (j := 4) (ci := 11) (pc := 100) pfl_X11_110 (by decide) rfl (by decide) (fm_dec dtX11_number 52 rfl) ?_
        refine pv_goto (pc := 103) 44 (by decide) (fm_dec dtX11_number 53 rfl) ?_
        rw [hv49] at h52
        have hd := tD_in h52
        have hlt := hS.lt (by omega)
        have e68 := nm_ar hv hv68 hd
        refine ih (n - (q + 1)) (by omega) _ (q + 1) _ (10 * w + (tx q - 48).toNat) (hS.step hlt) rfl (by first | exact nm_le e68 hc81 | exact nm_gt e68 hc81) (fun x v' hx hv' => ?_)
        rw [fmI_fmI]
        exact hq x v' (by rw [sp_t (by have := hS.2.2.2.1.1; omega) h52]; exact hx) (by rw [nu_t (by have := hS.2.2.2.1.1; omega) h52]; exact hv')
    · refine pv_then1 ?_
      refine pv_if_eq (pc := 55) 106 (by decide) (fm_dec dtX11_number 28 rfl) (fun _ => ?_) (fun hc55 => by exfalso; revert hc55; decide)
      rw [hv49] at h52
      have h9 := hq (M.1 0 4) v (by rw [hS.2.1, sp_f h52]) (by rw [nu_f h52]; exact hv)
      rw [fmI_id] at h9
      exact h9
set_option maxRecDepth 20000 in
theorem nm_t0 {Q : fmR → fmM → Prop} {M : fmM} {lo hi b v : Int32} (hf : M.1 0 5 = 0) (hok : lo.toInt ≤ v.toInt → v.toInt ≤ hi.toInt → Q (.inl (some (.int v))) M) (hbad : ¬ (lo.toInt ≤ v.toInt ∧ v.toInt ≤ hi.toInt) → Q (.inl (some (.int 0))) (fmI (fmI M 0 5 2) 0 6 b)) : pvEv Tm 2 qX11_number 106 [some (.ref 0), some (.int lo), some (.int hi), some (.int b), some (.int v)] [] M Q := by
  refine pv_iload (pc := 106) (i := 4) rfl (fm_dec dtX11_number 54 rfl) ?_
  refine pv_iloadn (pc := 108) (n := 1) 1 rfl rfl (fm_dec dtX11_number 55 rfl) ?_
  refine pv_iloadn (pc := 109) (n := 2) 2 rfl rfl (fm_dec dtX11_number 56 rfl) ?_
  refine pv_iS3 (d' := 0) (pc := 110) pcs_X11_135 (Nat.le_of_ble_eq_true rfl) (by decide) (fm_dec dtX11_number 57 rfl) ?_
  refine c_in (fun h110a h110b => ?_) (fun h110 => ?_)
  · refine pv_then1 ?_
    refine pv_if_ne (pc := 113) 122 (by decide) (fm_dec dtX11_number 58 rfl) (fun _ => ?_) (fun hc113 => by exfalso; revert hc113; decide)
    refine pv_aloadn (pc := 122) (n := 0) 0 rfl rfl (fm_dec dtX11_number 63 rfl) ?_
    refine pv_getI (k := 0) (j := 5) (ci := 11) (pc := 123) pfl_X11_117 (by decide) rfl (by decide) (fm_dec dtX11_number 64 rfl) ?_
    refine pv_if_ne (pc := 126) 134 (by decide) (fm_dec dtX11_number 65 rfl) (fun hc126 => by exfalso; exact hc126 hf) (fun _ => ?_)
    refine pv_iload (pc := 129) (i := 4) rfl (fm_dec dtX11_number 66 rfl) ?_
    refine pv_goto (pc := 131) 135 (by decide) (fm_dec dtX11_number 67 rfl) ?_
    exact pv_ireturn (pc := 135) rfl (fm_dec dtX11_number 69 rfl) (by first | exact hok h110a h110b | exact hbad h110)
  · refine pv_then1 ?_
    refine pv_if_ne (pc := 113) 122 (by decide) (fm_dec dtX11_number 58 rfl) (fun hc113 => by exfalso; revert hc113; decide) (fun _ => ?_)
    refine pv_aloadn (pc := 116) (n := 0) 0 rfl rfl (fm_dec dtX11_number 59 rfl) ?_
    refine pv_iconst (pc := 117) (v := 2) (by decide) (fm_dec dtX11_number 60 rfl) ?_
    refine pv_iloadn (pc := 118) (n := 3) 3 rfl rfl (fm_dec dtX11_number 61 rfl) ?_
    refine pv_invV2 (k := 0) (d' := 0) (pc := 119) pcv_X11_130 (by decide) rfl (Nat.le_of_ble_eq_true rfl) (by decide) (fm_dec dtX11_number 62 rfl) ?_
    refine c_wrongAt (fun _ => ?_) (fun h9 => absurd hf h9) 
    refine pv_then0 ?_
    refine pv_aloadn (pc := 122) (n := 0) 0 rfl rfl (fm_dec dtX11_number 63 rfl) ?_
    refine pv_getI (k := 0) (j := 5) (ci := 11) (pc := 123) pfl_X11_117 (by decide) rfl (by decide) (fm_dec dtX11_number 64 rfl) ?_
    refine pv_if_ne (pc := 126) 134 (by decide) (fm_dec dtX11_number 65 rfl) (fun _ => ?_) (fun hc126 => by exfalso; exact absurd (show (2 : Int32) = 0 from hc126) (by decide))
    refine pv_iconst (pc := 134) (v := 0) (by decide) (fm_dec dtX11_number 68 rfl) ?_
    exact pv_ireturn (pc := 135) rfl (fm_dec dtX11_number 69 rfl) (by first | exact hok h110a h110b | exact hbad h110)
set_option maxRecDepth 20000 in
theorem nm_t1 {Q : fmR → fmM → Prop} {M : fmM} {lo hi b v : Int32} (hf : ¬ M.1 0 5 = 0) (hq : Q (.inl (some (.int 0))) M) : pvEv Tm 2 qX11_number 106 [some (.ref 0), some (.int lo), some (.int hi), some (.int b), some (.int v)] [] M Q := by
  refine pv_iload (pc := 106) (i := 4) rfl (fm_dec dtX11_number 54 rfl) ?_
  refine pv_iloadn (pc := 108) (n := 1) 1 rfl rfl (fm_dec dtX11_number 55 rfl) ?_
  refine pv_iloadn (pc := 109) (n := 2) 2 rfl rfl (fm_dec dtX11_number 56 rfl) ?_
  refine pv_iS3 (d' := 0) (pc := 110) pcs_X11_135 (Nat.le_of_ble_eq_true rfl) (by decide) (fm_dec dtX11_number 57 rfl) ?_
  refine c_in (fun h110a h110b => ?_) (fun h110 => ?_)
  · refine pv_then1 ?_
    refine pv_if_ne (pc := 113) 122 (by decide) (fm_dec dtX11_number 58 rfl) (fun _ => ?_) (fun hc113 => by exfalso; revert hc113; decide)
    refine pv_aloadn (pc := 122) (n := 0) 0 rfl rfl (fm_dec dtX11_number 63 rfl) ?_
    refine pv_getI (k := 0) (j := 5) (ci := 11) (pc := 123) pfl_X11_117 (by decide) rfl (by decide) (fm_dec dtX11_number 64 rfl) ?_
    refine pv_if_ne (pc := 126) 134 (by decide) (fm_dec dtX11_number 65 rfl) (fun _ => ?_) (fun hc126 => by exfalso; exact hf hc126)
    refine pv_iconst (pc := 134) (v := 0) (by decide) (fm_dec dtX11_number 68 rfl) ?_
    exact pv_ireturn (pc := 135) rfl (fm_dec dtX11_number 69 rfl) hq
  · refine pv_then1 ?_
    refine pv_if_ne (pc := 113) 122 (by decide) (fm_dec dtX11_number 58 rfl) (fun hc113 => by exfalso; revert hc113; decide) (fun _ => ?_)
    refine pv_aloadn (pc := 116) (n := 0) 0 rfl rfl (fm_dec dtX11_number 59 rfl) ?_
    refine pv_iconst (pc := 117) (v := 2) (by decide) (fm_dec dtX11_number 60 rfl) ?_
    refine pv_iloadn (pc := 118) (n := 3) 3 rfl rfl (fm_dec dtX11_number 61 rfl) ?_
    refine pv_invV2 (k := 0) (d' := 0) (pc := 119) pcv_X11_130 (by decide) rfl (Nat.le_of_ble_eq_true rfl) (by decide) (fm_dec dtX11_number 62 rfl) ?_
    refine c_wrongAt (fun h9 => absurd h9 hf) (fun _ => ?_) 
    refine pv_then0 ?_
    refine pv_aloadn (pc := 122) (n := 0) 0 rfl rfl (fm_dec dtX11_number 63 rfl) ?_
    refine pv_getI (k := 0) (j := 5) (ci := 11) (pc := 123) pfl_X11_117 (by decide) rfl (by decide) (fm_dec dtX11_number 64 rfl) ?_
    refine pv_if_ne (pc := 126) 134 (by decide) (fm_dec dtX11_number 65 rfl) (fun _ => ?_) (fun hc126 => by exfalso; exact hf hc126)
    refine pv_iconst (pc := 134) (v := 0) (by decide) (fm_dec dtX11_number 68 rfl) ?_
    exact pv_ireturn (pc := 135) rfl (fm_dec dtX11_number 69 rfl) hq
set_option maxRecDepth 20000 in
theorem c_number {M : fmM} {Q : fmR → fmM → Prop} {tx : tX} {n p : Nat} {lo hi : Int32} (hS : rS M tx n p) (hf : M.1 0 5 = 0) (hhi : hi.toInt < 100000) (hok : ∀ (v q : Nat) (x w : Int32), spNum tx lo.toInt hi.toInt p = .inr (v, q) → w.toInt = v → x.toInt = q → Q (.inl (some (.int w))) (fmI M 0 4 x)) (hbad : ∀ (k a q : Nat) (x kk aa : Int32), spNum tx lo.toInt hi.toInt p = .inl (k, a) → kk.toInt = k → aa.toInt = a → x.toInt = q → q ≤ n → Q (.inl (some (.int 0))) (fmI (fmI (fmI M 0 4 x) 0 5 kk) 0 6 aa)) : pvGood Tm 2 qX11_number [.ref 0, .int lo, .int hi] M Q := by
  refine pvGood_of (Nat.le_of_ble_eq_true rfl) ?_
  show pvEv Tm 2 qX11_number 0 [some (.ref 0), some (.int lo), some (.int hi), none, none] [] M Q
  refine pv_aloadn (pc := 0) (n := 0) 0 rfl rfl (fm_dec dtX11_number 0 rfl) ?_
  refine pv_getI (k := 0) (j := 5) (ci := 11) (pc := 1) pfl_X11_117 (by decide) rfl (by decide) (fm_dec dtX11_number 1 rfl) ?_
  refine pv_if_eq (pc := 4) 9 (by decide) (fm_dec dtX11_number 2 rfl) (fun _ => ?_) (fun hc4 => by exfalso; exact hc4 hf)
  refine pv_aloadn (pc := 9) (n := 0) 0 rfl rfl (fm_dec dtX11_number 5 rfl) ?_
  refine pv_invV0 (k := 0) (d' := 1) (pc := 10) pcv_X11_123 (by decide) rfl (Nat.le_of_ble_eq_true rfl) (by decide) (fm_dec dtX11_number 6 rfl) ?_
  refine c_blanks hS (fun x10 hx10 => ?_)
  refine pv_then0 ?_
  refine pv_aloadn (pc := 13) (n := 0) 0 rfl rfl (fm_dec dtX11_number 7 rfl) ?_
  refine pv_getI (k := 0) (j := 4) (ci := 11) (pc := 14) pfl_X11_110 (by decide) rfl (by decide) (fm_dec dtX11_number 8 rfl) ?_
  refine pv_istoren (pc := 17) (n := 3) 3 rfl (by decide) rfl (fm_dec dtX11_number 9 rfl) ?_
  dsimp only [List.set_cons_zero, List.set_cons_succ]
  refine pv_iconst (pc := 18) (v := 0) (by decide) (fm_dec dtX11_number 10 rfl) ?_
  refine pv_istore (pc := 19) (i := 4) (by decide) rfl (fm_dec dtX11_number 11 rfl) ?_
  dsimp only [List.set_cons_zero, List.set_cons_succ]
  refine pv_aloadn (pc := 21) (n := 0) 0 rfl rfl (fm_dec dtX11_number 12 rfl) ?_
  refine pv_aloadn (pc := 22) (n := 0) 0 rfl rfl (fm_dec dtX11_number 13 rfl) ?_
  refine pv_getI (k := 0) (j := 4) (ci := 11) (pc := 23) pfl_X11_110 (by decide) rfl (by decide) (fm_dec dtX11_number 14 rfl) ?_
  refine pv_invV1 (k := 0) (d' := 0) (pc := 26) pcv_X11_113 (by decide) rfl (Nat.le_of_ble_eq_true rfl) (by decide) (fm_dec dtX11_number 15 rfl) ?_
  refine c_byteAt (rS.bl hS hx10) (sk tx p) hx10 (fun v26 hv26 => ?_)
  refine pv_then1 ?_
  refine pv_iS1 (d' := 0) (pc := 29) pcs_X11_126 (Nat.le_of_ble_eq_true rfl) (by decide) (fm_dec dtX11_number 16 rfl) ?_
  refine c_isDigit (fun h29 => ?_) (fun h29 => ?_)
  · refine pv_then1 ?_
    refine pv_if_ne (pc := 32) 44 (by decide) (fm_dec dtX11_number 17 rfl) (fun _ => ?_) (fun hc32 => by exfalso; revert hc32; decide)
    rw [hv26] at h29
    first
      | (refine nm_loop _ _ (sk tx p) _ 0 (rS.bl hS hx10) rfl (by decide) (fun x44 w44 hx44 hw44 => ?_)
         rw [fmI_fmI]
         refine nm_t0 hf (fun h1 h2 => ?_) (fun h3 => ?_)
         · exact hok _ _ x44 w44 (spNum_y h29 (by omega) (by omega)) (by omega) hx44
         · have h9 := hbad 2 (sk tx p) _ x44 2 x10 (spNum_n h29 (by omega)) (by decide) hx10 hx44 (sp_le tD_1 hS.2.2.2.1 (rS.bl hS hx10).2.2.1)
           exact h9)
      | (refine nm_loop _ _ (sk tx p) _ 0 ((rS.bl hS hx10).of rfl rfl rfl) rfl (by decide) (fun x44 w44 hx44 hw44 => ?_)
         refine nm_t1 (fun h9 => absurd (show (1 : Int32) = 0 from h9) (by decide)) ?_
         have h9 := hbad 1 (sk tx p) _ x44 1 x10 (spNum_0 h29) (by decide) hx10 hx44 (sp_le tD_1 hS.2.2.2.1 (rS.bl hS hx10).2.2.1)
         rw [fmI_com3] at h9
         exact h9)
  · refine pv_then1 ?_
    refine pv_if_ne (pc := 32) 44 (by decide) (fm_dec dtX11_number 17 rfl) (fun hc32 => by exfalso; revert hc32; decide) (fun _ => ?_)
    refine pv_aloadn (pc := 35) (n := 0) 0 rfl rfl (fm_dec dtX11_number 18 rfl) ?_
    refine pv_iconst (pc := 36) (v := 1) (by decide) (fm_dec dtX11_number 19 rfl) ?_
    refine pv_aloadn (pc := 37) (n := 0) 0 rfl rfl (fm_dec dtX11_number 20 rfl) ?_
    refine pv_getI (k := 0) (j := 4) (ci := 11) (pc := 38) pfl_X11_110 (by decide) rfl (by decide) (fm_dec dtX11_number 21 rfl) ?_
    refine pv_invV2 (k := 0) (d' := 0) (pc := 41) pcv_X11_130 (by decide) rfl (Nat.le_of_ble_eq_true rfl) (by decide) (fm_dec dtX11_number 22 rfl) ?_
    refine c_wrongAt (fun _ => ?_) (fun h9 => absurd hf h9) 
    refine pv_then0 ?_
    rw [hv26] at h29
    first
      | (refine nm_loop _ _ (sk tx p) _ 0 (rS.bl hS hx10) rfl (by decide) (fun x44 w44 hx44 hw44 => ?_)
         rw [fmI_fmI]
         refine nm_t0 hf (fun h1 h2 => ?_) (fun h3 => ?_)
         · exact hok _ _ x44 w44 (spNum_y h29 (by omega) (by omega)) (by omega) hx44
         · have h9 := hbad 2 (sk tx p) _ x44 2 x10 (spNum_n h29 (by omega)) (by decide) hx10 hx44 (sp_le tD_1 hS.2.2.2.1 (rS.bl hS hx10).2.2.1)
           exact h9)
      | (refine nm_loop _ _ (sk tx p) _ 0 ((rS.bl hS hx10).of rfl rfl rfl) rfl (by decide) (fun x44 w44 hx44 hw44 => ?_)
         refine nm_t1 (fun h9 => absurd (show (1 : Int32) = 0 from h9) (by decide)) ?_
         have h9 := hbad 1 (sk tx p) _ x44 1 x10 (spNum_0 h29) (by decide) hx10 hx44 (sp_le tD_1 hS.2.2.2.1 (rS.bl hS hx10).2.2.1)
         rw [fmI_com3] at h9
         exact h9)
set_option maxRecDepth 20000 in
theorem c_sign {M : fmM} {Q : fmR → fmM → Prop} {tx : tX} {n p : Nat} {c : Int32} (hS : rS M tx n p) (hf : M.1 0 5 = 0) (hok : ∀ (q : Nat) (x : Int32), spSign tx c.toInt p = .inr ((), q) → x.toInt = q → q ≤ n → Q (.inl none) (fmI M 0 4 x)) (hbad : ∀ (k a q : Nat) (x kk aa : Int32), spSign tx c.toInt p = .inl (k, a) → kk.toInt = k → aa.toInt = a → x.toInt = q → q ≤ n → Q (.inl none) (fmI (fmI (fmI M 0 4 x) 0 5 kk) 0 6 aa)) (hc : 0 ≤ c.toInt) : pvGood Tm 2 qX11_sign [.ref 0, .int c] M Q := by
  refine pvGood_of (Nat.le_of_ble_eq_true rfl) ?_
  show pvEv Tm 2 qX11_sign 0 [some (.ref 0), some (.int c)] [] M Q
  refine pv_aloadn (pc := 0) (n := 0) 0 rfl rfl (fm_dec dtX11_sign 0 rfl) ?_
  refine pv_getI (k := 0) (j := 5) (ci := 11) (pc := 1) pfl_X11_117 (by decide) rfl (by decide) (fm_dec dtX11_sign 1 rfl) ?_
  refine pv_if_eq (pc := 4) 8 (by decide) (fm_dec dtX11_sign 2 rfl) (fun _ => ?_) (fun hc4 => by exfalso; exact hc4 hf)
  refine pv_aloadn (pc := 8) (n := 0) 0 rfl rfl (fm_dec dtX11_sign 4 rfl) ?_
  refine pv_invV0 (k := 0) (d' := 1) (pc := 9) pcv_X11_123 (by decide) rfl (Nat.le_of_ble_eq_true rfl) (by decide) (fm_dec dtX11_sign 5 rfl) ?_
  refine c_blanks hS (fun x9 hx9 => ?_)
  refine pv_then0 ?_
  refine pv_aloadn (pc := 12) (n := 0) 0 rfl rfl (fm_dec dtX11_sign 6 rfl) ?_
  refine pv_aloadn (pc := 13) (n := 0) 0 rfl rfl (fm_dec dtX11_sign 7 rfl) ?_
  refine pv_getI (k := 0) (j := 4) (ci := 11) (pc := 14) pfl_X11_110 (by decide) rfl (by decide) (fm_dec dtX11_sign 8 rfl) ?_
  refine pv_invV1 (k := 0) (d' := 0) (pc := 17) pcv_X11_113 (by decide) rfl (Nat.le_of_ble_eq_true rfl) (by decide) (fm_dec dtX11_sign 9 rfl) ?_
  refine c_byteAt (rS.bl hS hx9) (sk tx p) hx9 (fun v17 hv17 => ?_)
  refine pv_then1 ?_
  refine pv_iloadn (pc := 20) (n := 1) 1 rfl rfl (fm_dec dtX11_sign 10 rfl) ?_
  refine pv_icmp_ne (pc := 21) 37 (by decide) (fm_dec dtX11_sign 11 rfl) (fun hc21 => ?_) (fun hc21 => ?_)
  · refine pv_aloadn (pc := 37) (n := 0) 0 rfl rfl (fm_dec dtX11_sign 19 rfl) ?_
    refine pv_iconst (pc := 38) (v := 1) (by decide) (fm_dec dtX11_sign 20 rfl) ?_
    refine pv_aloadn (pc := 39) (n := 0) 0 rfl rfl (fm_dec dtX11_sign 21 rfl) ?_
    refine pv_getI (k := 0) (j := 4) (ci := 11) (pc := 40) pfl_X11_110 (by decide) rfl (by decide) (fm_dec dtX11_sign 22 rfl) ?_
    refine pv_invV2 (k := 0) (d' := 0) (pc := 43) pcv_X11_130 (by decide) rfl (Nat.le_of_ble_eq_true rfl) (by decide) (fm_dec dtX11_sign 23 rfl) ?_
    refine c_wrongAt (fun _ => ?_) (fun h9 => absurd hf h9) 
    refine pv_then0 ?_
    exact pv_return (pc := 46) rfl (fm_dec dtX11_sign 24 rfl) (by first | (have e9 := spSign_y (p := p) hv17 hc21; have h9 := hok _ (x9 + 1) e9 (i32_p1 hx9 (by have := (rS.bl hS hx9).2.2.1; have := hS.2.2.2.1.1; omega)) (spSign_ok hS.2.2.2.1 hS.2.2.1 hc e9).2; rw [← fmI_fmI M 0 4 x9 (x9 + 1)] at h9; exact h9) | exact hbad 1 (sk tx p) _ x9 1 x9 (spSign_n hv17 hc21) (by decide) hx9 hx9 (rS.bl hS hx9).2.2.1)
  · refine pv_aloadn (pc := 24) (n := 0) 0 rfl rfl (fm_dec dtX11_sign 12 rfl) ?_
    refine pv_dup (pc := 25) rfl (fm_dec dtX11_sign 13 rfl) ?_
    refine pv_getI (k := 0) (j := 4) (ci := 11) (pc := 26) pfl_X11_110 (by decide) rfl (by decide) (fm_dec dtX11_sign 14 rfl) ?_
    refine pv_iconst (pc := 29) (v := 1) (by decide) (fm_dec dtX11_sign 15 rfl) ?_
    refine pv_iadd (pc := 30) (fm_dec dtX11_sign 16 rfl) ?_
    refine pv_putI (k := 0) (j := 4) (ci := 11) (pc := 31) pfl_X11_110 (by decide) rfl (by decide) (fm_dec dtX11_sign 17 rfl) ?_
    refine pv_goto (pc := 34) 46 (by decide) (fm_dec dtX11_sign 18 rfl) ?_
    exact pv_return (pc := 46) rfl (fm_dec dtX11_sign 24 rfl) (by first | (have e9 := spSign_y (p := p) hv17 hc21; have h9 := hok _ (x9 + 1) e9 (i32_p1 hx9 (by have := (rS.bl hS hx9).2.2.1; have := hS.2.2.2.1.1; omega)) (spSign_ok hS.2.2.2.1 hS.2.2.1 hc e9).2; rw [← fmI_fmI M 0 4 x9 (x9 + 1)] at h9; exact h9) | exact hbad 1 (sk tx p) _ x9 1 x9 (spSign_n hv17 hc21) (by decide) hx9 hx9 (rS.bl hS hx9).2.2.1)
set_option maxRecDepth 20000 in
theorem c_sign1 {M : fmM} {Q : fmR → fmM → Prop} {c : Int32} (hf : ¬ M.1 0 5 = 0) (hq : Q (.inl none) M) : pvGood Tm 2 qX11_sign [.ref 0, .int c] M Q := by
  refine pvGood_of (Nat.le_of_ble_eq_true rfl) ?_
  show pvEv Tm 2 qX11_sign 0 [some (.ref 0), some (.int c)] [] M Q
  refine pv_aloadn (pc := 0) (n := 0) 0 rfl rfl (fm_dec dtX11_sign 0 rfl) ?_
  refine pv_getI (k := 0) (j := 5) (ci := 11) (pc := 1) pfl_X11_117 (by decide) rfl (by decide) (fm_dec dtX11_sign 1 rfl) ?_
  refine pv_if_eq (pc := 4) 8 (by decide) (fm_dec dtX11_sign 2 rfl) (fun hc4 => by exfalso; exact hf hc4) (fun _ => ?_)
  exact pv_return (pc := 7) rfl (fm_dec dtX11_sign 3 rfl) hq
set_option maxRecDepth 20000 in
theorem c_takesSign {M : fmM} {Q : fmR → fmM → Prop} {tx : tX} {n p : Nat} {c : Int32} (hS : rS M tx n p) (hf : M.1 0 5 = 0) (hc : 0 ≤ c.toInt) (hy : ∀ x : Int32, tx (sk tx p) = c.toInt → x.toInt = (sk tx p + 1 : Nat) → sk tx p + 1 ≤ n → Q (.inl (some (.int 1))) (fmI M 0 4 x)) (hn : ∀ x : Int32, ¬ tx (sk tx p) = c.toInt → x.toInt = sk tx p → Q (.inl (some (.int 0))) (fmI M 0 4 x)) : pvGood Tm 2 qX11_takesSign [.ref 0, .int c] M Q := by
  refine pvGood_of (Nat.le_of_ble_eq_true rfl) ?_
  show pvEv Tm 2 qX11_takesSign 0 [some (.ref 0), some (.int c), none] [] M Q
  refine pv_aloadn (pc := 0) (n := 0) 0 rfl rfl (fm_dec dtX11_takesSign 0 rfl) ?_
  refine pv_getI (k := 0) (j := 5) (ci := 11) (pc := 1) pfl_X11_117 (by decide) rfl (by decide) (fm_dec dtX11_takesSign 1 rfl) ?_
  refine pv_if_eq (pc := 4) 9 (by decide) (fm_dec dtX11_takesSign 2 rfl) (fun _ => ?_) (fun hc4 => by exfalso; exact hc4 hf)
  refine pv_aloadn (pc := 9) (n := 0) 0 rfl rfl (fm_dec dtX11_takesSign 5 rfl) ?_
  refine pv_invV0 (k := 0) (d' := 1) (pc := 10) pcv_X11_123 (by decide) rfl (Nat.le_of_ble_eq_true rfl) (by decide) (fm_dec dtX11_takesSign 6 rfl) ?_
  refine c_blanks hS (fun x10 hx10 => ?_)
  refine pv_then0 ?_
  refine pv_aloadn (pc := 13) (n := 0) 0 rfl rfl (fm_dec dtX11_takesSign 7 rfl) ?_
  refine pv_aloadn (pc := 14) (n := 0) 0 rfl rfl (fm_dec dtX11_takesSign 8 rfl) ?_
  refine pv_getI (k := 0) (j := 4) (ci := 11) (pc := 15) pfl_X11_110 (by decide) rfl (by decide) (fm_dec dtX11_takesSign 9 rfl) ?_
  refine pv_invV1 (k := 0) (d' := 0) (pc := 18) pcv_X11_113 (by decide) rfl (Nat.le_of_ble_eq_true rfl) (by decide) (fm_dec dtX11_takesSign 10 rfl) ?_
  refine c_byteAt (rS.bl hS hx10) (sk tx p) hx10 (fun v18 hv18 => ?_)
  refine pv_then1 ?_
  refine pv_iloadn (pc := 21) (n := 1) 1 rfl rfl (fm_dec dtX11_takesSign 11 rfl) ?_
  refine pv_icmp_ne (pc := 22) 29 (by decide) (fm_dec dtX11_takesSign 12 rfl) (fun hc22 => ?_) (fun hc22 => ?_)
  · refine pv_iconst (pc := 29) (v := 0) (by decide) (fm_dec dtX11_takesSign 15 rfl) ?_
    refine pv_istoren (pc := 30) (n := 2) 2 rfl (by decide) rfl (fm_dec dtX11_takesSign 16 rfl) ?_
    dsimp only [List.set_cons_zero, List.set_cons_succ]
    refine pv_iloadn (pc := 31) (n := 2) 2 rfl rfl (fm_dec dtX11_takesSign 17 rfl) ?_
    refine pv_if_eq (pc := 32) 45 (by decide) (fm_dec dtX11_takesSign 18 rfl) (fun _ => ?_) (fun hc32 => by exfalso; revert hc32; decide)
    refine pv_iloadn (pc := 45) (n := 2) 2 rfl rfl (fm_dec dtX11_takesSign 25 rfl) ?_
    exact pv_zreturn (pc := 46) rfl (by first | exact Or.inr rfl | exact Or.inl rfl) (fm_dec dtX11_takesSign 26 rfl) (by first | exact hn x10 (fun h9 => hc22 (i32_ext (by rw [hv18, h9]))) hx10 | (have e9 : tx (sk tx p) = c.toInt := (by rw [← hv18, hc22]); have l9 := (rS.bl hS hx10).lt (by omega); have h9 := hy (x10 + 1) e9 (i32_p1 hx10 (by have := hS.2.2.2.1.1; omega)) l9; rw [← fmI_fmI M 0 4 x10 (x10 + 1)] at h9; exact h9))
  · refine pv_iconst (pc := 25) (v := 1) (by decide) (fm_dec dtX11_takesSign 13 rfl) ?_
    refine pv_goto (pc := 26) 30 (by decide) (fm_dec dtX11_takesSign 14 rfl) ?_
    refine pv_istoren (pc := 30) (n := 2) 2 rfl (by decide) rfl (fm_dec dtX11_takesSign 16 rfl) ?_
    dsimp only [List.set_cons_zero, List.set_cons_succ]
    refine pv_iloadn (pc := 31) (n := 2) 2 rfl rfl (fm_dec dtX11_takesSign 17 rfl) ?_
    refine pv_if_eq (pc := 32) 45 (by decide) (fm_dec dtX11_takesSign 18 rfl) (fun hc32 => by exfalso; revert hc32; decide) (fun _ => ?_)
    refine pv_aloadn (pc := 35) (n := 0) 0 rfl rfl (fm_dec dtX11_takesSign 19 rfl) ?_
    refine pv_dup (pc := 36) rfl (fm_dec dtX11_takesSign 20 rfl) ?_
    refine pv_getI (k := 0) (j := 4) (ci := 11) (pc := 37) pfl_X11_110 (by decide) rfl (by decide) (fm_dec dtX11_takesSign 21 rfl) ?_
    refine pv_iconst (pc := 40) (v := 1) (by decide) (fm_dec dtX11_takesSign 22 rfl) ?_
    refine pv_iadd (pc := 41) (fm_dec dtX11_takesSign 23 rfl) ?_
    refine pv_putI (k := 0) (j := 4) (ci := 11) (pc := 42) pfl_X11_110 (by decide) rfl (by decide) (fm_dec dtX11_takesSign 24 rfl) ?_
    refine pv_iloadn (pc := 45) (n := 2) 2 rfl rfl (fm_dec dtX11_takesSign 25 rfl) ?_
    exact pv_zreturn (pc := 46) rfl (by first | exact Or.inr rfl | exact Or.inl rfl) (fm_dec dtX11_takesSign 26 rfl) (by first | exact hn x10 (fun h9 => hc22 (i32_ext (by rw [hv18, h9]))) hx10 | (have e9 : tx (sk tx p) = c.toInt := (by rw [← hv18, hc22]); have l9 := (rS.bl hS hx10).lt (by omega); have h9 := hy (x10 + 1) e9 (i32_p1 hx10 (by have := hS.2.2.2.1.1; omega)) l9; rw [← fmI_fmI M 0 4 x10 (x10 + 1)] at h9; exact h9))
set_option maxRecDepth 20000 in
theorem c_takesSign1 {M : fmM} {Q : fmR → fmM → Prop} {c : Int32} (hf : ¬ M.1 0 5 = 0) (hq : Q (.inl (some (.int 0))) M) : pvGood Tm 2 qX11_takesSign [.ref 0, .int c] M Q := by
  refine pvGood_of (Nat.le_of_ble_eq_true rfl) ?_
  show pvEv Tm 2 qX11_takesSign 0 [some (.ref 0), some (.int c), none] [] M Q
  refine pv_aloadn (pc := 0) (n := 0) 0 rfl rfl (fm_dec dtX11_takesSign 0 rfl) ?_
  refine pv_getI (k := 0) (j := 5) (ci := 11) (pc := 1) pfl_X11_117 (by decide) rfl (by decide) (fm_dec dtX11_takesSign 1 rfl) ?_
  refine pv_if_eq (pc := 4) 9 (by decide) (fm_dec dtX11_takesSign 2 rfl) (fun hc4 => by exfalso; exact hf hc4) (fun _ => ?_)
  refine pv_iconst (pc := 7) (v := 0) (by decide) (fm_dec dtX11_takesSign 3 rfl) ?_
  exact pv_zreturn (pc := 8) rfl (by first | exact Or.inr rfl | exact Or.inl rfl) (fm_dec dtX11_takesSign 4 rfl) hq
set_option maxRecDepth 20000 in
theorem wh_loop {Q : fmR → fmM → Prop} {tx : tX} {n a : Nat} {M : fmM} (hS : rS M tx n a) : ∀ (m : Nat) (pre : List Int) (v k : Int32), k.toInt = pre.length → a + pre.length ≤ n → n - (a + pre.length) = m → (∀ c ∈ pre, tW c = true) → v.toInt = w27 0 (pre.take 5) → (∀ r : Int32, r.toInt = (if (pre ++ wd tx (a + pre.length)).length ≤ 5 then w27 0 (pre ++ wd tx (a + pre.length)) else -1) → Q (.inl (some (.int r))) M) → pvEv Tm 2 qX11_wordHere 8 [some (.ref 0), some (.int v), some (.int k)] [] M Q := by
  intro m
  induction m using Nat.strongRecOn with
  | _ m ih =>
    intro pre v k hk hle hm hpre hv hq
    refine pv_aloadn (pc := 8) (n := 0) 0 rfl rfl (fm_dec dtX11_wordHere 6 rfl) ?_
    refine pv_aloadn (pc := 9) (n := 0) 0 rfl rfl (fm_dec dtX11_wordHere 7 rfl) ?_
    refine pv_getI (k := 0) (j := 4) (ci := 11) (pc := 10) pfl_X11_110 (by decide) rfl (by decide) (fm_dec dtX11_wordHere 8 rfl) ?_
    refine pv_iloadn (pc := 13) (n := 2) 2 rfl rfl (fm_dec dtX11_wordHere 9 rfl) ?_
    refine pv_iadd (pc := 14) (fm_dec dtX11_wordHere 10 rfl) ?_
    refine pv_invV1 (k := 0) (d' := 0) (pc := 15) pcv_X11_113 (by decide) rfl (Nat.le_of_ble_eq_true rfl) (by decide) (fm_dec dtX11_wordHere 11 rfl) ?_
    refine c_byteAt hS (a + pre.length) (wh_k hS hk hle) (fun v15 hv15 => ?_)
    refine pv_then1 ?_
    refine pv_iS1 (d' := 0) (pc := 18) pcs_X11_139 (Nat.le_of_ble_eq_true rfl) (by decide) (fm_dec dtX11_wordHere 12 rfl) ?_
    refine c_isSmall (fun h18 => ?_) (fun h18 => ?_)
    · refine pv_then1 ?_
      refine pv_if_eq (pc := 21) 60 (by decide) (fm_dec dtX11_wordHere 13 rfl) (fun hc21 => by exfalso; revert hc21; decide) (fun _ => ?_)
      refine pv_iloadn (pc := 24) (n := 2) 2 rfl rfl (fm_dec dtX11_wordHere 14 rfl) ?_
      refine pv_iconst (pc := 25) (v := 5) (by decide) (fm_dec dtX11_wordHere 15 rfl) ?_
      refine pv_icmp_ge (pc := 26) 52 (by decide) (fm_dec dtX11_wordHere 16 rfl) (fun hc26 => ?_) (fun hc26 => ?_)
      · refine pv_iloadn (pc := 52) (n := 1) 1 rfl rfl (fm_dec dtX11_wordHere 32 rfl) ?_
        refine pv_istoren (pc := 53) (n := 1) 1 rfl (by decide) rfl (fm_dec dtX11_wordHere 33 rfl) ?_
        dsimp only [List.set_cons_zero, List.set_cons_succ]
        refine pv_iincc (pc := 54) 2 1 (by decide) rfl (by decide) rfl (fm_dec dtX11_wordHere 34 rfl) ?_
        dsimp only [List.set_cons_zero, List.set_cons_succ]
        refine pv_goto (pc := 57) 8 (by decide) (fm_dec dtX11_wordHere 35 rfl) ?_
        rw [hv15] at h18
        have hlt := hS.lt2 hle (by have := tW_in h18; omega)
        rw [wd_t (by have := hS.2.2.2.1.1; omega) h18, wh_cons] at hq
        refine ih (n - (a + pre.length + 1)) (by omega) (pre ++ [tx (a + pre.length)]) _ _ (wh_k1 hk hle hS) (by simp; omega) (by simp; omega) (by intro c hc; rcases List.mem_append.mp hc with h9 | h9; exact hpre c h9; rw [List.mem_singleton.mp h9]; exact h18) (by first | exact wh_lt hk hc26 hv hv40 h18 hpre | exact wh_ge hk hc26 hv) (fun r hr => hq r ?_)
        rw [hr]
        simp only [List.length_append, List.length_cons, List.length_nil, Nat.zero_add, Nat.add_assoc]
      · refine pv_bipush (pc := 29) (v := 27) (by decide) (fm_dec dtX11_wordHere 17 rfl) ?_
        refine pv_iloadn (pc := 31) (n := 1) 1 rfl rfl (fm_dec dtX11_wordHere 18 rfl) ?_
        refine pv_imul (pc := 32) (fm_dec dtX11_wordHere 19 rfl) ?_
        refine pv_aloadn (pc := 33) (n := 0) 0 rfl rfl (fm_dec dtX11_wordHere 20 rfl) ?_
        refine pv_aloadn (pc := 34) (n := 0) 0 rfl rfl (fm_dec dtX11_wordHere 21 rfl) ?_
        refine pv_getI (k := 0) (j := 4) (ci := 11) (pc := 35) pfl_X11_110 (by decide) rfl (by decide) (fm_dec dtX11_wordHere 22 rfl) ?_
        refine pv_iloadn (pc := 38) (n := 2) 2 rfl rfl (fm_dec dtX11_wordHere 23 rfl) ?_
        refine pv_iadd (pc := 39) (fm_dec dtX11_wordHere 24 rfl) ?_
        refine pv_invV1 (k := 0) (d' := 0) (pc := 40) pcv_X11_113 (by decide) rfl (Nat.le_of_ble_eq_true rfl) (by decide) (fm_dec dtX11_wordHere 25 rfl) ?_
        refine c_byteAt hS (a + pre.length) (wh_k hS hk hle) (fun v40 hv40 => ?_)
        refine pv_then1 ?_
        refine pv_iadd (pc := 43) (fm_dec dtX11_wordHere 26 rfl) ?_
        refine pv_bipush (pc := 44) (v := 97) (by decide) (fm_dec dtX11_wordHere 27 rfl) ?_
        refine pv_isub (pc := 46) (fm_dec dtX11_wordHere 28 rfl) ?_
        refine pv_iconst (pc := 47) (v := 1) (by decide) (fm_dec dtX11_wordHere 29 rfl) ?_
        refine pv_iadd (pc := 48) (fm_dec dtX11_wordHere 30 rfl) ?_
        refine pv_goto (pc := 49) 53 (by decide) (fm_dec dtX11_wordHere 31 rfl) ?_
        refine pv_istoren (pc := 53) (n := 1) 1 rfl (by decide) rfl (fm_dec dtX11_wordHere 33 rfl) ?_
        dsimp only [List.set_cons_zero, List.set_cons_succ]
        refine pv_iincc (pc := 54) 2 1 (by decide) rfl (by decide) rfl (fm_dec dtX11_wordHere 34 rfl) ?_
        dsimp only [List.set_cons_zero, List.set_cons_succ]
        refine pv_goto (pc := 57) 8 (by decide) (fm_dec dtX11_wordHere 35 rfl) ?_
        rw [hv15] at h18
        have hlt := hS.lt2 hle (by have := tW_in h18; omega)
        rw [wd_t (by have := hS.2.2.2.1.1; omega) h18, wh_cons] at hq
        refine ih (n - (a + pre.length + 1)) (by omega) (pre ++ [tx (a + pre.length)]) _ _ (wh_k1 hk hle hS) (by simp; omega) (by simp; omega) (by intro c hc; rcases List.mem_append.mp hc with h9 | h9; exact hpre c h9; rw [List.mem_singleton.mp h9]; exact h18) (by first | exact wh_lt hk hc26 hv hv40 h18 hpre | exact wh_ge hk hc26 hv) (fun r hr => hq r ?_)
        rw [hr]
        simp only [List.length_append, List.length_cons, List.length_nil, Nat.zero_add, Nat.add_assoc]
    · refine pv_then1 ?_
      refine pv_if_eq (pc := 21) 60 (by decide) (fm_dec dtX11_wordHere 13 rfl) (fun _ => ?_) (fun hc21 => by exfalso; revert hc21; decide)
      rw [hv15] at h18
      rw [wd_f h18, List.append_nil] at hq
      refine pv_iloadn (pc := 60) (n := 2) 2 rfl rfl (fm_dec dtX11_wordHere 36 rfl) ?_
      refine pv_iconst (pc := 61) (v := 5) (by decide) (fm_dec dtX11_wordHere 37 rfl) ?_
      refine pv_icmp_le (pc := 62) 69 (by decide) (fm_dec dtX11_wordHere 38 rfl) (fun hc62 => ?_) (fun hc62 => ?_)
      · refine pv_iloadn (pc := 69) (n := 1) 1 rfl rfl (fm_dec dtX11_wordHere 41 rfl) ?_
        exact pv_ireturn (pc := 70) rfl (fm_dec dtX11_wordHere 42 rfl) (hq _ (by first | exact wh_5 hk hc62 hv | exact wh_6 hk hc62))
      · refine pv_iconst (pc := 65) (v := (-1)) (by decide) (fm_dec dtX11_wordHere 39 rfl) ?_
        refine pv_goto (pc := 66) 70 (by decide) (fm_dec dtX11_wordHere 40 rfl) ?_
        exact pv_ireturn (pc := 70) rfl (fm_dec dtX11_wordHere 42 rfl) (hq _ (by first | exact wh_5 hk hc62 hv | exact wh_6 hk hc62))
set_option maxRecDepth 20000 in
theorem c_wordHere {M : fmM} {Q : fmR → fmM → Prop} {tx : tX} {n p : Nat} (hS : rS M tx n p) (hq : ∀ x r : Int32, x.toInt = sk tx p → r.toInt = (if (wd tx (sk tx p)).length ≤ 5 then w27 0 (wd tx (sk tx p)) else -1) → Q (.inl (some (.int r))) (fmI M 0 4 x)) : pvGood Tm 2 qX11_wordHere [.ref 0] M Q := by
  refine pvGood_of (Nat.le_of_ble_eq_true rfl) ?_
  show pvEv Tm 2 qX11_wordHere 0 [some (.ref 0), none, none] [] M Q
  refine pv_aloadn (pc := 0) (n := 0) 0 rfl rfl (fm_dec dtX11_wordHere 0 rfl) ?_
  refine pv_invV0 (k := 0) (d' := 1) (pc := 1) pcv_X11_123 (by decide) rfl (Nat.le_of_ble_eq_true rfl) (by decide) (fm_dec dtX11_wordHere 1 rfl) ?_
  refine c_blanks hS (fun x1 hx1 => ?_)
  refine pv_then0 ?_
  refine pv_iconst (pc := 4) (v := 0) (by decide) (fm_dec dtX11_wordHere 2 rfl) ?_
  refine pv_istoren (pc := 5) (n := 1) 1 rfl (by decide) rfl (fm_dec dtX11_wordHere 3 rfl) ?_
  dsimp only [List.set_cons_zero, List.set_cons_succ]
  refine pv_iconst (pc := 6) (v := 0) (by decide) (fm_dec dtX11_wordHere 4 rfl) ?_
  refine pv_istoren (pc := 7) (n := 2) 2 rfl (by decide) rfl (fm_dec dtX11_wordHere 5 rfl) ?_
  dsimp only [List.set_cons_zero, List.set_cons_succ]
  exact wh_loop (rS.bl hS hx1) _ [] 0 0 (by decide) (rS.bl hS hx1).2.2.1 rfl (fun c hc => by cases hc) (by decide) (fun r hr => hq x1 r hx1 hr)
set_option maxRecDepth 20000 in
theorem c_five {M : fmM} {Q : fmR → fmM → Prop} {a b c d e : Int32} (hq : Q (.inl (some (.int (fvE a b c d e)))) M) : pvGood Tm 0 qX11_five [.int a, .int b, .int c, .int d, .int e] M Q := by
  refine pvGood_of (Nat.le_of_ble_eq_true rfl) ?_
  show pvEv Tm 0 qX11_five 0 [some (.int a), some (.int b), some (.int c), some (.int d), some (.int e), none] [] M Q
  refine pv_bipush (pc := 0) (v := 27) (by decide) (fm_dec dtX11_five 0 rfl) ?_
  refine pv_iloadn (pc := 2) (n := 0) 0 rfl rfl (fm_dec dtX11_five 1 rfl) ?_
  refine pv_imul (pc := 3) (fm_dec dtX11_five 2 rfl) ?_
  refine pv_iloadn (pc := 4) (n := 1) 1 rfl rfl (fm_dec dtX11_five 3 rfl) ?_
  refine pv_iadd (pc := 5) (fm_dec dtX11_five 4 rfl) ?_
  refine pv_istore (pc := 6) (i := 5) (by decide) rfl (fm_dec dtX11_five 5 rfl) ?_
  dsimp only [List.set_cons_zero, List.set_cons_succ]
  refine pv_iloadn (pc := 8) (n := 2) 2 rfl rfl (fm_dec dtX11_five 6 rfl) ?_
  refine pv_if_ne (pc := 9) 17 (by decide) (fm_dec dtX11_five 7 rfl) (fun hc9 => ?_) (fun hc9 => ?_)
  · refine pv_bipush (pc := 17) (v := 27) (by decide) (fm_dec dtX11_five 10 rfl) ?_
    refine pv_iload (pc := 19) (i := 5) rfl (fm_dec dtX11_five 11 rfl) ?_
    refine pv_imul (pc := 21) (fm_dec dtX11_five 12 rfl) ?_
    refine pv_iloadn (pc := 22) (n := 2) 2 rfl rfl (fm_dec dtX11_five 13 rfl) ?_
    refine pv_iadd (pc := 23) (fm_dec dtX11_five 14 rfl) ?_
    refine pv_istore (pc := 24) (i := 5) (by decide) rfl (fm_dec dtX11_five 15 rfl) ?_
    dsimp only [List.set_cons_zero, List.set_cons_succ]
    refine pv_iloadn (pc := 26) (n := 3) 3 rfl rfl (fm_dec dtX11_five 16 rfl) ?_
    refine pv_if_ne (pc := 27) 35 (by decide) (fm_dec dtX11_five 17 rfl) (fun hc27 => ?_) (fun hc27 => ?_)
    · refine pv_bipush (pc := 35) (v := 27) (by decide) (fm_dec dtX11_five 20 rfl) ?_
      refine pv_iload (pc := 37) (i := 5) rfl (fm_dec dtX11_five 21 rfl) ?_
      refine pv_imul (pc := 39) (fm_dec dtX11_five 22 rfl) ?_
      refine pv_iloadn (pc := 40) (n := 3) 3 rfl rfl (fm_dec dtX11_five 23 rfl) ?_
      refine pv_iadd (pc := 41) (fm_dec dtX11_five 24 rfl) ?_
      refine pv_istore (pc := 42) (i := 5) (by decide) rfl (fm_dec dtX11_five 25 rfl) ?_
      dsimp only [List.set_cons_zero, List.set_cons_succ]
      refine pv_iload (pc := 44) (i := 4) rfl (fm_dec dtX11_five 26 rfl) ?_
      refine pv_if_ne (pc := 46) 54 (by decide) (fm_dec dtX11_five 27 rfl) (fun hc46 => ?_) (fun hc46 => ?_)
      · refine pv_bipush (pc := 54) (v := 27) (by decide) (fm_dec dtX11_five 30 rfl) ?_
        refine pv_iload (pc := 56) (i := 5) rfl (fm_dec dtX11_five 31 rfl) ?_
        refine pv_imul (pc := 58) (fm_dec dtX11_five 32 rfl) ?_
        refine pv_iload (pc := 59) (i := 4) rfl (fm_dec dtX11_five 33 rfl) ?_
        refine pv_iadd (pc := 61) (fm_dec dtX11_five 34 rfl) ?_
        exact pv_ireturn (pc := 62) rfl (fm_dec dtX11_five 35 rfl) (by first | (have h9 := hq; unfold fvE at h9; simp only [hc9, hc27, hc46, if_true, if_false] at h9; exact h9))
      · refine pv_iload (pc := 49) (i := 5) rfl (fm_dec dtX11_five 28 rfl) ?_
        refine pv_goto (pc := 51) 62 (by decide) (fm_dec dtX11_five 29 rfl) ?_
        exact pv_ireturn (pc := 62) rfl (fm_dec dtX11_five 35 rfl) (by first | (have h9 := hq; unfold fvE at h9; simp only [hc9, hc27, hc46, if_true, if_false] at h9; exact h9))
    · refine pv_iload (pc := 30) (i := 5) rfl (fm_dec dtX11_five 18 rfl) ?_
      refine pv_goto (pc := 32) 42 (by decide) (fm_dec dtX11_five 19 rfl) ?_
      refine pv_istore (pc := 42) (i := 5) (by decide) rfl (fm_dec dtX11_five 25 rfl) ?_
      dsimp only [List.set_cons_zero, List.set_cons_succ]
      refine pv_iload (pc := 44) (i := 4) rfl (fm_dec dtX11_five 26 rfl) ?_
      refine pv_if_ne (pc := 46) 54 (by decide) (fm_dec dtX11_five 27 rfl) (fun hc46 => ?_) (fun hc46 => ?_)
      · refine pv_bipush (pc := 54) (v := 27) (by decide) (fm_dec dtX11_five 30 rfl) ?_
        refine pv_iload (pc := 56) (i := 5) rfl (fm_dec dtX11_five 31 rfl) ?_
        refine pv_imul (pc := 58) (fm_dec dtX11_five 32 rfl) ?_
        refine pv_iload (pc := 59) (i := 4) rfl (fm_dec dtX11_five 33 rfl) ?_
        refine pv_iadd (pc := 61) (fm_dec dtX11_five 34 rfl) ?_
        exact pv_ireturn (pc := 62) rfl (fm_dec dtX11_five 35 rfl) (by first | (have h9 := hq; unfold fvE at h9; simp only [hc9, hc27, hc46, if_true, if_false] at h9; exact h9))
      · refine pv_iload (pc := 49) (i := 5) rfl (fm_dec dtX11_five 28 rfl) ?_
        refine pv_goto (pc := 51) 62 (by decide) (fm_dec dtX11_five 29 rfl) ?_
        exact pv_ireturn (pc := 62) rfl (fm_dec dtX11_five 35 rfl) (by first | (have h9 := hq; unfold fvE at h9; simp only [hc9, hc27, hc46, if_true, if_false] at h9; exact h9))
  · refine pv_iload (pc := 12) (i := 5) rfl (fm_dec dtX11_five 8 rfl) ?_
    refine pv_goto (pc := 14) 24 (by decide) (fm_dec dtX11_five 9 rfl) ?_
    refine pv_istore (pc := 24) (i := 5) (by decide) rfl (fm_dec dtX11_five 15 rfl) ?_
    dsimp only [List.set_cons_zero, List.set_cons_succ]
    refine pv_iloadn (pc := 26) (n := 3) 3 rfl rfl (fm_dec dtX11_five 16 rfl) ?_
    refine pv_if_ne (pc := 27) 35 (by decide) (fm_dec dtX11_five 17 rfl) (fun hc27 => ?_) (fun hc27 => ?_)
    · refine pv_bipush (pc := 35) (v := 27) (by decide) (fm_dec dtX11_five 20 rfl) ?_
      refine pv_iload (pc := 37) (i := 5) rfl (fm_dec dtX11_five 21 rfl) ?_
      refine pv_imul (pc := 39) (fm_dec dtX11_five 22 rfl) ?_
      refine pv_iloadn (pc := 40) (n := 3) 3 rfl rfl (fm_dec dtX11_five 23 rfl) ?_
      refine pv_iadd (pc := 41) (fm_dec dtX11_five 24 rfl) ?_
      refine pv_istore (pc := 42) (i := 5) (by decide) rfl (fm_dec dtX11_five 25 rfl) ?_
      dsimp only [List.set_cons_zero, List.set_cons_succ]
      refine pv_iload (pc := 44) (i := 4) rfl (fm_dec dtX11_five 26 rfl) ?_
      refine pv_if_ne (pc := 46) 54 (by decide) (fm_dec dtX11_five 27 rfl) (fun hc46 => ?_) (fun hc46 => ?_)
      · refine pv_bipush (pc := 54) (v := 27) (by decide) (fm_dec dtX11_five 30 rfl) ?_
        refine pv_iload (pc := 56) (i := 5) rfl (fm_dec dtX11_five 31 rfl) ?_
        refine pv_imul (pc := 58) (fm_dec dtX11_five 32 rfl) ?_
        refine pv_iload (pc := 59) (i := 4) rfl (fm_dec dtX11_five 33 rfl) ?_
        refine pv_iadd (pc := 61) (fm_dec dtX11_five 34 rfl) ?_
        exact pv_ireturn (pc := 62) rfl (fm_dec dtX11_five 35 rfl) (by first | (have h9 := hq; unfold fvE at h9; simp only [hc9, hc27, hc46, if_true, if_false] at h9; exact h9))
      · refine pv_iload (pc := 49) (i := 5) rfl (fm_dec dtX11_five 28 rfl) ?_
        refine pv_goto (pc := 51) 62 (by decide) (fm_dec dtX11_five 29 rfl) ?_
        exact pv_ireturn (pc := 62) rfl (fm_dec dtX11_five 35 rfl) (by first | (have h9 := hq; unfold fvE at h9; simp only [hc9, hc27, hc46, if_true, if_false] at h9; exact h9))
    · refine pv_iload (pc := 30) (i := 5) rfl (fm_dec dtX11_five 18 rfl) ?_
      refine pv_goto (pc := 32) 42 (by decide) (fm_dec dtX11_five 19 rfl) ?_
      refine pv_istore (pc := 42) (i := 5) (by decide) rfl (fm_dec dtX11_five 25 rfl) ?_
      dsimp only [List.set_cons_zero, List.set_cons_succ]
      refine pv_iload (pc := 44) (i := 4) rfl (fm_dec dtX11_five 26 rfl) ?_
      refine pv_if_ne (pc := 46) 54 (by decide) (fm_dec dtX11_five 27 rfl) (fun hc46 => ?_) (fun hc46 => ?_)
      · refine pv_bipush (pc := 54) (v := 27) (by decide) (fm_dec dtX11_five 30 rfl) ?_
        refine pv_iload (pc := 56) (i := 5) rfl (fm_dec dtX11_five 31 rfl) ?_
        refine pv_imul (pc := 58) (fm_dec dtX11_five 32 rfl) ?_
        refine pv_iload (pc := 59) (i := 4) rfl (fm_dec dtX11_five 33 rfl) ?_
        refine pv_iadd (pc := 61) (fm_dec dtX11_five 34 rfl) ?_
        exact pv_ireturn (pc := 62) rfl (fm_dec dtX11_five 35 rfl) (by first | (have h9 := hq; unfold fvE at h9; simp only [hc9, hc27, hc46, if_true, if_false] at h9; exact h9))
      · refine pv_iload (pc := 49) (i := 5) rfl (fm_dec dtX11_five 28 rfl) ?_
        refine pv_goto (pc := 51) 62 (by decide) (fm_dec dtX11_five 29 rfl) ?_
        exact pv_ireturn (pc := 62) rfl (fm_dec dtX11_five 35 rfl) (by first | (have h9 := hq; unfold fvE at h9; simp only [hc9, hc27, hc46, if_true, if_false] at h9; exact h9))
set_option maxRecDepth 20000 in
theorem c_isWord {M : fmM} {Q : fmR → fmM → Prop} {tx : tX} {n p : Nat} {a b c d e : Int32} (w : List Int) (hw : (fvE a b c d e).toInt = w27 0 w ∧ w.length ≤ 5 ∧ ∀ c ∈ w, tW c = true) (hS : rS M tx n p) (hf : M.1 0 5 = 0) (hy : ∀ x : Int32, wd tx (sk tx p) = w → x.toInt = sk tx p → Q (.inl (some (.int 1))) (fmI M 0 4 x)) (hn : ∀ x : Int32, ¬ wd tx (sk tx p) = w → x.toInt = sk tx p → Q (.inl (some (.int 0))) (fmI M 0 4 x)) : pvGood Tm 3 qX11_isWord [.ref 0, .int a, .int b, .int c, .int d, .int e] M Q := by
  refine pvGood_of (Nat.le_of_ble_eq_true rfl) ?_
  show pvEv Tm 3 qX11_isWord 0 [some (.ref 0), some (.int a), some (.int b), some (.int c), some (.int d), some (.int e)] [] M Q
  refine pv_aloadn (pc := 0) (n := 0) 0 rfl rfl (fm_dec dtX11_isWord 0 rfl) ?_
  refine pv_getI (k := 0) (j := 5) (ci := 11) (pc := 1) pfl_X11_117 (by decide) rfl (by decide) (fm_dec dtX11_isWord 1 rfl) ?_
  refine pv_if_ne (pc := 4) 28 (by decide) (fm_dec dtX11_isWord 2 rfl) (fun hc4 => by exfalso; exact hc4 hf) (fun _ => ?_)
  refine pv_aloadn (pc := 7) (n := 0) 0 rfl rfl (fm_dec dtX11_isWord 3 rfl) ?_
  refine pv_invV0 (k := 0) (d' := 2) (pc := 8) pcv_X11_142 (by decide) rfl (Nat.le_of_ble_eq_true rfl) (by decide) (fm_dec dtX11_isWord 4 rfl) ?_
  refine c_wordHere hS (fun x8 r8 hx8 hr8 => ?_)
  refine pv_then1 ?_
  refine pv_iloadn (pc := 11) (n := 1) 1 rfl rfl (fm_dec dtX11_isWord 5 rfl) ?_
  refine pv_iloadn (pc := 12) (n := 2) 2 rfl rfl (fm_dec dtX11_isWord 6 rfl) ?_
  refine pv_iloadn (pc := 13) (n := 3) 3 rfl rfl (fm_dec dtX11_isWord 7 rfl) ?_
  refine pv_iload (pc := 14) (i := 4) rfl (fm_dec dtX11_isWord 8 rfl) ?_
  refine pv_iload (pc := 16) (i := 5) rfl (fm_dec dtX11_isWord 9 rfl) ?_
  refine pv_iS5 (d' := 0) (pc := 18) pcs_X11_146 (Nat.le_of_ble_eq_true rfl) (by decide) (fm_dec dtX11_isWord 10 rfl) ?_
  refine c_five ?_
  refine pv_then1 ?_
  refine pv_icmp_ne (pc := 21) 28 (by decide) (fm_dec dtX11_isWord 11 rfl) (fun hc21 => ?_) (fun hc21 => ?_)
  · refine pv_iconst (pc := 28) (v := 0) (by decide) (fm_dec dtX11_isWord 14 rfl) ?_
    exact pv_zreturn (pc := 29) rfl (by first | exact Or.inr rfl | exact Or.inl rfl) (fm_dec dtX11_isWord 15 rfl) (by first | exact hy x8 (iw_y hw hr8 hc21) hx8 | exact hn x8 (iw_n hw hr8 hc21) hx8)
  · refine pv_iconst (pc := 24) (v := 1) (by decide) (fm_dec dtX11_isWord 12 rfl) ?_
    refine pv_goto (pc := 25) 29 (by decide) (fm_dec dtX11_isWord 13 rfl) ?_
    exact pv_zreturn (pc := 29) rfl (by first | exact Or.inr rfl | exact Or.inl rfl) (fm_dec dtX11_isWord 15 rfl) (by first | exact hy x8 (iw_y hw hr8 hc21) hx8 | exact hn x8 (iw_n hw hr8 hc21) hx8)
set_option maxRecDepth 20000 in
theorem c_isWord1 {M : fmM} {Q : fmR → fmM → Prop} {a b c d e : Int32} (hf : ¬ M.1 0 5 = 0) (hq : Q (.inl (some (.int 0))) M) : pvGood Tm 3 qX11_isWord [.ref 0, .int a, .int b, .int c, .int d, .int e] M Q := by
  refine pvGood_of (Nat.le_of_ble_eq_true rfl) ?_
  show pvEv Tm 3 qX11_isWord 0 [some (.ref 0), some (.int a), some (.int b), some (.int c), some (.int d), some (.int e)] [] M Q
  refine pv_aloadn (pc := 0) (n := 0) 0 rfl rfl (fm_dec dtX11_isWord 0 rfl) ?_
  refine pv_getI (k := 0) (j := 5) (ci := 11) (pc := 1) pfl_X11_117 (by decide) rfl (by decide) (fm_dec dtX11_isWord 1 rfl) ?_
  refine pv_if_ne (pc := 4) 28 (by decide) (fm_dec dtX11_isWord 2 rfl) (fun _ => ?_) (fun hc4 => by exfalso; exact hf hc4)
  refine pv_iconst (pc := 28) (v := 0) (by decide) (fm_dec dtX11_isWord 14 rfl) ?_
  exact pv_zreturn (pc := 29) rfl (by first | exact Or.inr rfl | exact Or.inl rfl) (fm_dec dtX11_isWord 15 rfl) hq
set_option maxRecDepth 20000 in
theorem sw_loop {Q : fmR → fmM → Prop} {tx : tX} {n : Nat} : ∀ (m : Nat) (M : fmM) (p : Nat), rS M tx n p → n - p = m → (∀ x : Int32, x.toInt = sp tW tx p → Q (.inl none) (fmI M 0 4 x)) → pvEv Tm 1 qX11_skipWord 0 [some (.ref 0)] [] M Q := by
  intro m
  induction m using Nat.strongRecOn with
  | _ m ih =>
    intro M p hS hm hq
    refine pv_aloadn (pc := 0) (n := 0) 0 rfl rfl (fm_dec dtX11_skipWord 0 rfl) ?_
    refine pv_aloadn (pc := 1) (n := 0) 0 rfl rfl (fm_dec dtX11_skipWord 1 rfl) ?_
    refine pv_getI (k := 0) (j := 4) (ci := 11) (pc := 2) pfl_X11_110 (by decide) rfl (by decide) (fm_dec dtX11_skipWord 2 rfl) ?_
    refine pv_invV1 (k := 0) (d' := 0) (pc := 5) pcv_X11_113 (by decide) rfl (Nat.le_of_ble_eq_true rfl) (by decide) (fm_dec dtX11_skipWord 3 rfl) ?_
    refine c_byteAt hS p hS.2.1 (fun v5 hv5 => ?_)
    refine pv_then1 ?_
    refine pv_iS1 (d' := 0) (pc := 8) pcs_X11_139 (Nat.le_of_ble_eq_true rfl) (by decide) (fm_dec dtX11_skipWord 4 rfl) ?_
    refine c_isSmall (fun h8 => ?_) (fun h8 => ?_)
    · refine pv_then1 ?_
      refine pv_if_eq (pc := 11) 27 (by decide) (fm_dec dtX11_skipWord 5 rfl) (fun hc11 => by exfalso; revert hc11; decide) (fun _ => ?_)
      refine pv_aloadn (pc := 14) (n := 0) 0 rfl rfl (fm_dec dtX11_skipWord 6 rfl) ?_
      refine pv_dup (pc := 15) rfl (fm_dec dtX11_skipWord 7 rfl) ?_
      refine pv_getI (k := 0) (j := 4) (ci := 11) (pc := 16) pfl_X11_110 (by decide) rfl (by decide) (fm_dec dtX11_skipWord 8 rfl) ?_
      refine pv_iconst (pc := 19) (v := 1) (by decide) (fm_dec dtX11_skipWord 9 rfl) ?_
      refine pv_iadd (pc := 20) (fm_dec dtX11_skipWord 10 rfl) ?_
      refine pv_putI (k := 0) (j := 4) (ci := 11) (pc := 21) pfl_X11_110 (by decide) rfl (by decide) (fm_dec dtX11_skipWord 11 rfl) ?_
      refine pv_goto (pc := 24) 0 (by decide) (fm_dec dtX11_skipWord 12 rfl) ?_
      rw [hv5] at h8
      have hlt := hS.lt (by have := tW_in h8; omega)
      refine ih (n - (p + 1)) (by omega) _ (p + 1) (hS.step hlt) rfl (fun x hx => ?_)
      rw [fmI_fmI]
      exact hq x (by rw [sp_t (by have := hS.2.2.2.1.1; omega) h8]; exact hx)
    · refine pv_then1 ?_
      refine pv_if_eq (pc := 11) 27 (by decide) (fm_dec dtX11_skipWord 5 rfl) (fun _ => ?_) (fun hc11 => by exfalso; revert hc11; decide)
      exact pv_return (pc := 27) rfl (fm_dec dtX11_skipWord 13 rfl) (by have h9 := hq (M.1 0 4) (by rw [hS.2.1, sp_f (by rw [hv5] at h8; exact h8)]); rw [fmI_id] at h9; exact h9)
theorem c_skipWord {M : fmM} {Q : fmR → fmM → Prop} {tx : tX} {n p : Nat} (hS : rS M tx n p) (hq : ∀ x : Int32, x.toInt = sp tW tx p → Q (.inl none) (fmI M 0 4 x)) : pvGood Tm 1 qX11_skipWord [.ref 0] M Q := pvGood_of (Nat.le_of_ble_eq_true rfl) (sw_loop _ M p hS rfl hq)
set_option maxRecDepth 20000 in
theorem c_takes {M : fmM} {Q : fmR → fmM → Prop} {tx : tX} {n p : Nat} {a b c d e : Int32} (w : List Int) (hw : (fvE a b c d e).toInt = w27 0 w ∧ w.length ≤ 5 ∧ ∀ c ∈ w, tW c = true) (hS : rS M tx n p) (hf : M.1 0 5 = 0) (hy : ∀ x : Int32, wd tx (sk tx p) = w → x.toInt = sp tW tx (sk tx p) → Q (.inl (some (.int 1))) (fmI M 0 4 x)) (hn : ∀ x : Int32, ¬ wd tx (sk tx p) = w → x.toInt = sk tx p → Q (.inl (some (.int 0))) (fmI M 0 4 x)) : pvGood Tm 4 qX11_takes [.ref 0, .int a, .int b, .int c, .int d, .int e] M Q := by
  refine pvGood_of (Nat.le_of_ble_eq_true rfl) ?_
  show pvEv Tm 4 qX11_takes 0 [some (.ref 0), some (.int a), some (.int b), some (.int c), some (.int d), some (.int e), none] [] M Q
  refine pv_aloadn (pc := 0) (n := 0) 0 rfl rfl (fm_dec dtX11_takes 0 rfl) ?_
  refine pv_iloadn (pc := 1) (n := 1) 1 rfl rfl (fm_dec dtX11_takes 1 rfl) ?_
  refine pv_iloadn (pc := 2) (n := 2) 2 rfl rfl (fm_dec dtX11_takes 2 rfl) ?_
  refine pv_iloadn (pc := 3) (n := 3) 3 rfl rfl (fm_dec dtX11_takes 3 rfl) ?_
  refine pv_iload (pc := 4) (i := 4) rfl (fm_dec dtX11_takes 4 rfl) ?_
  refine pv_iload (pc := 6) (i := 5) rfl (fm_dec dtX11_takes 5 rfl) ?_
  refine pv_invV5 (k := 0) (d' := 3) (pc := 8) pcv_X11_150 (by decide) rfl (Nat.le_of_ble_eq_true rfl) (by decide) (fm_dec dtX11_takes 6 rfl) ?_
  refine c_isWord w hw hS hf (fun x8 hy8 hx8 => ?_) (fun x8 hy8 hx8 => ?_)
  · refine pv_then1 ?_
    refine pv_istore (pc := 11) (i := 6) (by decide) rfl (fm_dec dtX11_takes 7 rfl) ?_
    dsimp only [List.set_cons_zero, List.set_cons_succ]
    refine pv_iload (pc := 13) (i := 6) rfl (fm_dec dtX11_takes 8 rfl) ?_
    refine pv_if_eq (pc := 15) 22 (by decide) (fm_dec dtX11_takes 9 rfl) (fun hc15 => by exfalso; revert hc15; decide) (fun _ => ?_)
    refine pv_aloadn (pc := 18) (n := 0) 0 rfl rfl (fm_dec dtX11_takes 10 rfl) ?_
    refine pv_invV0 (k := 0) (d' := 1) (pc := 19) pcv_X11_154 (by decide) rfl (Nat.le_of_ble_eq_true rfl) (by decide) (fm_dec dtX11_takes 11 rfl) ?_
    refine c_skipWord (rS.bl hS hx8) (fun x19 hx19 => ?_)
    refine pv_then0 ?_
    refine pv_iload (pc := 22) (i := 6) rfl (fm_dec dtX11_takes 12 rfl) ?_
    exact pv_zreturn (pc := 24) rfl (by first | exact Or.inr rfl | exact Or.inl rfl) (fm_dec dtX11_takes 13 rfl) (by first | (have h9 := hy x19 hy8 hx19; rw [← fmI_fmI M 0 4 x8 x19] at h9; exact h9) | exact hn x8 hy8 hx8)
  · refine pv_then1 ?_
    refine pv_istore (pc := 11) (i := 6) (by decide) rfl (fm_dec dtX11_takes 7 rfl) ?_
    dsimp only [List.set_cons_zero, List.set_cons_succ]
    refine pv_iload (pc := 13) (i := 6) rfl (fm_dec dtX11_takes 8 rfl) ?_
    refine pv_if_eq (pc := 15) 22 (by decide) (fm_dec dtX11_takes 9 rfl) (fun _ => ?_) (fun hc15 => by exfalso; revert hc15; decide)
    refine pv_iload (pc := 22) (i := 6) rfl (fm_dec dtX11_takes 12 rfl) ?_
    exact pv_zreturn (pc := 24) rfl (by first | exact Or.inr rfl | exact Or.inl rfl) (fm_dec dtX11_takes 13 rfl) (by first | (have h9 := hy x19 hy8 hx19; rw [← fmI_fmI M 0 4 x8 x19] at h9; exact h9) | exact hn x8 hy8 hx8)
set_option maxRecDepth 20000 in
theorem c_ends {M : fmM} {Q : fmR → fmM → Prop}  (hq : Q (.inl (some (.int (M.1 0 5 - 10)))) (fmI M 0 3 (M.1 0 6))) : pvGood Tm 0 qX11_ends [.ref 0] M Q := by
  refine pvGood_of (Nat.le_of_ble_eq_true rfl) ?_
  show pvEv Tm 0 qX11_ends 0 [some (.ref 0)] [] M Q
  refine pv_aloadn (pc := 0) (n := 0) 0 rfl rfl (fm_dec dtX11_ends 0 rfl) ?_
  refine pv_aloadn (pc := 1) (n := 0) 0 rfl rfl (fm_dec dtX11_ends 1 rfl) ?_
  refine pv_getI (k := 0) (j := 6) (ci := 11) (pc := 2) pfl_X11_120 (by decide) rfl (by decide) (fm_dec dtX11_ends 2 rfl) ?_
  refine pv_putI (k := 0) (j := 3) (ci := 11) (pc := 5) pfl_X11_9 (by decide) rfl (by decide) (fm_dec dtX11_ends 3 rfl) ?_
  refine pv_aloadn (pc := 8) (n := 0) 0 rfl rfl (fm_dec dtX11_ends 4 rfl) ?_
  refine pv_getI (k := 0) (j := 5) (ci := 11) (pc := 9) pfl_X11_117 (by decide) rfl (by decide) (fm_dec dtX11_ends 5 rfl) ?_
  refine pv_bipush (pc := 12) (v := 10) (by decide) (fm_dec dtX11_ends 6 rfl) ?_
  refine pv_isub (pc := 14) (fm_dec dtX11_ends 7 rfl) ?_
  exact pv_ireturn (pc := 15) rfl (fm_dec dtX11_ends 8 rfl) hq
