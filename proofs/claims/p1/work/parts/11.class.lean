-- THE CLASS ON A FRESH OBJECT
def inR (v lo hi : Int32) : Prop := ¬ v < lo ∧ v ≤ hi
theorem inR_dec (v lo hi : Int32) : inR v lo hi ∨ ¬ inR v lo hi := Classical.em _
theorem i32_le_lt {a b : Int32} (h : ¬ a < b) : b ≤ a := by
  rw [Int32.le_iff_toInt_le]; rw [Int32.lt_iff_toInt_lt] at h; omega
theorem i32_ext {a b : Int32} (h : a.toInt = b.toInt) : a = b := Int32.toInt_inj.mp h
/-- a number within literal bounds is one of them -/
theorem inR_toInt {v lo hi : Int32} (h : inR v lo hi) : lo.toInt ≤ v.toInt ∧ v.toInt ≤ hi.toInt := by
  obtain ⟨h1, h2⟩ := h
  rw [Int32.lt_iff_toInt_lt] at h1; rw [Int32.le_iff_toInt_le] at h2
  exact ⟨by omega, h2⟩
theorem inR_0 {v : Int32} (h : inR v 0 0) : v = 0 := by
  have := inR_toInt h
  exact i32_ext (by simp at this ⊢; omega)
theorem inR_01 {v : Int32} (h : inR v 0 1) : v = 0 ∨ v = 1 := by
  have := inR_toInt h
  simp at this
  rcases (show v.toInt = 0 ∨ v.toInt = 1 by omega) with h | h
  · exact Or.inl (i32_ext (by simp [h]))
  · exact Or.inr (i32_ext (by simp [h]))
theorem inR_08 {v : Int32} (h : inR v 0 8) : v = 0 ∨ v = 1 ∨ v = 2 ∨ v = 3 ∨ v = 4 ∨ v = 5 ∨ v = 6 ∨ v = 7 ∨ v = 8 := by
  have := inR_toInt h
  simp at this
  rcases (show v.toInt = 0 ∨ v.toInt = 1 ∨ v.toInt = 2 ∨ v.toInt = 3 ∨ v.toInt = 4 ∨ v.toInt = 5 ∨ v.toInt = 6 ∨ v.toInt = 7 ∨ v.toInt = 8 by omega) with h | h | h | h | h | h | h | h | h
  · exact Or.inl (i32_ext (by simp [h]))
  · exact Or.inr (Or.inl (i32_ext (by simp [h])))
  · exact Or.inr (Or.inr (Or.inl (i32_ext (by simp [h]))))
  · exact Or.inr (Or.inr (Or.inr (Or.inl (i32_ext (by simp [h])))))
  · exact Or.inr (Or.inr (Or.inr (Or.inr (Or.inl (i32_ext (by simp [h]))))))
  · exact Or.inr (Or.inr (Or.inr (Or.inr (Or.inr (Or.inl (i32_ext (by simp [h])))))))
  · exact Or.inr (Or.inr (Or.inr (Or.inr (Or.inr (Or.inr (Or.inl (i32_ext (by simp [h]))))))))
  · exact Or.inr (Or.inr (Or.inr (Or.inr (Or.inr (Or.inr (Or.inr (Or.inl (i32_ext (by simp [h])))))))))
  · exact Or.inr (Or.inr (Or.inr (Or.inr (Or.inr (Or.inr (Or.inr (Or.inr (i32_ext (by simp [h])))))))))
theorem inR_04 {v : Int32} (h : inR v 0 4) : v = 0 ∨ v = 1 ∨ v = 2 ∨ v = 3 ∨ v = 4 := by
  have := inR_toInt h
  simp at this
  rcases (show v.toInt = 0 ∨ v.toInt = 1 ∨ v.toInt = 2 ∨ v.toInt = 3 ∨ v.toInt = 4 by omega) with h | h | h | h | h
  · exact Or.inl (i32_ext (by simp [h]))
  · exact Or.inr (Or.inl (i32_ext (by simp [h])))
  · exact Or.inr (Or.inr (Or.inl (i32_ext (by simp [h]))))
  · exact Or.inr (Or.inr (Or.inr (Or.inl (i32_ext (by simp [h])))))
  · exact Or.inr (Or.inr (Or.inr (Or.inr (i32_ext (by simp [h])))))
theorem inR_13 {v : Int32} (h : inR v 1 3) : v = 1 ∨ v = 2 ∨ v = 3 := by
  have := inR_toInt h
  simp at this
  rcases (show v.toInt = 1 ∨ v.toInt = 2 ∨ v.toInt = 3 by omega) with h | h | h
  · exact Or.inl (i32_ext (by simp [h]))
  · exact Or.inr (Or.inl (i32_ext (by simp [h])))
  · exact Or.inr (Or.inr (i32_ext (by simp [h])))
/-- Integer.bitCount, as its code has it -/
def bcE (x : Int32) : Int32 :=
  let a := x - ((x.toUInt32 >>> ((1 : Int32).toUInt32 &&& Int32.toUInt32 31)).toInt32 &&& 1431655765)
  let b := (a &&& 858993459) + ((a.toUInt32 >>> ((2 : Int32).toUInt32 &&& Int32.toUInt32 31)).toInt32 &&& 858993459)
  let c := (b + (b.toUInt32 >>> ((4 : Int32).toUInt32 &&& Int32.toUInt32 31)).toInt32) &&& 252645135
  let d := c + (c.toUInt32 >>> ((8 : Int32).toUInt32 &&& Int32.toUInt32 31)).toInt32
  let e := d + (d.toUInt32 >>> ((16 : Int32).toUInt32 &&& Int32.toUInt32 31)).toInt32
  e &&& 63
def uOpen (M : fmM) : fmM := fmI (fmI (fmI (fmI (fmI M 1 2 0) 1 3 0) 1 1 0) 1 4 0) 1 5 (-1)

set_option maxRecDepth 20000 in
theorem c_bitCount {l : Launch} {G : fmG} {M : fmM} {Q : fmR → fmM → Prop} (hst : l.stackTraces = false) (x : Int32) (hq : Q (.inl (some (.int (bcE x)))) M) : fmGood Tx l G 0 qJ6_bitCount_0f7a4 [.int x] M Q := by
  refine fmGood_of hst (by decide +kernel) (Nat.le_of_ble_eq_true rfl) ?_
  show fmEv Tx l G 0 qJ6_bitCount_0f7a4 0 [some (.int x)] [] M Q
  refine fm_iloadn (pc := 0) (n := 0) 0 rfl rfl (fm_dec dtJ6_bitCount_0f7a4 0 rfl) ?_
  refine fm_iloadn (pc := 1) (n := 0) 0 rfl rfl (fm_dec dtJ6_bitCount_0f7a4 1 rfl) ?_
  refine fm_iconst (pc := 2) (v := 1) (by decide) (fm_dec dtJ6_bitCount_0f7a4 2 rfl) ?_
  refine fm_iushr (pc := 3) (fm_dec dtJ6_bitCount_0f7a4 3 rfl) ?_
  refine fm_ldcw (pc := 4) kc_J6_265 (fm_dec dtJ6_bitCount_0f7a4 4 rfl) ?_
  refine fm_iand (pc := 7) (fm_dec dtJ6_bitCount_0f7a4 5 rfl) ?_
  refine fm_isub (pc := 8) (fm_dec dtJ6_bitCount_0f7a4 6 rfl) ?_
  refine fm_istoren (pc := 9) (n := 0) 0 rfl (by decide) rfl (fm_dec dtJ6_bitCount_0f7a4 7 rfl) ?_
  dsimp only [List.set_cons_zero, List.set_cons_succ]
  refine fm_iloadn (pc := 10) (n := 0) 0 rfl rfl (fm_dec dtJ6_bitCount_0f7a4 8 rfl) ?_
  refine fm_ldcw (pc := 11) kc_J6_266 (fm_dec dtJ6_bitCount_0f7a4 9 rfl) ?_
  refine fm_iand (pc := 14) (fm_dec dtJ6_bitCount_0f7a4 10 rfl) ?_
  refine fm_iloadn (pc := 15) (n := 0) 0 rfl rfl (fm_dec dtJ6_bitCount_0f7a4 11 rfl) ?_
  refine fm_iconst (pc := 16) (v := 2) (by decide) (fm_dec dtJ6_bitCount_0f7a4 12 rfl) ?_
  refine fm_iushr (pc := 17) (fm_dec dtJ6_bitCount_0f7a4 13 rfl) ?_
  refine fm_ldcw (pc := 18) kc_J6_266 (fm_dec dtJ6_bitCount_0f7a4 14 rfl) ?_
  refine fm_iand (pc := 21) (fm_dec dtJ6_bitCount_0f7a4 15 rfl) ?_
  refine fm_iadd (pc := 22) (fm_dec dtJ6_bitCount_0f7a4 16 rfl) ?_
  refine fm_istoren (pc := 23) (n := 0) 0 rfl (by decide) rfl (fm_dec dtJ6_bitCount_0f7a4 17 rfl) ?_
  dsimp only [List.set_cons_zero, List.set_cons_succ]
  refine fm_iloadn (pc := 24) (n := 0) 0 rfl rfl (fm_dec dtJ6_bitCount_0f7a4 18 rfl) ?_
  refine fm_iloadn (pc := 25) (n := 0) 0 rfl rfl (fm_dec dtJ6_bitCount_0f7a4 19 rfl) ?_
  refine fm_iconst (pc := 26) (v := 4) (by decide) (fm_dec dtJ6_bitCount_0f7a4 20 rfl) ?_
  refine fm_iushr (pc := 27) (fm_dec dtJ6_bitCount_0f7a4 21 rfl) ?_
  refine fm_iadd (pc := 28) (fm_dec dtJ6_bitCount_0f7a4 22 rfl) ?_
  refine fm_ldcw (pc := 29) kc_J6_267 (fm_dec dtJ6_bitCount_0f7a4 23 rfl) ?_
  refine fm_iand (pc := 32) (fm_dec dtJ6_bitCount_0f7a4 24 rfl) ?_
  refine fm_istoren (pc := 33) (n := 0) 0 rfl (by decide) rfl (fm_dec dtJ6_bitCount_0f7a4 25 rfl) ?_
  dsimp only [List.set_cons_zero, List.set_cons_succ]
  refine fm_iloadn (pc := 34) (n := 0) 0 rfl rfl (fm_dec dtJ6_bitCount_0f7a4 26 rfl) ?_
  refine fm_iloadn (pc := 35) (n := 0) 0 rfl rfl (fm_dec dtJ6_bitCount_0f7a4 27 rfl) ?_
  refine fm_bipush (pc := 36) (v := 8) (by decide) (fm_dec dtJ6_bitCount_0f7a4 28 rfl) ?_
  refine fm_iushr (pc := 38) (fm_dec dtJ6_bitCount_0f7a4 29 rfl) ?_
  refine fm_iadd (pc := 39) (fm_dec dtJ6_bitCount_0f7a4 30 rfl) ?_
  refine fm_istoren (pc := 40) (n := 0) 0 rfl (by decide) rfl (fm_dec dtJ6_bitCount_0f7a4 31 rfl) ?_
  dsimp only [List.set_cons_zero, List.set_cons_succ]
  refine fm_iloadn (pc := 41) (n := 0) 0 rfl rfl (fm_dec dtJ6_bitCount_0f7a4 32 rfl) ?_
  refine fm_iloadn (pc := 42) (n := 0) 0 rfl rfl (fm_dec dtJ6_bitCount_0f7a4 33 rfl) ?_
  refine fm_bipush (pc := 43) (v := 16) (by decide) (fm_dec dtJ6_bitCount_0f7a4 34 rfl) ?_
  refine fm_iushr (pc := 45) (fm_dec dtJ6_bitCount_0f7a4 35 rfl) ?_
  refine fm_iadd (pc := 46) (fm_dec dtJ6_bitCount_0f7a4 36 rfl) ?_
  refine fm_istoren (pc := 47) (n := 0) 0 rfl (by decide) rfl (fm_dec dtJ6_bitCount_0f7a4 37 rfl) ?_
  dsimp only [List.set_cons_zero, List.set_cons_succ]
  refine fm_iloadn (pc := 48) (n := 0) 0 rfl rfl (fm_dec dtJ6_bitCount_0f7a4 38 rfl) ?_
  refine fm_bipush (pc := 49) (v := 63) (by decide) (fm_dec dtJ6_bitCount_0f7a4 39 rfl) ?_
  refine fm_iand (pc := 51) (fm_dec dtJ6_bitCount_0f7a4 40 rfl) ?_
  exact fm_ireturn (pc := 52) rfl (fm_dec dtJ6_bitCount_0f7a4 41 rfl) hq

set_option maxRecDepth 20000 in
theorem c_needWithin {l : Launch} {G : fmG} {M : fmM} {Q : fmR → fmM → Prop} (hst : l.stackTraces = false) (v lo hi : Int32) (hq : inR v lo hi → Q (.inl none) M) (hx : ¬ inR v lo hi → Q (.inr fmIAE) (fmI M 0 16 (M.1 0 16 + 1))) : fmGood Tx l G 0 qX10_needWithin [.ref (G.1 0), .int v, .int lo, .int hi] M Q := by
  refine fmGood_of hst (by decide +kernel) (Nat.le_of_ble_eq_true rfl) ?_
  show fmEv Tx l G 0 qX10_needWithin 0 [some (.ref (G.1 0)), some (.int v), some (.int lo), some (.int hi)] [] M Q
  refine fm_iloadn (pc := 0) (n := 1) 1 rfl rfl (fm_dec dtX10_needWithin 0 rfl) ?_
  refine fm_iloadn (pc := 1) (n := 2) 2 rfl rfl (fm_dec dtX10_needWithin 1 rfl) ?_
  refine fm_icmp_lt (pc := 2) 10 (by decide) (fm_dec dtX10_needWithin 2 rfl) (fun hc2 => ?_) (fun hc2 => ?_)
  · refine fm_aloadn (pc := 10) (n := 0) 0 rfl rfl (fm_dec dtX10_needWithin 6 rfl) ?_
    refine fm_dup (pc := 11) rfl (fm_dec dtX10_needWithin 7 rfl) ?_
    refine fm_getI (k := 0) (j := 16) (ci := 10) (pc := 12) fl_X10_366 (by decide) rfl (by decide) rfl (fm_dec dtX10_needWithin 8 rfl) ?_
    refine fm_iconst (pc := 15) (v := 1) (by decide) (fm_dec dtX10_needWithin 9 rfl) ?_
    refine fm_iadd (pc := 16) (fm_dec dtX10_needWithin 10 rfl) ?_
    refine fm_putI (k := 0) (j := 16) (ci := 10) (pc := 17) fl_X10_366 (by decide) rfl (by decide) rfl rfl (fm_dec dtX10_needWithin 11 rfl) ?_
    exact fm_thrI (pc := 20) (fm_dec dtX10_needWithin 12 rfl) (fm_dec dtX10_needWithin 13 rfl) (fm_dec dtX10_needWithin 14 rfl) (fm_dec dtX10_needWithin 15 rfl) (fm_dec dtX10_needWithin 16 rfl) (hx (by first | exact fun h => h.1 hc2 | exact fun h => hc7 h.2))
  · refine fm_iloadn (pc := 5) (n := 1) 1 rfl rfl (fm_dec dtX10_needWithin 3 rfl) ?_
    refine fm_iloadn (pc := 6) (n := 3) 3 rfl rfl (fm_dec dtX10_needWithin 4 rfl) ?_
    refine fm_icmp_le (pc := 7) 31 (by decide) (fm_dec dtX10_needWithin 5 rfl) (fun hc7 => ?_) (fun hc7 => ?_)
    · exact fm_return (pc := 31) rfl (fm_dec dtX10_needWithin 17 rfl) (hq ⟨hc2, hc7⟩)
    · refine fm_aloadn (pc := 10) (n := 0) 0 rfl rfl (fm_dec dtX10_needWithin 6 rfl) ?_
      refine fm_dup (pc := 11) rfl (fm_dec dtX10_needWithin 7 rfl) ?_
      refine fm_getI (k := 0) (j := 16) (ci := 10) (pc := 12) fl_X10_366 (by decide) rfl (by decide) rfl (fm_dec dtX10_needWithin 8 rfl) ?_
      refine fm_iconst (pc := 15) (v := 1) (by decide) (fm_dec dtX10_needWithin 9 rfl) ?_
      refine fm_iadd (pc := 16) (fm_dec dtX10_needWithin 10 rfl) ?_
      refine fm_putI (k := 0) (j := 16) (ci := 10) (pc := 17) fl_X10_366 (by decide) rfl (by decide) rfl rfl (fm_dec dtX10_needWithin 11 rfl) ?_
      exact fm_thrI (pc := 20) (fm_dec dtX10_needWithin 12 rfl) (fm_dec dtX10_needWithin 13 rfl) (fm_dec dtX10_needWithin 14 rfl) (fm_dec dtX10_needWithin 15 rfl) (fm_dec dtX10_needWithin 16 rfl) (hx (by first | exact fun h => h.1 hc2 | exact fun h => hc7 h.2))

set_option maxRecDepth 20000 in
theorem c_needLife0 {l : Launch} {G : fmG} {M : fmM} {Q : fmR → fmM → Prop} (hst : l.stackTraces = false) (i : Int32) (hl : M.1 3 9 = 0) (hx : ∀ M', Q (.inr fmNSE) M') : fmGood Tx l G 0 qX10_needLife [.ref (G.1 0), .int i] M Q := by
  refine fmGood_of hst (by decide +kernel) (Nat.le_of_ble_eq_true rfl) ?_
  show fmEv Tx l G 0 qX10_needLife 0 [some (.ref (G.1 0)), some (.int i)] [] M Q
  refine fm_iloadn (pc := 0) (n := 1) 1 rfl rfl (fm_dec dtX10_needLife 0 rfl) ?_
  refine fm_if_lt (pc := 1) 15 (by decide) (fm_dec dtX10_needLife 1 rfl) (fun hc1 => ?_) (fun hc1 => ?_)
  · refine fm_aloadn (pc := 15) (n := 0) 0 rfl rfl (fm_dec dtX10_needLife 7 rfl) ?_
    refine fm_dup (pc := 16) rfl (fm_dec dtX10_needLife 8 rfl) ?_
    refine fm_getI (k := 0) (j := 15) (ci := 10) (pc := 17) fl_X10_363 (by decide) rfl (by decide) rfl (fm_dec dtX10_needLife 9 rfl) ?_
    refine fm_iconst (pc := 20) (v := 1) (by decide) (fm_dec dtX10_needLife 10 rfl) ?_
    refine fm_iadd (pc := 21) (fm_dec dtX10_needLife 11 rfl) ?_
    refine fm_putI (k := 0) (j := 15) (ci := 10) (pc := 22) fl_X10_363 (by decide) rfl (by decide) rfl rfl (fm_dec dtX10_needLife 12 rfl) ?_
    exact fm_thrN (pc := 25) (fm_dec dtX10_needLife 13 rfl) (fm_dec dtX10_needLife 14 rfl) (fm_dec dtX10_needLife 15 rfl) (fm_dec dtX10_needLife 16 rfl) (fm_dec dtX10_needLife 17 rfl) (hx _)
  · refine fm_iloadn (pc := 4) (n := 1) 1 rfl rfl (fm_dec dtX10_needLife 2 rfl) ?_
    refine fm_aloadn (pc := 5) (n := 0) 0 rfl rfl (fm_dec dtX10_needLife 3 rfl) ?_
    refine fm_getR (k := 0) (j := 1) (ci := 10) (pc := 6) 3 rfl fl_X10_19 (by decide) rfl (by decide) (by decide) (fm_dec dtX10_needLife 4 rfl) ?_
    refine fm_getI (k := 3) (j := 9) (ci := 8) (pc := 9) fl_X10_138 (by decide) rfl (by decide) rfl (fm_dec dtX10_needLife 5 rfl) ?_
    refine fm_icmp_lt (pc := 12) 36 (by decide) (fm_dec dtX10_needLife 6 rfl) (fun hc12 => by exfalso; rw [hl] at hc12; exact hc1 hc12) (fun _ => ?_)
    refine fm_aloadn (pc := 15) (n := 0) 0 rfl rfl (fm_dec dtX10_needLife 7 rfl) ?_
    refine fm_dup (pc := 16) rfl (fm_dec dtX10_needLife 8 rfl) ?_
    refine fm_getI (k := 0) (j := 15) (ci := 10) (pc := 17) fl_X10_363 (by decide) rfl (by decide) rfl (fm_dec dtX10_needLife 9 rfl) ?_
    refine fm_iconst (pc := 20) (v := 1) (by decide) (fm_dec dtX10_needLife 10 rfl) ?_
    refine fm_iadd (pc := 21) (fm_dec dtX10_needLife 11 rfl) ?_
    refine fm_putI (k := 0) (j := 15) (ci := 10) (pc := 22) fl_X10_363 (by decide) rfl (by decide) rfl rfl (fm_dec dtX10_needLife 12 rfl) ?_
    exact fm_thrN (pc := 25) (fm_dec dtX10_needLife 13 rfl) (fm_dec dtX10_needLife 14 rfl) (fm_dec dtX10_needLife 15 rfl) (fm_dec dtX10_needLife 16 rfl) (fm_dec dtX10_needLife 17 rfl) (hx _)

set_option maxRecDepth 20000 in
theorem c_needPart {l : Launch} {G : fmG} {M : fmM} {Q : fmR → fmM → Prop} (hst : l.stackTraces = false) (p : Int32) (hq : inR p 0 1 → Q (.inl none) M) (hx : ∀ M', ¬ inR p 0 1 → Q (.inr fmIAE) M') : fmGood Tx l G 1 qX10_needPart [.ref (G.1 0), .int p] M Q := by
  refine fmGood_of hst (by decide +kernel) (Nat.le_of_ble_eq_true rfl) ?_
  show fmEv Tx l G 1 qX10_needPart 0 [some (.ref (G.1 0)), some (.int p)] [] M Q
  refine fm_aloadn (pc := 0) (n := 0) 0 rfl rfl (fm_dec dtX10_needPart 0 rfl) ?_
  refine fm_iloadn (pc := 1) (n := 1) 1 rfl rfl (fm_dec dtX10_needPart 1 rfl) ?_
  refine fm_iconst (pc := 2) (v := 0) (by decide) (fm_dec dtX10_needPart 2 rfl) ?_
  refine fm_iconst (pc := 3) (v := 1) (by decide) (fm_dec dtX10_needPart 3 rfl) ?_
  refine fm_invV3 (k := 0) (d' := 0) (pc := 4) cv_X10_169 (by decide) rfl (Nat.le_of_ble_eq_true rfl) (by decide) (fm_dec dtX10_needPart 4 rfl) ?_
  refine c_needWithin hst _ _ _ (fun hi4 => ?_) (fun hx4 => ?_)
  · refine fm_then0 ?_
    exact fm_return (pc := 7) rfl (fm_dec dtX10_needPart 5 rfl) (hq hi4)
  · refine fm_thenX ?_
    exact hx _ hx4

set_option maxRecDepth 20000 in
theorem c_needBits0 {l : Launch} {G : fmG} {M : fmM} {Q : fmR → fmM → Prop} (hst : l.stackTraces = false) (b : Int32) (hl : M.1 3 9 = 0) (hq : inR b 0 0 → Q (.inl none) M) (hx : ∀ M', ¬ inR b 0 0 → Q (.inr fmIAE) M') : fmGood Tx l G 1 qX10_needBits [.ref (G.1 0), .int b] M Q := by
  refine fmGood_of hst (by decide +kernel) (Nat.le_of_ble_eq_true rfl) ?_
  show fmEv Tx l G 1 qX10_needBits 0 [some (.ref (G.1 0)), some (.int b)] [] M Q
  refine fm_aloadn (pc := 0) (n := 0) 0 rfl rfl (fm_dec dtX10_needBits 0 rfl) ?_
  refine fm_iloadn (pc := 1) (n := 1) 1 rfl rfl (fm_dec dtX10_needBits 1 rfl) ?_
  refine fm_iconst (pc := 2) (v := 0) (by decide) (fm_dec dtX10_needBits 2 rfl) ?_
  refine fm_iconst (pc := 3) (v := 1) (by decide) (fm_dec dtX10_needBits 3 rfl) ?_
  refine fm_aloadn (pc := 4) (n := 0) 0 rfl rfl (fm_dec dtX10_needBits 4 rfl) ?_
  refine fm_getR (k := 0) (j := 1) (ci := 10) (pc := 5) 3 rfl fl_X10_19 (by decide) rfl (by decide) (by decide) (fm_dec dtX10_needBits 5 rfl) ?_
  refine fm_getI (k := 3) (j := 9) (ci := 8) (pc := 8) fl_X10_138 (by decide) rfl (by decide) rfl (fm_dec dtX10_needBits 6 rfl) ?_
  refine fm_ishl (pc := 11) (fm_dec dtX10_needBits 7 rfl) ?_
  refine fm_iconst (pc := 12) (v := 1) (by decide) (fm_dec dtX10_needBits 8 rfl) ?_
  refine fm_isub (pc := 13) (fm_dec dtX10_needBits 9 rfl) ?_
  rw [hl]
  rw [show ((1 : Int32) <<< ((0 : Int32) &&& 31)) - 1 = 0 by decide]
  refine fm_invV3 (k := 0) (d' := 0) (pc := 14) cv_X10_169 (by decide) rfl (Nat.le_of_ble_eq_true rfl) (by decide) (fm_dec dtX10_needBits 10 rfl) ?_
  refine c_needWithin hst _ _ _ (fun hi14 => ?_) (fun hx14 => ?_)
  · refine fm_then0 ?_
    exact fm_return (pc := 17) rfl (fm_dec dtX10_needBits 11 rfl) (hq hi14)
  · refine fm_thenX ?_
    exact hx _ hx14

set_option maxRecDepth 20000 in
theorem c_needRumour {l : Launch} {G : fmG} {M : fmM} {Q : fmR → fmM → Prop} (hst : l.stackTraces = false) (b v x y : Int32) (hq : inR b 0 16 → inR v 0 999 → inR x 0 999 → inR y 0 999 → Q (.inl none) M) (hx : ∀ M', ¬ (inR b 0 16 ∧ inR v 0 999 ∧ inR x 0 999 ∧ inR y 0 999) → Q (.inr fmIAE) M') : fmGood Tx l G 1 qX10_needRumour [.ref (G.1 0), .int b, .int v, .int x, .int y] M Q := by
  refine fmGood_of hst (by decide +kernel) (Nat.le_of_ble_eq_true rfl) ?_
  show fmEv Tx l G 1 qX10_needRumour 0 [some (.ref (G.1 0)), some (.int b), some (.int v), some (.int x), some (.int y)] [] M Q
  refine fm_aloadn (pc := 0) (n := 0) 0 rfl rfl (fm_dec dtX10_needRumour 0 rfl) ?_
  refine fm_iloadn (pc := 1) (n := 1) 1 rfl rfl (fm_dec dtX10_needRumour 1 rfl) ?_
  refine fm_iconst (pc := 2) (v := 0) (by decide) (fm_dec dtX10_needRumour 2 rfl) ?_
  refine fm_bipush (pc := 3) (v := 16) (by decide) (fm_dec dtX10_needRumour 3 rfl) ?_
  refine fm_invV3 (k := 0) (d' := 0) (pc := 5) cv_X10_169 (by decide) rfl (Nat.le_of_ble_eq_true rfl) (by decide) (fm_dec dtX10_needRumour 4 rfl) ?_
  refine c_needWithin hst _ _ _ (fun hi5 => ?_) (fun hx5 => ?_)
  · refine fm_then0 ?_
    refine fm_aloadn (pc := 8) (n := 0) 0 rfl rfl (fm_dec dtX10_needRumour 5 rfl) ?_
    refine fm_iloadn (pc := 9) (n := 2) 2 rfl rfl (fm_dec dtX10_needRumour 6 rfl) ?_
    refine fm_iconst (pc := 10) (v := 0) (by decide) (fm_dec dtX10_needRumour 7 rfl) ?_
    refine fm_sipush (pc := 11) (v := 999) (by decide) (fm_dec dtX10_needRumour 8 rfl) ?_
    refine fm_invV3 (k := 0) (d' := 0) (pc := 14) cv_X10_169 (by decide) rfl (Nat.le_of_ble_eq_true rfl) (by decide) (fm_dec dtX10_needRumour 9 rfl) ?_
    refine c_needWithin hst _ _ _ (fun hi14 => ?_) (fun hx14 => ?_)
    · refine fm_then0 ?_
      refine fm_aloadn (pc := 17) (n := 0) 0 rfl rfl (fm_dec dtX10_needRumour 10 rfl) ?_
      refine fm_iloadn (pc := 18) (n := 3) 3 rfl rfl (fm_dec dtX10_needRumour 11 rfl) ?_
      refine fm_iconst (pc := 19) (v := 0) (by decide) (fm_dec dtX10_needRumour 12 rfl) ?_
      refine fm_sipush (pc := 20) (v := 999) (by decide) (fm_dec dtX10_needRumour 13 rfl) ?_
      refine fm_invV3 (k := 0) (d' := 0) (pc := 23) cv_X10_169 (by decide) rfl (Nat.le_of_ble_eq_true rfl) (by decide) (fm_dec dtX10_needRumour 14 rfl) ?_
      refine c_needWithin hst _ _ _ (fun hi23 => ?_) (fun hx23 => ?_)
      · refine fm_then0 ?_
        refine fm_aloadn (pc := 26) (n := 0) 0 rfl rfl (fm_dec dtX10_needRumour 15 rfl) ?_
        refine fm_iload (pc := 27) (i := 4) rfl (fm_dec dtX10_needRumour 16 rfl) ?_
        refine fm_iconst (pc := 29) (v := 0) (by decide) (fm_dec dtX10_needRumour 17 rfl) ?_
        refine fm_sipush (pc := 30) (v := 999) (by decide) (fm_dec dtX10_needRumour 18 rfl) ?_
        refine fm_invV3 (k := 0) (d' := 0) (pc := 33) cv_X10_169 (by decide) rfl (Nat.le_of_ble_eq_true rfl) (by decide) (fm_dec dtX10_needRumour 19 rfl) ?_
        refine c_needWithin hst _ _ _ (fun hi33 => ?_) (fun hx33 => ?_)
        · refine fm_then0 ?_
          exact fm_return (pc := 36) rfl (fm_dec dtX10_needRumour 20 rfl) (hq hi5 hi14 hi23 hi33)
        · refine fm_thenX ?_
          exact hx _ (fun h => by first | exact hx33 h.1 | exact hx33 h.2.1 | exact hx33 h.2.2.1 | exact hx33 h.2.2.2)
      · refine fm_thenX ?_
        exact hx _ (fun h => by first | exact hx23 h.1 | exact hx23 h.2.1 | exact hx23 h.2.2.1 | exact hx23 h.2.2.2)
    · refine fm_thenX ?_
      exact hx _ (fun h => by first | exact hx14 h.1 | exact hx14 h.2.1 | exact hx14 h.2.2.1 | exact hx14 h.2.2.2)
  · refine fm_thenX ?_
    exact hx _ (fun h => by first | exact hx5 h.1 | exact hx5 h.2.1 | exact hx5 h.2.2.1 | exact hx5 h.2.2.2)

set_option maxRecDepth 20000 in
theorem c_open {l : Launch} {G : fmG} {M : fmM} {Q : fmR → fmM → Prop} (hst : l.stackTraces = false)  (hq : Q (.inl none) (uOpen M)) : fmGood Tx l G 0 qX7_open [.ref (G.1 1), .int 0] M Q := by
  refine fmGood_of hst (by decide +kernel) (Nat.le_of_ble_eq_true rfl) ?_
  show fmEv Tx l G 0 qX7_open 0 [some (.ref (G.1 1)), some (.int 0)] [] M Q
  refine fm_aloadn (pc := 0) (n := 0) 0 rfl rfl (fm_dec dtX7_open 0 rfl) ?_
  refine fm_iloadn (pc := 1) (n := 1) 1 rfl rfl (fm_dec dtX7_open 1 rfl) ?_
  refine fm_putI (k := 1) (j := 2) (ci := 7) (pc := 2) fl_X7_22 (by decide) rfl (by decide) rfl rfl (fm_dec dtX7_open 2 rfl) ?_
  refine fm_aloadn (pc := 5) (n := 0) 0 rfl rfl (fm_dec dtX7_open 3 rfl) ?_
  refine fm_iconst (pc := 6) (v := 0) (by decide) (fm_dec dtX7_open 4 rfl) ?_
  refine fm_putI (k := 1) (j := 3) (ci := 7) (pc := 7) fl_X7_25 (by decide) rfl (by decide) rfl rfl (fm_dec dtX7_open 5 rfl) ?_
  refine fm_aloadn (pc := 10) (n := 0) 0 rfl rfl (fm_dec dtX7_open 6 rfl) ?_
  refine fm_iconst (pc := 11) (v := 0) (by decide) (fm_dec dtX7_open 7 rfl) ?_
  refine fm_putI (k := 1) (j := 1) (ci := 7) (pc := 12) fl_X7_19 (by decide) rfl (by decide) rfl rfl (fm_dec dtX7_open 8 rfl) ?_
  refine fm_aloadn (pc := 15) (n := 0) 0 rfl rfl (fm_dec dtX7_open 9 rfl) ?_
  refine fm_iconst (pc := 16) (v := 0) (by decide) (fm_dec dtX7_open 10 rfl) ?_
  refine fm_putI (k := 1) (j := 4) (ci := 7) (pc := 17) fl_X7_28 (by decide) rfl (by decide) rfl rfl (fm_dec dtX7_open 11 rfl) ?_
  refine fm_aloadn (pc := 20) (n := 0) 0 rfl rfl (fm_dec dtX7_open 12 rfl) ?_
  refine fm_iconst (pc := 21) (v := (-1)) (by decide) (fm_dec dtX7_open 13 rfl) ?_
  refine fm_putI (k := 1) (j := 5) (ci := 7) (pc := 22) fl_X7_15 (by decide) rfl (by decide) rfl rfl (fm_dec dtX7_open 14 rfl) ?_
  exact fm_return (pc := 25) rfl (fm_dec dtX7_open 15 rfl) hq

set_option maxRecDepth 20000 in
theorem c_openText0 {l : Launch} {G : fmG} {M : fmM} {Q : fmR → fmM → Prop} (hst : l.stackTraces = false) (n most : Int32) (hf : (if M.1 1 1 < most then M.1 1 1 else most) = 0) (hq : n = 0 → Q (.inl none) (uOpen M)) (hx : ∀ M', ¬ inR n 0 0 → Q (.inr fmIAE) M') : fmGood Tx l G 1 qX10_openText [.ref (G.1 0), .int n, .int most] M Q := by
  refine fmGood_of hst (by decide +kernel) (Nat.le_of_ble_eq_true rfl) ?_
  show fmEv Tx l G 1 qX10_openText 0 [some (.ref (G.1 0)), some (.int n), some (.int most)] [] M Q
  refine fm_aloadn (pc := 0) (n := 0) 0 rfl rfl (fm_dec dtX10_openText 0 rfl) ?_
  refine fm_iloadn (pc := 1) (n := 1) 1 rfl rfl (fm_dec dtX10_openText 1 rfl) ?_
  refine fm_iconst (pc := 2) (v := 0) (by decide) (fm_dec dtX10_openText 2 rfl) ?_
  refine fm_iloadn (pc := 3) (n := 2) 2 rfl rfl (fm_dec dtX10_openText 3 rfl) ?_
  refine fm_aloadn (pc := 4) (n := 0) 0 rfl rfl (fm_dec dtX10_openText 4 rfl) ?_
  refine fm_getR (k := 0) (j := 0) (ci := 10) (pc := 5) 1 rfl fl_X10_12 (by decide) rfl (by decide) (by decide) (fm_dec dtX10_openText 5 rfl) ?_
  refine fm_getI (k := 1) (j := 1) (ci := 7) (pc := 8) fl_X10_100 (by decide) rfl (by decide) rfl (fm_dec dtX10_openText 6 rfl) ?_
  refine fm_mmin (pc := 11) cs_X10_352 (Nat.le_of_ble_eq_true rfl) (fm_dec dtX10_openText 7 rfl) ?_
  rw [hf]
  refine fm_invV3 (k := 0) (d' := 0) (pc := 14) cv_X10_169 (by decide) rfl (Nat.le_of_ble_eq_true rfl) (by decide) (fm_dec dtX10_openText 8 rfl) ?_
  refine c_needWithin hst _ _ _ (fun hi14 => ?_) (fun hx14 => ?_)
  · refine fm_then0 ?_
    have hn := inR_0 hi14
    subst hn
    refine fm_aloadn (pc := 17) (n := 0) 0 rfl rfl (fm_dec dtX10_openText 9 rfl) ?_
    refine fm_getR (k := 0) (j := 0) (ci := 10) (pc := 18) 1 rfl fl_X10_12 (by decide) rfl (by decide) (by decide) (fm_dec dtX10_openText 10 rfl) ?_
    refine fm_iloadn (pc := 21) (n := 1) 1 rfl rfl (fm_dec dtX10_openText 11 rfl) ?_
    refine fm_invV1 (k := 1) (d' := 0) (pc := 22) cv_X10_381 (by decide) rfl (Nat.le_of_ble_eq_true rfl) (by decide) (fm_dec dtX10_openText 12 rfl) ?_
    refine c_open hst ?_
    refine fm_then0 ?_
    exact fm_return (pc := 25) rfl (fm_dec dtX10_openText 13 rfl) (hq rfl)
  · refine fm_thenX ?_
    exact hx _ hx14

set_option maxRecDepth 20000 in
theorem c_pieces0 {l : Launch} {G : fmG} {M : fmM} {Q : fmR → fmM → Prop} (hst : l.stackTraces = false)  (hq : Q (.inl (some (.int 0))) M) : fmGood Tx l G 0 qX6_pieces [.ref (G.1 47), .int 0] M Q := by
  refine fmGood_of hst (by decide +kernel) (Nat.le_of_ble_eq_true rfl) ?_
  show fmEv Tx l G 0 qX6_pieces 0 [some (.ref (G.1 47)), some (.int 0), none, none] [] M Q
  refine fm_iconst (pc := 0) (v := 0) (by decide) (fm_dec dtX6_pieces 0 rfl) ?_
  refine fm_istoren (pc := 1) (n := 2) 2 rfl (by decide) rfl (fm_dec dtX6_pieces 1 rfl) ?_
  dsimp only [List.set_cons_zero, List.set_cons_succ]
  refine fm_iconst (pc := 2) (v := 0) (by decide) (fm_dec dtX6_pieces 2 rfl) ?_
  refine fm_istoren (pc := 3) (n := 3) 3 rfl (by decide) rfl (fm_dec dtX6_pieces 3 rfl) ?_
  dsimp only [List.set_cons_zero, List.set_cons_succ]
  refine fm_iloadn (pc := 4) (n := 3) 3 rfl rfl (fm_dec dtX6_pieces 4 rfl) ?_
  refine fm_iloadn (pc := 5) (n := 1) 1 rfl rfl (fm_dec dtX6_pieces 5 rfl) ?_
  refine fm_icmp_ge (pc := 6) 39 (by decide) (fm_dec dtX6_pieces 6 rfl) (fun _ => ?_) (fun hc6 => by exfalso; exact hc6 (by decide))
  refine fm_iloadn (pc := 39) (n := 2) 2 rfl rfl (fm_dec dtX6_pieces 24 rfl) ?_
  exact fm_ireturn (pc := 40) rfl (fm_dec dtX6_pieces 25 rfl) hq

set_option maxRecDepth 20000 in
theorem c_told0 {l : Launch} {G : fmG} {M : fmM} {Q : fmR → fmM → Prop} (hst : l.stackTraces = false) (w : Int32) (hl : M.1 3 9 = 0) (h1 : M.1 47 2 = 0) (h2 : M.1 47 3 = 8) (h3 : M.1 47 1 = 0) (h5 : M.1 47 4 = 0) (h6 : M.1 47 5 = 0) (h7 : M.1 27 0 = 0) (h8 : M.1 0 14 = 0) (hq : ∀ M', inR w 0 8 → Q (.inl (some (.int (if w = 2 then 8 else 0)))) M') (hx : ∀ M', ¬ inR w 0 8 → Q (.inr fmIAE) M') : fmGood Tx l G 1 qX10_told [.ref (G.1 0), .int w] M Q := by
  refine fmGood_of hst (by decide +kernel) (Nat.le_of_ble_eq_true rfl) ?_
  show fmEv Tx l G 1 qX10_told 0 [some (.ref (G.1 0)), some (.int w), none] [] M Q
  refine fm_aloadn (pc := 0) (n := 0) 0 rfl rfl (fm_dec dtX10_told 0 rfl) ?_
  refine fm_iloadn (pc := 1) (n := 1) 1 rfl rfl (fm_dec dtX10_told 1 rfl) ?_
  refine fm_iconst (pc := 2) (v := 0) (by decide) (fm_dec dtX10_told 2 rfl) ?_
  refine fm_bipush (pc := 3) (v := 8) (by decide) (fm_dec dtX10_told 3 rfl) ?_
  refine fm_invV3 (k := 0) (d' := 0) (pc := 5) cv_X10_169 (by decide) rfl (Nat.le_of_ble_eq_true rfl) (by decide) (fm_dec dtX10_told 4 rfl) ?_
  refine c_needWithin hst _ _ _ (fun hi5 => ?_) (fun hx5 => ?_)
  · refine fm_then0 ?_
    refine fm_aloadn (pc := 8) (n := 0) 0 rfl rfl (fm_dec dtX10_told 5 rfl) ?_
    refine fm_getR (k := 0) (j := 9) (ci := 10) (pc := 9) 46 rfl fl_X10_75 (by decide) rfl (by decide) (by decide) (fm_dec dtX10_told 6 rfl) ?_
    refine fm_getR (k := 46) (j := 0) (ci := 5) (pc := 12) 47 rfl fl_X10_90 (by decide) rfl (by decide) (by decide) (fm_dec dtX10_told 7 rfl) ?_
    refine fm_astoren (pc := 15) (n := 2) 2 rfl (by decide) rfl (fm_dec dtX10_told 8 rfl) ?_
    dsimp only [List.set_cons_zero, List.set_cons_succ]
    refine fm_iloadn (pc := 16) (n := 1) 1 rfl rfl (fm_dec dtX10_told 9 rfl) ?_
    rcases inR_08 hi5 with rfl | rfl | rfl | rfl | rfl | rfl | rfl | rfl | rfl
    · refine fm_table (pc := 17) 64 (by decide) rfl (fm_dec dtX10_told 10 rfl) ?_
      refine fm_aloadn (pc := 64) (n := 0) 0 rfl rfl (fm_dec dtX10_told 11 rfl) ?_
      refine fm_getR (k := 0) (j := 1) (ci := 10) (pc := 65) 3 rfl fl_X10_19 (by decide) rfl (by decide) (by decide) (fm_dec dtX10_told 12 rfl) ?_
      refine fm_getI (k := 3) (j := 9) (ci := 8) (pc := 68) fl_X10_138 (by decide) rfl (by decide) rfl (fm_dec dtX10_told 13 rfl) ?_
      exact fm_ireturn (pc := 71) rfl (fm_dec dtX10_told 14 rfl) (by first | (have hq := hq M hi5; simpa [hl, h1, h2, h3, h5, h6, h7, h8] using hq) | (have hq := hq M hi5; rw [hl, h3]; exact hq))
    · refine fm_table (pc := 17) 72 (by decide) rfl (fm_dec dtX10_told 10 rfl) ?_
      refine fm_aloadn (pc := 72) (n := 2) 2 rfl rfl (fm_dec dtX10_told 15 rfl) ?_
      refine fm_getI (k := 47) (j := 2) (ci := 6) (pc := 73) fl_X10_173 (by decide) rfl (by decide) rfl (fm_dec dtX10_told 16 rfl) ?_
      exact fm_ireturn (pc := 76) rfl (fm_dec dtX10_told 17 rfl) (by first | (have hq := hq M hi5; simpa [hl, h1, h2, h3, h5, h6, h7, h8] using hq) | (have hq := hq M hi5; rw [hl, h3]; exact hq))
    · refine fm_table (pc := 17) 77 (by decide) rfl (fm_dec dtX10_told 10 rfl) ?_
      refine fm_aloadn (pc := 77) (n := 2) 2 rfl rfl (fm_dec dtX10_told 18 rfl) ?_
      refine fm_getI (k := 47) (j := 3) (ci := 6) (pc := 78) fl_X10_176 (by decide) rfl (by decide) rfl (fm_dec dtX10_told 19 rfl) ?_
      exact fm_ireturn (pc := 81) rfl (fm_dec dtX10_told 20 rfl) (by first | (have hq := hq M hi5; simpa [hl, h1, h2, h3, h5, h6, h7, h8] using hq) | (have hq := hq M hi5; rw [hl, h3]; exact hq))
    · refine fm_table (pc := 17) 82 (by decide) rfl (fm_dec dtX10_told 10 rfl) ?_
      refine fm_aloadn (pc := 82) (n := 0) 0 rfl rfl (fm_dec dtX10_told 21 rfl) ?_
      refine fm_getR (k := 0) (j := 1) (ci := 10) (pc := 83) 3 rfl fl_X10_19 (by decide) rfl (by decide) (by decide) (fm_dec dtX10_told 22 rfl) ?_
      refine fm_getI (k := 3) (j := 9) (ci := 8) (pc := 86) fl_X10_138 (by decide) rfl (by decide) rfl (fm_dec dtX10_told 23 rfl) ?_
      refine fm_aloadn (pc := 89) (n := 2) 2 rfl rfl (fm_dec dtX10_told 24 rfl) ?_
      refine fm_getI (k := 47) (j := 1) (ci := 6) (pc := 90) fl_X10_179 (by decide) rfl (by decide) rfl (fm_dec dtX10_told 25 rfl) ?_
      refine fm_invS1 (d' := 0) (pc := 93) cs_X10_182 (Nat.le_of_ble_eq_true rfl) (by decide) (fm_dec dtX10_told 26 rfl) ?_
      refine c_bitCount hst _ ?_
      refine fm_then1 ?_
      refine fm_isub (pc := 96) (fm_dec dtX10_told 27 rfl) ?_
      exact fm_ireturn (pc := 97) rfl (fm_dec dtX10_told 28 rfl) (by first | (have hq := hq M hi5; simpa [hl, h1, h2, h3, h5, h6, h7, h8] using hq) | (have hq := hq M hi5; rw [hl, h3]; exact hq))
    · refine fm_table (pc := 17) 98 (by decide) rfl (fm_dec dtX10_told 10 rfl) ?_
      refine fm_aloadn (pc := 98) (n := 2) 2 rfl rfl (fm_dec dtX10_told 29 rfl) ?_
      refine fm_aloadn (pc := 99) (n := 0) 0 rfl rfl (fm_dec dtX10_told 30 rfl) ?_
      refine fm_getR (k := 0) (j := 1) (ci := 10) (pc := 100) 3 rfl fl_X10_19 (by decide) rfl (by decide) (by decide) (fm_dec dtX10_told 31 rfl) ?_
      refine fm_getI (k := 3) (j := 9) (ci := 8) (pc := 103) fl_X10_138 (by decide) rfl (by decide) rfl (fm_dec dtX10_told 32 rfl) ?_
      rw [hl]
      refine fm_invV1 (k := 47) (d' := 0) (pc := 106) cv_X10_188 (by decide) rfl (Nat.le_of_ble_eq_true rfl) (by decide) (fm_dec dtX10_told 33 rfl) ?_
      refine c_pieces0 hst ?_
      refine fm_then1 ?_
      exact fm_ireturn (pc := 109) rfl (fm_dec dtX10_told 34 rfl) (by first | (have hq := hq M hi5; simpa [hl, h1, h2, h3, h5, h6, h7, h8] using hq) | (have hq := hq M hi5; rw [hl, h3]; exact hq))
    · refine fm_table (pc := 17) 110 (by decide) rfl (fm_dec dtX10_told 10 rfl) ?_
      refine fm_aloadn (pc := 110) (n := 2) 2 rfl rfl (fm_dec dtX10_told 35 rfl) ?_
      refine fm_getI (k := 47) (j := 4) (ci := 6) (pc := 111) fl_X10_191 (by decide) rfl (by decide) rfl (fm_dec dtX10_told 36 rfl) ?_
      exact fm_ireturn (pc := 114) rfl (fm_dec dtX10_told 37 rfl) (by first | (have hq := hq M hi5; simpa [hl, h1, h2, h3, h5, h6, h7, h8] using hq) | (have hq := hq M hi5; rw [hl, h3]; exact hq))
    · refine fm_table (pc := 17) 115 (by decide) rfl (fm_dec dtX10_told 10 rfl) ?_
      refine fm_aloadn (pc := 115) (n := 2) 2 rfl rfl (fm_dec dtX10_told 38 rfl) ?_
      refine fm_getI (k := 47) (j := 5) (ci := 6) (pc := 116) fl_X10_194 (by decide) rfl (by decide) rfl (fm_dec dtX10_told 39 rfl) ?_
      exact fm_ireturn (pc := 119) rfl (fm_dec dtX10_told 40 rfl) (by first | (have hq := hq M hi5; simpa [hl, h1, h2, h3, h5, h6, h7, h8] using hq) | (have hq := hq M hi5; rw [hl, h3]; exact hq))
    · refine fm_table (pc := 17) 120 (by decide) rfl (fm_dec dtX10_told 10 rfl) ?_
      refine fm_aloadn (pc := 120) (n := 0) 0 rfl rfl (fm_dec dtX10_told 41 rfl) ?_
      refine fm_getR (k := 0) (j := 4) (ci := 10) (pc := 121) 27 rfl fl_X10_36 (by decide) rfl (by decide) (by decide) (fm_dec dtX10_told 42 rfl) ?_
      refine fm_getI (k := 27) (j := 0) (ci := 2) (pc := 124) fl_X10_162 (by decide) rfl (by decide) rfl (fm_dec dtX10_told 43 rfl) ?_
      exact fm_ireturn (pc := 127) rfl (fm_dec dtX10_told 44 rfl) (by first | (have hq := hq M hi5; simpa [hl, h1, h2, h3, h5, h6, h7, h8] using hq) | (have hq := hq M hi5; rw [hl, h3]; exact hq))
    · refine fm_table (pc := 17) 128 (by decide) rfl (fm_dec dtX10_told 10 rfl) ?_
      refine fm_aloadn (pc := 128) (n := 0) 0 rfl rfl (fm_dec dtX10_told 45 rfl) ?_
      refine fm_getI (k := 0) (j := 14) (ci := 10) (pc := 129) fl_X10_132 (by decide) rfl (by decide) rfl (fm_dec dtX10_told 46 rfl) ?_
      exact fm_ireturn (pc := 132) rfl (fm_dec dtX10_told 47 rfl) (by first | (have hq := hq M hi5; simpa [hl, h1, h2, h3, h5, h6, h7, h8] using hq) | (have hq := hq M hi5; rw [hl, h3]; exact hq))
  · refine fm_thenX ?_
    exact hx _ hx5
