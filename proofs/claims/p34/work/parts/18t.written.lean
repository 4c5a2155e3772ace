-- WHEN IT WAS WRITTEN, exactly
def pgOk (ls : tC) : Prop := ∀ l ∈ ls, pgOne ls l.1 = Nat.beq l.2 1
theorem pgOk_add {ls : tC} {k b : Nat} (ho : pgOk ls) (hn : pgHas ls k = false) : pgOk (ls ++ [(k, b)]) := by
  have hne : ∀ l ∈ ls, ¬ l.1 = k := fun l hl e => by
    have h9 : pgHas ls k = true := List.any_eq_true.mpr ⟨l, hl, by rw [e]; exact Nat.beq_refl k⟩
    rw [hn] at h9
    cases h9
  have h1 : pgOne ls k = false := by
    cases e : pgOne ls k with
    | false => rfl
    | true =>
      obtain ⟨l, hl, g⟩ := List.any_eq_true.mp e
      rw [Bool.and_eq_true] at g
      exact absurd (Nat.eq_of_beq_eq_true g.1) (hne l hl)
  have ap : ∀ j, pgOne (ls ++ [(k, b)]) j = (pgOne ls j || (Nat.beq k j && Nat.beq b 1)) := fun j => by simp [pgOne]
  intro l hl
  rw [ap]
  rcases List.mem_append.mp hl with h | h
  · have e : Nat.beq k l.1 = false := by
      cases e9 : Nat.beq k l.1 with
      | false => rfl
      | true => exact absurd (Nat.eq_of_beq_eq_true e9).symm (hne l h)
    rw [e, ho l h, Bool.false_and, Bool.or_false]
  · rw [List.mem_singleton.mp h]
    show (pgOne ls k || (Nat.beq k k && Nat.beq b 1)) = Nat.beq b 1
    rw [h1, Nat.beq_refl, Bool.true_and, Bool.false_or]
theorem pgL_one {tx : tX} {n : Nat} : ∀ (f : Nat) (ls : tC) (p : Nat) (ls2 : tC), pgOk ls → pgL tx n f ls p = .inr ls2 → pgOk ls2
  | 0, _, _, _, _, h => by cases h
  | f + 1, ls, p, ls2, ho, h => by
    simp only [pgL] at h
    split at h
    · cases h
      exact ho
    · split at h
      · cases h
      · split at h
        · cases h
        · rename_i hn
          split at h
          · cases h
          · split at h
            · cases h
            · exact pgL_one f _ _ _ (pgOk_add ho (by simpa using hn)) h
theorem spPage_one {tx : tX} {n : Nat} {ls : tC} (h : spPage tx n = .inr ls) : pgOk ls := pgL_one 700 [] _ ls (fun l h => by cases h) h
/-- the facts b are as the page says -/
def pgFit (ls : tC) (b : Nat) : Bool := ls.all (fun l => b.testBit l.1 == Nat.beq l.2 1)
theorem xa6 : ∀ b, b < 64 → ∀ u, u < 64 → (nI b ^^^ nI u) = nI (b ^^^ u) ∧ b ^^^ u < 64 := by decide +kernel
theorem an6 : ∀ x, x < 64 → ∀ w, w < 64 → ((nI x &&& nI w) = (0 : Int32) ↔ ∀ k, k < 6 → (x.testBit k && w.testBit k) = false) := by decide +kernel
/-- a page, as it stands in the two memories -/
def pgX (M : fmM) (ls : tC) : Prop := (∃ w u : Nat, M.1 27 1 = nI w ∧ M.1 27 2 = nI u ∧ w < 64 ∧ u < 64 ∧ (∀ k, k < 6 → w.testBit k = pgHas ls k) ∧ (∀ k, k < 6 → u.testBit k = pgOne ls k)) ∧ (∀ l ∈ ls, l.1 < 6 ∧ l.2 ≤ 1) ∧ pgOk ls
def pgY (M : fmM) (ls : tC) : Prop := (M.1 0 31).toInt = (ls.length : Int) ∧ ls.length ≤ 6 ∧ lwHas M.1 411 ls
theorem fit_x {M : fmM} {ls : tC} {b : Nat} (h : pgX M ls) (hb : b < 64) : ((nI b ^^^ M.1 27 2) &&& M.1 27 1) = (0 : Int32) ↔ pgFit ls b = true := by
  obtain ⟨⟨w, u, e1, e2, hw, hu, h1, h2⟩, h3, ho⟩ := h
  rw [e1, e2, (xa6 b hb u hu).1, an6 _ (xa6 b hb u hu).2 w hw]
  constructor
  · intro h
    refine List.all_eq_true.mpr (fun l hl => ?_)
    have h6 := (h3 l hl).1
    have e := h l.1 h6
    have hh : pgHas ls l.1 = true := List.any_eq_true.mpr ⟨l, hl, Nat.beq_refl _⟩
    rw [Nat.testBit_xor, h1 _ h6, h2 _ h6, ho l hl, hh, Bool.and_true] at e
    rw [beq_iff_eq]
    revert e
    cases b.testBit l.1 <;> cases Nat.beq l.2 1 <;> decide
  · intro h k hk
    cases hw1 : w.testBit k with
    | false => rw [Bool.and_false]
    | true =>
      rw [h1 k hk] at hw1
      obtain ⟨l, hl, e⟩ := List.any_eq_true.mp hw1
      have e : l.1 = k := Nat.eq_of_beq_eq_true e
      have f := beq_iff_eq.mp (List.all_eq_true.mp h l hl)
      subst e
      rw [Nat.testBit_xor, h2 _ hk, ho l hl, f, Bool.and_true]
      cases Nat.beq l.2 1 <;> rfl
def wkS (F : Nat → Bool) : Nat → Int64
  | 0 => 0
  | n + 1 => if F n then wkS F n ||| 1 <<< ((nI n).toInt64 &&& 63) else wkS F n
theorem wk_t {F : Nat → Bool} {n : Nat} (h : F n = true) : wkS F (n + 1) = wkS F n ||| 1 <<< ((nI n).toInt64 &&& 63) := if_pos h
theorem wk_n {F : Nat → Bool} {n : Nat} (h : F n = false) : wkS F (n + 1) = wkS F n := if_neg (by rw [h]; decide)
def wrF (D : dD) (ls : tC) (li : Int) (n : Nat) : Bool := pgFit ls (fbA D li (n : Int))
def wrA (D : dD) (ls : tC) (li : Int) : Int64 := wkS (wrF D ls li) 61
theorem fbA_64 {D : dD} {li wk : Int} (hD : dOk D) : fbA D li wk < 64 := fb_64 hD _ (Nat.le_refl _)
set_option maxRecDepth 20000 in
theorem c_xfits {M : fmM} {Q : fmR → fmM → Prop} {x : Int32} (ht : ((x ^^^ M.1 27 2) &&& M.1 27 1) = (0 : Int32) → Q (.inl (some (.int 1))) M) (hf : ¬ ((x ^^^ M.1 27 2) &&& M.1 27 1) = (0 : Int32) → Q (.inl (some (.int 0))) M) : pvGood Tx 0 qX2_fits [.ref 27, .int x] M Q := by
  refine pvGood_of (Nat.le_of_ble_eq_true rfl) ?_
  show pvEv Tx 0 qX2_fits 0 [some (.ref 27), some (.int x)] [] M Q
  refine pv_iloadn (pc := 0) (n := 1) 1 rfl rfl (fm_dec dtX2_fits 0 rfl) ?_
  refine pv_aloadn (pc := 1) (n := 0) 0 rfl rfl (fm_dec dtX2_fits 1 rfl) ?_
  refine pv_getI (k := 27) (j := 2) (ci := 2) (pc := 2) pfl_X2_18 (by decide) rfl (by decide) (fm_dec dtX2_fits 2 rfl) ?_
  refine pv_ixor (pc := 5) (fm_dec dtX2_fits 3 rfl) ?_
  refine pv_aloadn (pc := 6) (n := 0) 0 rfl rfl (fm_dec dtX2_fits 4 rfl) ?_
  refine pv_getI (k := 27) (j := 1) (ci := 2) (pc := 7) pfl_X2_15 (by decide) rfl (by decide) (fm_dec dtX2_fits 5 rfl) ?_
  refine pv_iand (pc := 10) (fm_dec dtX2_fits 6 rfl) ?_
  refine pv_if_ne (pc := 11) 18 (by decide) (fm_dec dtX2_fits 7 rfl) (fun hc11 => ?_) (fun hc11 => ?_)
  · refine pv_iconst (pc := 18) (v := 0) (by decide) (fm_dec dtX2_fits 10 rfl) ?_
    exact pv_zreturn (pc := 19) rfl (by first | exact Or.inr rfl | exact Or.inl rfl) (fm_dec dtX2_fits 11 rfl) (by first | exact ht hc11 | exact hf hc11)
  · refine pv_iconst (pc := 14) (v := 1) (by decide) (fm_dec dtX2_fits 8 rfl) ?_
    refine pv_goto (pc := 15) 19 (by decide) (fm_dec dtX2_fits 9 rfl) ?_
    exact pv_zreturn (pc := 19) rfl (by first | exact Or.inr rfl | exact Or.inl rfl) (fm_dec dtX2_fits 11 rfl) (by first | exact ht hc11 | exact hf hc11)
set_option maxRecDepth 20000 in
theorem xwp_loop {Q : fmR → fmM → Prop} {M : fmM} {li : Int32} {D : dD} {ls : tC} (hD : dOk D) (hX : xdw 3 M D) (hP : pgX M ls) : ∀ (m : Nat) (n : Nat), n ≤ 61 → 61 - n = m → Q (.inl (some (.long (wrA D ls li.toInt)))) M → pvEv Tx 1 qX10_weeksAsPage 5 [some (.ref 0), some (.int li), some (.long (wkS (wrF D ls li.toInt) n)), none, some (.int (nI n))] [] M Q := by
  intro m
  induction m using Nat.strongRecOn with
  | _ m ih =>
    intro n hnD hm hq
    have hn9 : (nI n).toInt = (n : Int) := nI_toInt (by omega)
    have z60 : (60 : Int32).toInt = 60 := (by decide)
    refine pv_iload (pc := 5) (i := 4) rfl (fm_dec dtX10_weeksAsPage 4 rfl) ?_
    refine pv_bipush (pc := 7) (v := 60) (by decide) (fm_dec dtX10_weeksAsPage 5 rfl) ?_
    refine pv_icmp_gt (pc := 9) 45 (by decide) (fm_dec dtX10_weeksAsPage 6 rfl) (fun hc9 => ?_) (fun hc9 => ?_)
    · refine pv_lloadn (pc := 45) (n := 2) 2 rfl rfl (fm_dec dtX10_weeksAsPage 24 rfl) ?_
      exact pv_lreturn (pc := 46) rfl (fm_dec dtX10_weeksAsPage 25 rfl) (by have e9 : n = 61 := (by rw [sc_lt] at hc9; omega); subst e9; exact hq)
    · have hn : n < 61 := (by rw [sc_lt] at hc9; omega)
      refine pv_aloadn (pc := 12) (n := 0) 0 rfl rfl (fm_dec dtX10_weeksAsPage 7 rfl) ?_
      refine pv_getR (k := 0) (j := 4) (ci := 10) (pc := 13) 27 rfl (by decide) pfl_X10_36 (by decide) rfl (by decide) (fm_dec dtX10_weeksAsPage 8 rfl) ?_
      refine pv_aloadn (pc := 16) (n := 0) 0 rfl rfl (fm_dec dtX10_weeksAsPage 9 rfl) ?_
      refine pv_getR (k := 0) (j := 1) (ci := 10) (pc := 17) 3 rfl (by decide) pfl_X10_19 (by decide) rfl (by decide) (fm_dec dtX10_weeksAsPage 10 rfl) ?_
      refine pv_iloadn (pc := 20) (n := 1) 1 rfl rfl (fm_dec dtX10_weeksAsPage 11 rfl) ?_
      refine pv_iload (pc := 21) (i := 4) rfl (fm_dec dtX10_weeksAsPage 12 rfl) ?_
      refine pv_invV2 (k := 3) (d' := 0) (pc := 23) pcv_X10_225 (by decide) rfl (Nat.le_of_ble_eq_true rfl) (by decide) (fm_dec dtX10_weeksAsPage 13 rfl) ?_
      refine c_xfb hD hX ?_
      refine pv_then1 ?_
      refine pv_invV1 (k := 27) (d' := 0) (pc := 26) pcv_X10_394 (by decide) rfl (Nat.le_of_ble_eq_true rfl) (by decide) (fm_dec dtX10_weeksAsPage 14 rfl) ?_
      refine c_xfits (fun h26 => ?_) (fun h26 => ?_)
      · refine pv_then1 ?_
        refine pv_if_eq (pc := 29) 39 (by decide) (fm_dec dtX10_weeksAsPage 15 rfl) (fun hc29 => by exfalso; revert hc29; decide) (fun _ => ?_)
        refine pv_lloadn (pc := 32) (n := 2) 2 rfl rfl (fm_dec dtX10_weeksAsPage 16 rfl) ?_
        refine pv_lconst (pc := 33) (v := 1) (by decide) (fm_dec dtX10_weeksAsPage 17 rfl) ?_
        refine pv_iload (pc := 34) (i := 4) rfl (fm_dec dtX10_weeksAsPage 18 rfl) ?_
        refine pv_lshl (pc := 36) (fm_dec dtX10_weeksAsPage 19 rfl) ?_
        refine pv_lor (pc := 37) (fm_dec dtX10_weeksAsPage 20 rfl) ?_
        refine pv_lstoren (pc := 38) (n := 2) 2 rfl (by decide) rfl (fm_dec dtX10_weeksAsPage 21 rfl) ?_
        dsimp only [List.set_cons_zero, List.set_cons_succ]
        refine pv_iincc (pc := 39) 4 1 (by decide) rfl (by decide) rfl (fm_dec dtX10_weeksAsPage 22 rfl) ?_
        dsimp only [List.set_cons_zero, List.set_cons_succ]
        refine pv_goto (pc := 42) 5 (by decide) (fm_dec dtX10_weeksAsPage 23 rfl) ?_
        rw [hn9] at h26
        have e9 := wk_t (F := wrF D ls li.toInt) ((fit_x hP (fbA_64 hD)).mp h26)
        rw [nI_succ1, ← e9]
        exact ih (61 - (n + 1)) (by omega) (n + 1) (by omega) rfl hq
      · refine pv_then1 ?_
        refine pv_if_eq (pc := 29) 39 (by decide) (fm_dec dtX10_weeksAsPage 15 rfl) (fun _ => ?_) (fun hc29 => by exfalso; revert hc29; decide)
        refine pv_iincc (pc := 39) 4 1 (by decide) rfl (by decide) rfl (fm_dec dtX10_weeksAsPage 22 rfl) ?_
        dsimp only [List.set_cons_zero, List.set_cons_succ]
        refine pv_goto (pc := 42) 5 (by decide) (fm_dec dtX10_weeksAsPage 23 rfl) ?_
        rw [hn9] at h26
        have e9 := wk_n (F := wrF D ls li.toInt) (n := n) (Bool.eq_false_iff.mpr (fun h9 => h26 ((fit_x hP (fbA_64 hD)).mpr h9)))
        rw [nI_succ1, ← e9]
        exact ih (61 - (n + 1)) (by omega) (n + 1) (by omega) rfl hq
set_option maxRecDepth 20000 in
theorem c_xwap {M : fmM} {Q : fmR → fmM → Prop} {li : Int32} {D : dD} {ls : tC} (hD : dOk D) (hX : xdw 3 M D) (hP : pgX M ls) (hq : Q (.inl (some (.long (wrA D ls li.toInt)))) M) : pvGood Tx 1 qX10_weeksAsPage [.ref 0, .int li] M Q := by
  refine pvGood_of (Nat.le_of_ble_eq_true rfl) ?_
  show pvEv Tx 1 qX10_weeksAsPage 0 [some (.ref 0), some (.int li), none, none, none] [] M Q
  refine pv_lconst (pc := 0) (v := 0) (by decide) (fm_dec dtX10_weeksAsPage 0 rfl) ?_
  refine pv_lstoren (pc := 1) (n := 2) 2 rfl (by decide) rfl (fm_dec dtX10_weeksAsPage 1 rfl) ?_
  dsimp only [List.set_cons_zero, List.set_cons_succ]
  refine pv_iconst (pc := 2) (v := 0) (by decide) (fm_dec dtX10_weeksAsPage 2 rfl) ?_
  refine pv_istore (pc := 3) (i := 4) (by decide) rfl (fm_dec dtX10_weeksAsPage 3 rfl) ?_
  dsimp only [List.set_cons_zero, List.set_cons_succ]
  exact xwp_loop hD hX hP 61 0 (by decide) rfl hq
set_option maxRecDepth 20000 in
theorem c_xwritten {M : fmM} {Q : fmR → fmM → Prop} {li : Int32} {D : dD} {ls : tC} (hD : dOk D) (hX : xdw 3 M D) (hP : pgX M ls) (hn1 : ¬ inL D li → Q (.inr fmNSE) (fmI M 0 15 (M.1 0 15 + 1))) (hq : inL D li → Q (.inl (some (.long (wrA D ls li.toInt)))) M) : pvGood Tx 2 qX10_written [.ref 0, .int li] M Q := by
  refine pvGood_of (Nat.le_of_ble_eq_true rfl) ?_
  show pvEv Tx 2 qX10_written 0 [some (.ref 0), some (.int li)] [] M Q
  have hl9 : (M.1 3 9).toInt = (D.1 : Int) := hX.1.1
  refine pv_aloadn (pc := 0) (n := 0) 0 rfl rfl (fm_dec dtX10_written 0 rfl) ?_
  refine pv_iloadn (pc := 1) (n := 1) 1 rfl rfl (fm_dec dtX10_written 1 rfl) ?_
  refine pv_invV1 (k := 0) (d' := 0) (pc := 2) pcv_X10_197 (by decide) rfl (Nat.le_of_ble_eq_true rfl) (by decide) (fm_dec dtX10_written 2 rfl) ?_
  refine c_needL (fun h2a h2b => ?_) (fun h2 => ?_)
  · refine pv_then0 ?_
    refine pv_aloadn (pc := 5) (n := 0) 0 rfl rfl (fm_dec dtX10_written 3 rfl) ?_
    refine pv_iloadn (pc := 6) (n := 1) 1 rfl rfl (fm_dec dtX10_written 4 rfl) ?_
    refine pv_invV1 (k := 0) (d' := 1) (pc := 7) pcv_X10_338 (by decide) rfl (Nat.le_of_ble_eq_true rfl) (by decide) (fm_dec dtX10_written 5 rfl) ?_
    refine c_xwap hD hX hP ?_
    refine pv_then1 ?_
    exact pv_lreturn (pc := 10) rfl (fm_dec dtX10_written 6 rfl) (hq ⟨h2a, by omega⟩)
  · refine pv_thenX ?_
    exact hn1 (fun h8 => h2 ⟨h8.1, by have := h8.2; omega⟩)
theorem sh6 : ∀ b, b < 64 → ∀ k, k < 6 → (nI b >>> (nI k &&& 31) &&& 1) = bI (b.testBit k) := by decide +kernel
theorem bI_n : ∀ b, b < 2 → nI b = bI (Nat.beq b 1) := by decide +kernel
theorem pf_s {ls : tC} {b j : Nat} {l : Nat × Nat} (h : ls[j]? = some l) : pgFit (ls.take (j + 1)) b = (pgFit (ls.take j) b && (b.testBit l.1 == Nat.beq l.2 1)) := by
  unfold pgFit
  rw [List.take_add_one, h, List.all_append]
  simp
set_option maxRecDepth 20000 in
theorem mw_in {Q : fmR → fmM → Prop} {M : fmM} {li : Int32} {D : dD} {ls : tC} {n : Nat} {acc : Int64} (hD : dOk D) (hY : mdw M D) (hG : pgY M ls) (hL : ∀ l ∈ ls, l.1 < 6 ∧ l.2 ≤ 1) (hq : ∀ v6 : Option Value, pvEv Tm 1 qX11_writtenOf 76 [some (.ref 0), some (.int li), some (.long acc), none, some (.int (nI n)), some (.int (bI (pgFit ls (fbA D li.toInt (nI n).toInt)))), v6] [] M Q) : ∀ (m : Nat) (j : Nat), j ≤ ls.length → ls.length - j = m → pvEv Tm 1 qX11_writtenOf 18 [some (.ref 0), some (.int li), some (.long acc), none, some (.int (nI n)), some (.int (bI (pgFit (ls.take j) (fbA D li.toInt (nI n).toInt)))), some (.int (nI j))] [] M Q := by
  intro m
  induction m using Nat.strongRecOn with
  | _ m ih =>
    intro j hjn hm
    have hj9 : (nI j).toInt = (j : Int) := nI_toInt (by have := hG.2.1; omega)
    have g31 : (M.1 0 31).toInt = (ls.length : Int) := hG.1
    have h6 := hG.2.1
    refine pv_iload (pc := 18) (i := 6) rfl (fm_dec dtX11_writtenOf 11 rfl) ?_
    refine pv_aloadn (pc := 20) (n := 0) 0 rfl rfl (fm_dec dtX11_writtenOf 12 rfl) ?_
    refine pv_getI (k := 0) (j := 31) (ci := 11) (pc := 21) pfl_X11_197 (by decide) rfl (by decide) (fm_dec dtX11_writtenOf 13 rfl) ?_
    refine pv_icmp_ge (pc := 24) 76 (by decide) (fm_dec dtX11_writtenOf 14 rfl) (fun hc24 => ?_) (fun hc24 => ?_)
    · have e9 : j = ls.length := (by rw [sc_le] at hc24; omega)
      subst e9
      have e8 : ls.take ls.length = ls := List.take_length
      rw [e8]
      exact hq _
    · have hj : j < ls.length := (by rw [sc_le] at hc24; omega)
      have hj6 : j < 6 := (by omega)
      obtain ⟨l, hl⟩ : ∃ l, ls[j]? = some l := ⟨_, List.getElem?_eq_getElem hj⟩
      have hlm := List.mem_of_getElem? hl
      have hl6 := hL l hlm
      have hg := hG.2.2 j l hl
      have g0 : M.1 (411 + j) (Int32.toNatClampNeg 0) = nI l.1 := nI_is hg.1 (by omega)
      have g1 : M.1 (411 + j) (Int32.toNatClampNeg 1) = nI l.2 := nI_is hg.2 (by omega)
      refine pv_iload (pc := 27) (i := 5) rfl (fm_dec dtX11_writtenOf 15 rfl) ?_
      refine pv_if_eq (pc := 29) 67 (by decide) (fm_dec dtX11_writtenOf 16 rfl) (fun hc29 => ?_) (fun hc29 => ?_)
      · refine pv_iconst (pc := 67) (v := 0) (by decide) (fm_dec dtX11_writtenOf 39 rfl) ?_
        refine pv_istore (pc := 68) (i := 5) (by decide) rfl (fm_dec dtX11_writtenOf 40 rfl) ?_
        dsimp only [List.set_cons_zero, List.set_cons_succ]
        refine pv_iincc (pc := 70) 6 1 (by decide) rfl (by decide) rfl (fm_dec dtX11_writtenOf 41 rfl) ?_
        dsimp only [List.set_cons_zero, List.set_cons_succ]
        refine pv_goto (pc := 73) 18 (by decide) (fm_dec dtX11_writtenOf 42 rfl) ?_
        have hf : pgFit (ls.take j) (fbA D li.toInt (nI n).toInt) = false := bI_0.mp hc29
        have e9 : pgFit (ls.take (j + 1)) (fbA D li.toInt (nI n).toInt) = false := (by rw [pf_s hl, hf, Bool.false_and])
        rw [nI_succ1]
        have e8 : bI (pgFit (ls.take (j + 1)) (fbA D li.toInt (nI n).toInt)) = 0 := bI_0.mpr e9
        have h9 := ih (ls.length - (j + 1)) (by omega) (j + 1) (by omega) rfl
        rw [e8] at h9
        exact h9
      · have ht : pgFit (ls.take j) (fbA D li.toInt (nI n).toInt) = true := (by cases h9 : pgFit (ls.take j) (fbA D li.toInt (nI n).toInt) with | true => rfl | false => exact absurd (bI_0.mpr h9) hc29)
        have eq9 : ((nI (fbA D li.toInt (nI n).toInt) >>> (M.1 (411 + j) (Int32.toNatClampNeg 0) &&& 31) &&& 1) = M.1 (411 + j) (Int32.toNatClampNeg 1) ↔ (fbA D li.toInt (nI n).toInt).testBit l.1 = Nat.beq l.2 1) := (by rw [g0, g1, sh6 _ (fbA_64 hD) _ hl6.1, bI_n l.2 (by have := hl6.2; omega), bI_e])
        refine pv_aloadn (pc := 32) (n := 0) 0 rfl rfl (fm_dec dtX11_writtenOf 17 rfl) ?_
        refine pv_iloadn (pc := 33) (n := 1) 1 rfl rfl (fm_dec dtX11_writtenOf 18 rfl) ?_
        refine pv_iload (pc := 34) (i := 4) rfl (fm_dec dtX11_writtenOf 19 rfl) ?_
        refine pv_invV2 (k := 0) (d' := 0) (pc := 36) pcv_X11_334 (by decide) rfl (Nat.le_of_ble_eq_true rfl) (by decide) (fm_dec dtX11_writtenOf 20 rfl) ?_
        refine c_mfb hD hY ?_
        refine pv_then1 ?_
        refine pv_aloadn (pc := 39) (n := 0) 0 rfl rfl (fm_dec dtX11_writtenOf 21 rfl) ?_
        refine pv_getR (k := 0) (j := 21) (ci := 11) (pc := 40) 22 rfl (by decide) pfl_X11_46 (by decide) rfl (by decide) (fm_dec dtX11_writtenOf 22 rfl) ?_
        refine pv_iload (pc := 43) (i := 6) rfl (fm_dec dtX11_writtenOf 23 rfl) ?_
        refine pv_aald (k := 22) (n := 6) (r := (411 + j)) (pc := 45) (by decide) (Or.inr (Or.inr rfl)) rfl (rw_page.inb hj9 hj6) (rw_page.at hj9 hj6) (rw_page.2.2.2 _ hj6).2.1 (fm_dec dtX11_writtenOf 24 rfl) ?_
        refine pv_iconst (pc := 46) (v := 0) (by decide) (fm_dec dtX11_writtenOf 25 rfl) ?_
        refine pv_iald (k := (411 + j)) (n := 2) (pc := 47) (rw_page.2.2.2 _ hj6).2.2.1 (rw_page.2.2.2 _ hj6).2.2.2.1 (rw_page.2.2.2 _ hj6).2.2.2.2 (fm_inl (by decide)) (fm_dec dtX11_writtenOf 26 rfl) ?_
        refine pv_ishr (pc := 48) (fm_dec dtX11_writtenOf 27 rfl) ?_
        refine pv_iconst (pc := 49) (v := 1) (by decide) (fm_dec dtX11_writtenOf 28 rfl) ?_
        refine pv_iand (pc := 50) (fm_dec dtX11_writtenOf 29 rfl) ?_
        refine pv_aloadn (pc := 51) (n := 0) 0 rfl rfl (fm_dec dtX11_writtenOf 30 rfl) ?_
        refine pv_getR (k := 0) (j := 21) (ci := 11) (pc := 52) 22 rfl (by decide) pfl_X11_46 (by decide) rfl (by decide) (fm_dec dtX11_writtenOf 31 rfl) ?_
        refine pv_iload (pc := 55) (i := 6) rfl (fm_dec dtX11_writtenOf 32 rfl) ?_
        refine pv_aald (k := 22) (n := 6) (r := (411 + j)) (pc := 57) (by decide) (Or.inr (Or.inr rfl)) rfl (rw_page.inb hj9 hj6) (rw_page.at hj9 hj6) (rw_page.2.2.2 _ hj6).2.1 (fm_dec dtX11_writtenOf 33 rfl) ?_
        refine pv_iconst (pc := 58) (v := 1) (by decide) (fm_dec dtX11_writtenOf 34 rfl) ?_
        refine pv_iald (k := (411 + j)) (n := 2) (pc := 59) (rw_page.2.2.2 _ hj6).2.2.1 (rw_page.2.2.2 _ hj6).2.2.2.1 (rw_page.2.2.2 _ hj6).2.2.2.2 (fm_inl (by decide)) (fm_dec dtX11_writtenOf 35 rfl) ?_
        refine pv_icmp_ne (pc := 60) 67 (by decide) (fm_dec dtX11_writtenOf 36 rfl) (fun hc60 => ?_) (fun hc60 => ?_)
        · refine pv_iconst (pc := 67) (v := 0) (by decide) (fm_dec dtX11_writtenOf 39 rfl) ?_
          refine pv_istore (pc := 68) (i := 5) (by decide) rfl (fm_dec dtX11_writtenOf 40 rfl) ?_
          dsimp only [List.set_cons_zero, List.set_cons_succ]
          refine pv_iincc (pc := 70) 6 1 (by decide) rfl (by decide) rfl (fm_dec dtX11_writtenOf 41 rfl) ?_
          dsimp only [List.set_cons_zero, List.set_cons_succ]
          refine pv_goto (pc := 73) 18 (by decide) (fm_dec dtX11_writtenOf 42 rfl) ?_
          have hf := mt eq9.mpr hc60
          have e9 : pgFit (ls.take (j + 1)) (fbA D li.toInt (nI n).toInt) = false := (by rw [pf_s hl, ht, Bool.true_and]; exact beq_eq_false_iff_ne.mpr hf)
          rw [nI_succ1]
          have e8 : bI (pgFit (ls.take (j + 1)) (fbA D li.toInt (nI n).toInt)) = 0 := bI_0.mpr e9
          have h9 := ih (ls.length - (j + 1)) (by omega) (j + 1) (by omega) rfl
          rw [e8] at h9
          exact h9
        · refine pv_iconst (pc := 63) (v := 1) (by decide) (fm_dec dtX11_writtenOf 37 rfl) ?_
          refine pv_goto (pc := 64) 68 (by decide) (fm_dec dtX11_writtenOf 38 rfl) ?_
          refine pv_istore (pc := 68) (i := 5) (by decide) rfl (fm_dec dtX11_writtenOf 40 rfl) ?_
          dsimp only [List.set_cons_zero, List.set_cons_succ]
          refine pv_iincc (pc := 70) 6 1 (by decide) rfl (by decide) rfl (fm_dec dtX11_writtenOf 41 rfl) ?_
          dsimp only [List.set_cons_zero, List.set_cons_succ]
          refine pv_goto (pc := 73) 18 (by decide) (fm_dec dtX11_writtenOf 42 rfl) ?_
          have hf := eq9.mp hc60
          have e9 : pgFit (ls.take (j + 1)) (fbA D li.toInt (nI n).toInt) = true := (by rw [pf_s hl, ht, Bool.true_and]; exact beq_iff_eq.mpr hf)
          rw [nI_succ1]
          have e8 : bI (pgFit (ls.take (j + 1)) (fbA D li.toInt (nI n).toInt)) = 1 := (by rw [e9]; rfl)
          have h9 := ih (ls.length - (j + 1)) (by omega) (j + 1) (by omega) rfl
          rw [e8] at h9
          exact h9
set_option maxRecDepth 20000 in
theorem mw_loop {Q : fmR → fmM → Prop} {M : fmM} {li : Int32} {D : dD} {ls : tC} (hD : dOk D) (hY : mdw M D) (hG : pgY M ls) (hL : ∀ l ∈ ls, l.1 < 6 ∧ l.2 ≤ 1) : ∀ (m : Nat) (n : Nat) (v5 v6 : Option Value), n ≤ 61 → 61 - n = m → Q (.inl (some (.long (wrA D ls li.toInt)))) M → pvEv Tm 1 qX11_writtenOf 5 [some (.ref 0), some (.int li), some (.long (wkS (wrF D ls li.toInt) n)), none, some (.int (nI n)), v5, v6] [] M Q := by
  intro m
  induction m using Nat.strongRecOn with
  | _ m ih =>
    intro n v5 v6 hnD hm hq
    have hn9 : (nI n).toInt = (n : Int) := nI_toInt (by omega)
    have z60 : (60 : Int32).toInt = 60 := (by decide)
    refine pv_iload (pc := 5) (i := 4) rfl (fm_dec dtX11_writtenOf 4 rfl) ?_
    refine pv_bipush (pc := 7) (v := 60) (by decide) (fm_dec dtX11_writtenOf 5 rfl) ?_
    refine pv_icmp_gt (pc := 9) 98 (by decide) (fm_dec dtX11_writtenOf 6 rfl) (fun hc9 => ?_) (fun hc9 => ?_)
    · refine pv_lloadn (pc := 98) (n := 2) 2 rfl rfl (fm_dec dtX11_writtenOf 55 rfl) ?_
      exact pv_lreturn (pc := 99) rfl (fm_dec dtX11_writtenOf 56 rfl) (by have e9 : n = 61 := (by rw [sc_lt] at hc9; omega); subst e9; exact hq)
    · have hn : n < 61 := (by rw [sc_lt] at hc9; omega)
      refine pv_iconst (pc := 12) (v := 1) (by decide) (fm_dec dtX11_writtenOf 7 rfl) ?_
      refine pv_istore (pc := 13) (i := 5) (by decide) rfl (fm_dec dtX11_writtenOf 8 rfl) ?_
      dsimp only [List.set_cons_zero, List.set_cons_succ]
      refine pv_iconst (pc := 15) (v := 0) (by decide) (fm_dec dtX11_writtenOf 9 rfl) ?_
      refine pv_istore (pc := 16) (i := 6) (by decide) rfl (fm_dec dtX11_writtenOf 10 rfl) ?_
      dsimp only [List.set_cons_zero, List.set_cons_succ]
      refine mw_in hD hY hG hL (fun v6 => ?_) ls.length 0 (by omega) (by omega)
      refine pv_lloadn (pc := 76) (n := 2) 2 rfl rfl (fm_dec dtX11_writtenOf 43 rfl) ?_
      refine pv_iload (pc := 77) (i := 5) rfl (fm_dec dtX11_writtenOf 44 rfl) ?_
      refine pv_if_eq (pc := 79) 89 (by decide) (fm_dec dtX11_writtenOf 45 rfl) (fun hc79 => ?_) (fun hc79 => ?_)
      · refine pv_lconst (pc := 89) (v := 0) (by decide) (fm_dec dtX11_writtenOf 50 rfl) ?_
        refine pv_lor (pc := 90) (fm_dec dtX11_writtenOf 51 rfl) ?_
        refine pv_lstoren (pc := 91) (n := 2) 2 rfl (by decide) rfl (fm_dec dtX11_writtenOf 52 rfl) ?_
        dsimp only [List.set_cons_zero, List.set_cons_succ]
        refine pv_iincc (pc := 92) 4 1 (by decide) rfl (by decide) rfl (fm_dec dtX11_writtenOf 53 rfl) ?_
        dsimp only [List.set_cons_zero, List.set_cons_succ]
        refine pv_goto (pc := 95) 5 (by decide) (fm_dec dtX11_writtenOf 54 rfl) ?_
        rw [hn9] at hc79
        have e9 := wk_n (F := wrF D ls li.toInt) (n := n) (bI_0.mp hc79)
        rw [nI_succ1, Int64.or_zero, ← e9]
        exact ih (61 - (n + 1)) (by omega) (n + 1) _ _ (by omega) rfl hq
      · refine pv_lconst (pc := 82) (v := 1) (by decide) (fm_dec dtX11_writtenOf 46 rfl) ?_
        refine pv_iload (pc := 83) (i := 4) rfl (fm_dec dtX11_writtenOf 47 rfl) ?_
        refine pv_lshl (pc := 85) (fm_dec dtX11_writtenOf 48 rfl) ?_
        refine pv_goto (pc := 86) 90 (by decide) (fm_dec dtX11_writtenOf 49 rfl) ?_
        refine pv_lor (pc := 90) (fm_dec dtX11_writtenOf 51 rfl) ?_
        refine pv_lstoren (pc := 91) (n := 2) 2 rfl (by decide) rfl (fm_dec dtX11_writtenOf 52 rfl) ?_
        dsimp only [List.set_cons_zero, List.set_cons_succ]
        refine pv_iincc (pc := 92) 4 1 (by decide) rfl (by decide) rfl (fm_dec dtX11_writtenOf 53 rfl) ?_
        dsimp only [List.set_cons_zero, List.set_cons_succ]
        refine pv_goto (pc := 95) 5 (by decide) (fm_dec dtX11_writtenOf 54 rfl) ?_
        rw [hn9] at hc79
        have e9 := wk_t (F := wrF D ls li.toInt) (n := n) (by cases h9 : wrF D ls li.toInt n with | true => rfl | false => exact absurd (bI_0.mpr h9) hc79)
        rw [nI_succ1, ← e9]
        exact ih (61 - (n + 1)) (by omega) (n + 1) _ _ (by omega) rfl hq
set_option maxRecDepth 20000 in
theorem c_mwo {M : fmM} {Q : fmR → fmM → Prop} {li : Int32} {D : dD} {ls : tC} (hD : dOk D) (hY : mdw M D) (hG : pgY M ls) (hL : ∀ l ∈ ls, l.1 < 6 ∧ l.2 ≤ 1) (hq : Q (.inl (some (.long (wrA D ls li.toInt)))) M) : pvGood Tm 1 qX11_writtenOf [.ref 0, .int li] M Q := by
  refine pvGood_of (Nat.le_of_ble_eq_true rfl) ?_
  show pvEv Tm 1 qX11_writtenOf 0 [some (.ref 0), some (.int li), none, none, none, none, none] [] M Q
  refine pv_lconst (pc := 0) (v := 0) (by decide) (fm_dec dtX11_writtenOf 0 rfl) ?_
  refine pv_lstoren (pc := 1) (n := 2) 2 rfl (by decide) rfl (fm_dec dtX11_writtenOf 1 rfl) ?_
  dsimp only [List.set_cons_zero, List.set_cons_succ]
  refine pv_iconst (pc := 2) (v := 0) (by decide) (fm_dec dtX11_writtenOf 2 rfl) ?_
  refine pv_istore (pc := 3) (i := 4) (by decide) rfl (fm_dec dtX11_writtenOf 3 rfl) ?_
  dsimp only [List.set_cons_zero, List.set_cons_succ]
  exact mw_loop hD hY hG hL 61 0 _ _ (by decide) rfl hq
theorem mdw_0 {M : fmM} {D : dD} {x : Int32} (hY : mdw M D) : mdw (fmI M 0 0 x) D := ⟨hY.1, hY.2.1, hY.2.2.1, fun i hi j hj => (by rw [fmI_k _ _ (by omega)]; exact hY.2.2.2.1 i hi j hj), fun i hi j hj => (by rw [fmI_k _ _ (by omega)]; exact hY.2.2.2.2 i hi j hj)⟩
theorem pgY_0 {M : fmM} {ls : tC} {x : Int32} (hG : pgY M ls) : pgY (fmI M 0 0 x) ls := ⟨hG.1, hG.2.1, fun i c h => (by rw [fmI_k _ _ (by omega)]; exact hG.2.2 i c h)⟩
set_option maxRecDepth 20000 in
theorem c_mwritten {M : fmM} {Q : fmR → fmM → Prop} {i : Int32} {D : dD} {ls : tC} (hD : dOk D) (hY : mdw M D) (hG : pgY M ls) (hL : ∀ l ∈ ls, l.1 < 6 ∧ l.2 ≤ 1) (hn1 : ¬ inL D i → ∀ (x : Int64) (M' : fmM), M'.1 0 0 = 1 → Q (.inl (some (.long x))) M') (hq : inL D i → Q (.inl (some (.long (wrA D ls i.toInt)))) (fmI M 0 0 0)) : pvGood Tm 2 qX11_written [.ref 0, .int i] M Q := by
  refine pvGood_of (Nat.le_of_ble_eq_true rfl) ?_
  show pvEv Tm 2 qX11_written 0 [some (.ref 0), some (.int i)] [] M Q
  have h4 : (M.1 4 0).toInt = (D.1 : Int) := hY.1
  have hl := hD.1
  refine pv_aloadn (pc := 0) (n := 0) 0 rfl rfl (fm_dec dtX11_written 0 rfl) ?_
  refine pv_iconst (pc := 1) (v := 0) (by decide) (fm_dec dtX11_written 1 rfl) ?_
  refine pv_putI (k := 0) (j := 0) (ci := 11) (pc := 2) pfl_X11_101 (by decide) rfl (by decide) (fm_dec dtX11_written 2 rfl) ?_
  refine pv_aloadn (pc := 5) (n := 0) 0 rfl rfl (fm_dec dtX11_written 3 rfl) ?_
  refine pv_aloadn (pc := 6) (n := 0) 0 rfl rfl (fm_dec dtX11_written 4 rfl) ?_
  refine pv_iloadn (pc := 7) (n := 1) 1 rfl rfl (fm_dec dtX11_written 5 rfl) ?_
  refine pv_invV1 (k := 0) (d' := 1) (pc := 8) pcv_X11_331 (by decide) rfl (Nat.le_of_ble_eq_true rfl) (by decide) (fm_dec dtX11_written 6 rfl) ?_
  refine c_isLife (M := fmI M 0 0 0) h4 hl (fun k hk hkl => ?_) (fun hno => ?_)
  · refine pv_then1 ?_
    refine pv_if_ne (pc := 11) 18 (by decide) (fm_dec dtX11_written 7 rfl) (fun _ => ?_) (fun hc11 => by exfalso; revert hc11; decide)
    refine pv_iconst (pc := 18) (v := 0) (by decide) (fm_dec dtX11_written 10 rfl) ?_
    refine pv_iconst (pc := 19) (v := 1) (by decide) (fm_dec dtX11_written 11 rfl) ?_
    refine pv_iconst (pc := 20) (v := 0) (by decide) (fm_dec dtX11_written 12 rfl) ?_
    refine pv_invV3 (k := 0) (d' := 0) (pc := 21) pcv_X11_177 (by decide) rfl (Nat.le_of_ble_eq_true rfl) (by decide) (fm_dec dtX11_written 13 rfl) ?_
    refine c_badF0 rfl ?_
    refine pv_then1 ?_
    refine pv_if_eq (pc := 24) 29 (by decide) (fm_dec dtX11_written 14 rfl) (fun _ => ?_) (fun hc24 => by exfalso; revert hc24; decide)
    refine pv_aloadn (pc := 29) (n := 0) 0 rfl rfl (fm_dec dtX11_written 17 rfl) ?_
    refine pv_iloadn (pc := 30) (n := 1) 1 rfl rfl (fm_dec dtX11_written 18 rfl) ?_
    refine pv_invV1 (k := 0) (d' := 1) (pc := 31) pcv_X11_419 (by decide) rfl (Nat.le_of_ble_eq_true rfl) (by decide) (fm_dec dtX11_written 19 rfl) ?_
    refine c_mwo hD (mdw_0 hY) (pgY_0 hG) hL ?_
    refine pv_then1 ?_
    exact pv_lreturn (pc := 34) rfl (fm_dec dtX11_written 20 rfl) (hq ⟨by omega, by omega⟩)
  · refine pv_then1 ?_
    refine pv_if_ne (pc := 11) 18 (by decide) (fm_dec dtX11_written 7 rfl) (fun hc11 => by exfalso; revert hc11; decide) (fun _ => ?_)
    refine pv_iconst (pc := 14) (v := 1) (by decide) (fm_dec dtX11_written 8 rfl) ?_
    refine pv_goto (pc := 15) 19 (by decide) (fm_dec dtX11_written 9 rfl) ?_
    refine pv_iconst (pc := 19) (v := 1) (by decide) (fm_dec dtX11_written 11 rfl) ?_
    refine pv_iconst (pc := 20) (v := 0) (by decide) (fm_dec dtX11_written 12 rfl) ?_
    refine pv_invV3 (k := 0) (d' := 0) (pc := 21) pcv_X11_177 (by decide) rfl (Nat.le_of_ble_eq_true rfl) (by decide) (fm_dec dtX11_written 13 rfl) ?_
    refine c_badT0 rfl (by decide) ?_
    refine pv_then1 ?_
    refine pv_if_eq (pc := 24) 29 (by decide) (fm_dec dtX11_written 14 rfl) (fun hc24 => by exfalso; revert hc24; decide) (fun _ => ?_)
    refine pv_lconst (pc := 27) (v := 0) (by decide) (fm_dec dtX11_written 15 rfl) ?_
    exact pv_lreturn (pc := 28) rfl (fm_dec dtX11_written 16 rfl) (hn1 hno _ _ rfl)
def whS (D : dD) (ls : tC) : Nat → Nat
  | 0 => 0
  | n + 1 => if wrA D ls (n : Int) = 0 then whS D ls n else whS D ls n ||| 1 <<< n
theorem wh_n {D : dD} {ls : tC} {n : Nat} (h : wrA D ls (n : Int) = 0) : whS D ls (n + 1) = whS D ls n := if_pos h
theorem wh_t {D : dD} {ls : tC} {n : Nat} (h : ¬ wrA D ls (n : Int) = 0) : whS D ls (n + 1) = whS D ls n ||| 1 <<< n := if_neg h
theorem or8b : ∀ w, w < 256 → ∀ k, k < 8 → w ||| 1 <<< k < 256 := by decide +kernel
theorem wh_8 {D : dD} {ls : tC} : ∀ n, n ≤ 8 → whS D ls n < 256 := by
  intro n
  induction n with
  | zero => intro _; exact (by decide : (0 : Nat) < 256)
  | succ n ih =>
    intro hn
    have h1 := ih (by omega)
    by_cases h : wrA D ls (n : Int) = 0
    · rw [wh_n h]
      exact h1
    · rw [wh_t h]
      exact or8b _ h1 n (by omega)
theorem lc_0 {x : Int64} : lg_cmp x 0 = 0 ↔ x = 0 := by
  unfold lg_cmp
  split
  · rename_i h
    constructor
    · intro h9
      exact absurd h9 (by decide)
    · intro h9
      rw [h9] at h
      exact absurd h (by decide)
  · split
    · rename_i h
      exact ⟨fun _ => h, fun _ => rfl⟩
    · rename_i h
      exact ⟨fun h9 => absurd h9 (by decide), fun h9 => absurd h9 h⟩
set_option maxRecDepth 20000 in
theorem xoo_loop {Q : fmR → fmM → Prop} {M : fmM} {D : dD} {ls : tC} (hD : dOk D) (hX : xdw 3 M D) (hP : pgX M ls) : ∀ (m : Nat) (n : Nat), n ≤ D.1 → D.1 - n = m → Q (.inl (some (.int (nI (whS D ls D.1))))) M → pvEv Tx 2 qX10_whose 4 [some (.ref 0), some (.int (nI (whS D ls n))), some (.int (nI n))] [] M Q := by
  intro m
  induction m using Nat.strongRecOn with
  | _ m ih =>
    intro n hnD hm hq
    have d8 := hD.1
    have hn9 : (nI n).toInt = (n : Int) := nI_toInt (by omega)
    have h39 : (M.1 3 9).toInt = (D.1 : Int) := hX.1.1
    refine pv_iloadn (pc := 4) (n := 2) 2 rfl rfl (fm_dec dtX10_whose 4 rfl) ?_
    refine pv_aloadn (pc := 5) (n := 0) 0 rfl rfl (fm_dec dtX10_whose 5 rfl) ?_
    refine pv_getR (k := 0) (j := 1) (ci := 10) (pc := 6) 3 rfl (by decide) pfl_X10_19 (by decide) rfl (by decide) (fm_dec dtX10_whose 6 rfl) ?_
    refine pv_getI (k := 3) (j := 9) (ci := 8) (pc := 9) pfl_X10_138 (by decide) rfl (by decide) (fm_dec dtX10_whose 7 rfl) ?_
    refine pv_icmp_ge (pc := 12) 37 (by decide) (fm_dec dtX10_whose 8 rfl) (fun hc12 => ?_) (fun hc12 => ?_)
    · refine pv_iloadn (pc := 37) (n := 1) 1 rfl rfl (fm_dec dtX10_whose 23 rfl) ?_
      exact pv_ireturn (pc := 38) rfl (fm_dec dtX10_whose 24 rfl) (by have e9 : n = D.1 := (by rw [sc_le] at hc12; omega); subst e9; exact hq)
    · have hn : n < D.1 := (by rw [sc_le] at hc12; omega)
      refine pv_aloadn (pc := 15) (n := 0) 0 rfl rfl (fm_dec dtX10_whose 9 rfl) ?_
      refine pv_iloadn (pc := 16) (n := 2) 2 rfl rfl (fm_dec dtX10_whose 10 rfl) ?_
      refine pv_invV1 (k := 0) (d' := 1) (pc := 17) pcv_X10_338 (by decide) rfl (Nat.le_of_ble_eq_true rfl) (by decide) (fm_dec dtX10_whose 11 rfl) ?_
      refine c_xwap hD hX hP ?_
      refine pv_then1 ?_
      refine pv_lconst (pc := 20) (v := 0) (by decide) (fm_dec dtX10_whose 12 rfl) ?_
      refine pv_lcmp (pc := 21) (fm_dec dtX10_whose 13 rfl) ?_
      refine pv_if_eq (pc := 22) 31 (by decide) (fm_dec dtX10_whose 14 rfl) (fun hc22 => ?_) (fun hc22 => ?_)
      · refine pv_iincc (pc := 31) 2 1 (by decide) rfl (by decide) rfl (fm_dec dtX10_whose 21 rfl) ?_
        dsimp only [List.set_cons_zero, List.set_cons_succ]
        refine pv_goto (pc := 34) 4 (by decide) (fm_dec dtX10_whose 22 rfl) ?_
        have e9 := wh_n (by have h9 := lc_0.mp hc22; rw [hn9] at h9; exact h9)
        rw [nI_succ1, ← e9]
        exact ih (D.1 - (n + 1)) (by omega) (n + 1) (by omega) rfl hq
      · refine pv_iloadn (pc := 25) (n := 1) 1 rfl rfl (fm_dec dtX10_whose 15 rfl) ?_
        refine pv_iconst (pc := 26) (v := 1) (by decide) (fm_dec dtX10_whose 16 rfl) ?_
        refine pv_iloadn (pc := 27) (n := 2) 2 rfl rfl (fm_dec dtX10_whose 17 rfl) ?_
        refine pv_ishl (pc := 28) (fm_dec dtX10_whose 18 rfl) ?_
        refine pv_ior (pc := 29) (fm_dec dtX10_whose 19 rfl) ?_
        refine pv_istoren (pc := 30) (n := 1) 1 rfl (by decide) rfl (fm_dec dtX10_whose 20 rfl) ?_
        dsimp only [List.set_cons_zero, List.set_cons_succ]
        refine pv_iincc (pc := 31) 2 1 (by decide) rfl (by decide) rfl (fm_dec dtX10_whose 21 rfl) ?_
        dsimp only [List.set_cons_zero, List.set_cons_succ]
        refine pv_goto (pc := 34) 4 (by decide) (fm_dec dtX10_whose 22 rfl) ?_
        have e9 := wh_t (by intro h9; apply hc22; rw [lc_0, hn9]; exact h9)
        rw [nI_succ1, or8 _ (wh_8 n (by omega)) n (by omega), ← e9]
        exact ih (D.1 - (n + 1)) (by omega) (n + 1) (by omega) rfl hq
set_option maxRecDepth 20000 in
theorem c_xwhose {M : fmM} {Q : fmR → fmM → Prop} {D : dD} {ls : tC} (hD : dOk D) (hX : xdw 3 M D) (hP : pgX M ls) (hq : Q (.inl (some (.int (nI (whS D ls D.1))))) M) : pvGood Tx 2 qX10_whose [.ref 0] M Q := by
  refine pvGood_of (Nat.le_of_ble_eq_true rfl) ?_
  show pvEv Tx 2 qX10_whose 0 [some (.ref 0), none, none] [] M Q
  refine pv_iconst (pc := 0) (v := 0) (by decide) (fm_dec dtX10_whose 0 rfl) ?_
  refine pv_istoren (pc := 1) (n := 1) 1 rfl (by decide) rfl (fm_dec dtX10_whose 1 rfl) ?_
  dsimp only [List.set_cons_zero, List.set_cons_succ]
  refine pv_iconst (pc := 2) (v := 0) (by decide) (fm_dec dtX10_whose 2 rfl) ?_
  refine pv_istoren (pc := 3) (n := 2) 2 rfl (by decide) rfl (fm_dec dtX10_whose 3 rfl) ?_
  dsimp only [List.set_cons_zero, List.set_cons_succ]
  exact xoo_loop hD hX hP D.1 0 (by omega) rfl hq
set_option maxRecDepth 20000 in
theorem mo_loop {Q : fmR → fmM → Prop} {M : fmM} {D : dD} {ls : tC} (hD : dOk D) (hY : mdw M D) (hG : pgY M ls) (hL : ∀ l ∈ ls, l.1 < 6 ∧ l.2 ≤ 1) : ∀ (m : Nat) (n : Nat), n ≤ D.1 → D.1 - n = m → Q (.inl (some (.int (nI (whS D ls D.1))))) M → pvEv Tm 2 qX11_whose 9 [some (.ref 0), some (.int (nI (whS D ls n))), some (.int (nI n))] [] M Q := by
  intro m
  induction m using Nat.strongRecOn with
  | _ m ih =>
    intro n hnD hm hq
    have d8 := hD.1
    have hn9 : (nI n).toInt = (n : Int) := nI_toInt (by omega)
    have h39 : (M.1 4 (Int32.toNatClampNeg 0)).toInt = (D.1 : Int) := hY.1
    refine pv_iloadn (pc := 9) (n := 2) 2 rfl rfl (fm_dec dtX11_whose 7 rfl) ?_
    refine pv_aloadn (pc := 10) (n := 0) 0 rfl rfl (fm_dec dtX11_whose 8 rfl) ?_
    refine pv_getR (k := 0) (j := 12) (ci := 11) (pc := 11) 4 rfl (by decide) pfl_X11_23 (by decide) rfl (by decide) (fm_dec dtX11_whose 9 rfl) ?_
    refine pv_iconst (pc := 14) (v := 0) (by decide) (fm_dec dtX11_whose 10 rfl) ?_
    refine pv_iald (k := 4) (n := 6) (pc := 15) (by decide) rfl rfl (fm_inl (by decide)) (fm_dec dtX11_whose 11 rfl) ?_
    refine pv_icmp_ge (pc := 16) 45 (by decide) (fm_dec dtX11_whose 12 rfl) (fun hc16 => ?_) (fun hc16 => ?_)
    · refine pv_iloadn (pc := 45) (n := 1) 1 rfl rfl (fm_dec dtX11_whose 29 rfl) ?_
      exact pv_ireturn (pc := 46) rfl (fm_dec dtX11_whose 30 rfl) (by have e9 : n = D.1 := (by rw [sc_le] at hc16; omega); subst e9; exact hq)
    · have hn : n < D.1 := (by rw [sc_le] at hc16; omega)
      refine pv_iloadn (pc := 19) (n := 1) 1 rfl rfl (fm_dec dtX11_whose 13 rfl) ?_
      refine pv_aloadn (pc := 20) (n := 0) 0 rfl rfl (fm_dec dtX11_whose 14 rfl) ?_
      refine pv_iloadn (pc := 21) (n := 2) 2 rfl rfl (fm_dec dtX11_whose 15 rfl) ?_
      refine pv_invV1 (k := 0) (d' := 1) (pc := 22) pcv_X11_419 (by decide) rfl (Nat.le_of_ble_eq_true rfl) (by decide) (fm_dec dtX11_whose 16 rfl) ?_
      refine c_mwo hD hY hG hL ?_
      refine pv_then1 ?_
      refine pv_lconst (pc := 25) (v := 0) (by decide) (fm_dec dtX11_whose 17 rfl) ?_
      refine pv_lcmp (pc := 26) (fm_dec dtX11_whose 18 rfl) ?_
      refine pv_if_eq (pc := 27) 36 (by decide) (fm_dec dtX11_whose 19 rfl) (fun hc27 => ?_) (fun hc27 => ?_)
      · refine pv_iconst (pc := 36) (v := 0) (by decide) (fm_dec dtX11_whose 24 rfl) ?_
        refine pv_ior (pc := 37) (fm_dec dtX11_whose 25 rfl) ?_
        refine pv_istoren (pc := 38) (n := 1) 1 rfl (by decide) rfl (fm_dec dtX11_whose 26 rfl) ?_
        dsimp only [List.set_cons_zero, List.set_cons_succ]
        refine pv_iincc (pc := 39) 2 1 (by decide) rfl (by decide) rfl (fm_dec dtX11_whose 27 rfl) ?_
        dsimp only [List.set_cons_zero, List.set_cons_succ]
        refine pv_goto (pc := 42) 9 (by decide) (fm_dec dtX11_whose 28 rfl) ?_
        have e9 := wh_n (by have h9 := lc_0.mp hc27; rw [hn9] at h9; exact h9)
        rw [nI_succ1, Int32.or_zero, ← e9]
        exact ih (D.1 - (n + 1)) (by omega) (n + 1) (by omega) rfl hq
      · refine pv_iconst (pc := 30) (v := 1) (by decide) (fm_dec dtX11_whose 20 rfl) ?_
        refine pv_iloadn (pc := 31) (n := 2) 2 rfl rfl (fm_dec dtX11_whose 21 rfl) ?_
        refine pv_ishl (pc := 32) (fm_dec dtX11_whose 22 rfl) ?_
        refine pv_goto (pc := 33) 37 (by decide) (fm_dec dtX11_whose 23 rfl) ?_
        refine pv_ior (pc := 37) (fm_dec dtX11_whose 25 rfl) ?_
        refine pv_istoren (pc := 38) (n := 1) 1 rfl (by decide) rfl (fm_dec dtX11_whose 26 rfl) ?_
        dsimp only [List.set_cons_zero, List.set_cons_succ]
        refine pv_iincc (pc := 39) 2 1 (by decide) rfl (by decide) rfl (fm_dec dtX11_whose 27 rfl) ?_
        dsimp only [List.set_cons_zero, List.set_cons_succ]
        refine pv_goto (pc := 42) 9 (by decide) (fm_dec dtX11_whose 28 rfl) ?_
        have e9 := wh_t (by intro h9; apply hc27; rw [lc_0, hn9]; exact h9)
        rw [nI_succ1, or8 _ (wh_8 n (by omega)) n (by omega), ← e9]
        exact ih (D.1 - (n + 1)) (by omega) (n + 1) (by omega) rfl hq
set_option maxRecDepth 20000 in
theorem c_mwhose {M : fmM} {Q : fmR → fmM → Prop} {D : dD} {ls : tC} (hD : dOk D) (hY : mdw M D) (hG : pgY M ls) (hL : ∀ l ∈ ls, l.1 < 6 ∧ l.2 ≤ 1) (hq : Q (.inl (some (.int (nI (whS D ls D.1))))) (fmI M 0 0 0)) : pvGood Tm 2 qX11_whose [.ref 0] M Q := by
  refine pvGood_of (Nat.le_of_ble_eq_true rfl) ?_
  show pvEv Tm 2 qX11_whose 0 [some (.ref 0), none, none] [] M Q
  refine pv_aloadn (pc := 0) (n := 0) 0 rfl rfl (fm_dec dtX11_whose 0 rfl) ?_
  refine pv_iconst (pc := 1) (v := 0) (by decide) (fm_dec dtX11_whose 1 rfl) ?_
  refine pv_putI (k := 0) (j := 0) (ci := 11) (pc := 2) pfl_X11_101 (by decide) rfl (by decide) (fm_dec dtX11_whose 2 rfl) ?_
  refine pv_iconst (pc := 5) (v := 0) (by decide) (fm_dec dtX11_whose 3 rfl) ?_
  refine pv_istoren (pc := 6) (n := 1) 1 rfl (by decide) rfl (fm_dec dtX11_whose 4 rfl) ?_
  dsimp only [List.set_cons_zero, List.set_cons_succ]
  refine pv_iconst (pc := 7) (v := 0) (by decide) (fm_dec dtX11_whose 5 rfl) ?_
  refine pv_istoren (pc := 8) (n := 2) 2 rfl (by decide) rfl (fm_dec dtX11_whose 6 rfl) ?_
  dsimp only [List.set_cons_zero, List.set_cons_succ]
  exact mo_loop hD (mdw_0 hY) (pgY_0 hG) hL D.1 0 (by omega) rfl hq
theorem xe_written {M : fmM} {a0 : Int32} {D : dD} {ls : tC} (hD : dOk D) (hX : xdw 3 M D) (hP : pgX M ls) : pvGood Tx 250 qX10_written [.ref 0, .int a0] M (fun r _ => (inL D a0 ∧ r = .inl (some (.long (wrA D ls a0.toInt)))) ∨ (¬ inL D a0 ∧ r = .inr fmNSE)) := (c_xwritten hD hX hP (fun h => Or.inr ⟨h, rfl⟩) (fun h => Or.inl ⟨h, rfl⟩)).up (by decide)
theorem me_written {M : fmM} {a0 : Int32} {D : dD} {ls : tC} (hD : dOk D) (hY : mdw M D) (hG : pgY M ls) (hL : ∀ l ∈ ls, l.1 < 6 ∧ l.2 ≤ 1) : pvGood Tm 250 qX11_written [.ref 0, .int a0] M (fun r M' => (inL D a0 ∧ r = .inl (some (.long (wrA D ls a0.toInt))) ∧ M'.1 0 0 = 0) ∨ (¬ inL D a0 ∧ M'.1 0 0 = 1)) := (c_mwritten hD hY hG hL (fun h x M' e => Or.inr ⟨h, e⟩) (fun h => Or.inl ⟨h, rfl, rfl⟩)).up (by decide)
theorem xe_whose {M : fmM} {D : dD} {ls : tC} (hD : dOk D) (hX : xdw 3 M D) (hP : pgX M ls) : pvGood Tx 250 qX10_whose [.ref 0] M (fun r _ => r = .inl (some (.int (nI (whS D ls D.1))))) := (c_xwhose hD hX hP rfl).up (by decide)
theorem me_whose {M : fmM} {D : dD} {ls : tC} (hD : dOk D) (hY : mdw M D) (hG : pgY M ls) (hL : ∀ l ∈ ls, l.1 < 6 ∧ l.2 ≤ 1) : pvGood Tm 250 qX11_whose [.ref 0] M (fun r _ => r = .inl (some (.int (nI (whS D ls D.1))))) := (c_mwhose hD hY hG hL rfl).up (by decide)
