-- P 18o
section
-- WOULD, exactly
theorem lwR_cong {kn kn' : Nat → Int32} {B : Nat} (hk : ∀ j, j ≤ 4 → kn j = kn' j) : ∀ (cs : tC) (d : Nat) (st st' : Nat → Int32), dpB B d cs = some 1 → (∀ j, j < d → st j = st' j) → lwR kn cs d st = lwR kn' cs d st'
  | [], d, st, st', h, hs => by
    cases h
    exact hs 0 (by decide)
  | c :: cs, d, st, st', h, hs => by
    simp only [dpB] at h
    simp only [lwR]
    split at h
    · rename_i h2
      split at h
      · rename_i hg
        rw [if_pos h2, if_pos h2]
        refine lwR_cong hk cs (d + 1) _ _ h (fun j hj => ?_)
        by_cases e : j = d
        · simp only [e, if_true]
          by_cases e0 : c.1 = 0
          · rw [if_pos e0, if_pos e0]
          · rw [if_neg e0, if_neg e0]
            exact hk _ (by omega)
        · simp only [e, if_false]
          exact hs j (by omega)
      · cases h
    · rename_i h2
      split at h
      · rename_i hg
        rw [if_neg h2, if_neg h2]
        refine lwR_cong hk cs (d - 1) _ _ h (fun j hj => ?_)
        by_cases e : j = d - 2
        · simp only [e, if_true]
          rw [hs (d - 2) (by omega), hs (d - 1) (by omega)]
        · simp only [e, if_false]
          exact hs j (by omega)
      · cases h
/-- codes as they stand here: of no law, twice the age -/
def xcs (cs : tC) : tC := if cs = [] then [(1, 0), (1, 0), (2, 0)] else cs
def lwX (M : fmM) (cs : tC) : Prop := (M.1 23 3).toInt = ((xcs cs).length : Int) ∧ (xcs cs).length ≤ 150 ∧ (∀ i c, (xcs cs)[i]? = some c → (M.1 24 i).toInt = cdV c) ∧ dpB 23 0 (xcs cs) = some 1
def lwM (M : fmM) (cs : tC) : Prop := (M.1 0 17).toInt = (cs.length : Int) ∧ cs.length ≤ 160 ∧ (cs = [] ∨ dpR 0 cs = some 1) ∧ lwHas M.1 91 cs
/-- what a law says -/
def lwV (cs : tC) (a b c d e : Int32) : Int32 := outV (lwR (knF a b c d e) (xcs cs) 0 (fun _ => 0))
def wdP (a b c d e : Int32) : Prop := inW a 0 200 ∧ inW b 0 200 ∧ inW c 1 99 ∧ inW d 0 1 ∧ inW e 0 24
theorem c_xlw {M : fmM} {Q : fmR → fmM → Prop} {cs : tC} {a b c d e : Int32} (h : lwX M cs) (hq : ∀ M' : fmM, (∀ k j, k ≠ 26 → M'.1 k j = M.1 k j) → M'.2 = M.2 → Q (.inl (some (.int (lwV cs a b c d e)))) M') : pvGood Tx 1 qX1_outcome [.ref 23, .int a, .int b, .int c, .int d, .int e] M Q := c_xout h.1 h.2.1 h.2.2.1 h.2.2.2 (fun M' h1 h2 => by
  rw [lwR_cong (fun _ _ => rfl) (xcs cs) 0 (M.1 26) (fun _ => 0) h.2.2.2 (fun j hj => absurd hj (Nat.not_lt_zero j))]
  exact hq M' h1 h2)
set_option maxRecDepth 20000 in
theorem c_xwould {M : fmM} {Q : fmR → fmM → Prop} {cs : tC} {a b c d e : Int32} (hL : lwX M cs) (ht : wdP a b c d e → ∀ M' : fmM, (∀ k j, k ≠ 26 → M'.1 k j = M.1 k j) → M'.2 = M.2 → Q (.inl (some (.int (lwV cs a b c d e)))) M') (hf : ¬ wdP a b c d e → Q (.inr fmIAE) (fmI M 0 16 (M.1 0 16 + 1))) : pvGood Tx 2 qX10_would [.ref 0, .int a, .int b, .int c, .int d, .int e] M Q := by
  refine pvGood_of (Nat.le_of_ble_eq_true rfl) ?_
  show pvEv Tx 2 qX10_would 0 [some (.ref 0), some (.int a), some (.int b), some (.int c), some (.int d), some (.int e)] [] M Q
  refine pv_aloadn (pc := 0) (n := 0) 0 rfl rfl (fm_dec dtX10_would 0 rfl) ?_
  refine pv_iloadn (pc := 1) (n := 1) 1 rfl rfl (fm_dec dtX10_would 1 rfl) ?_
  refine pv_iconst (pc := 2) (v := 0) (by decide) (fm_dec dtX10_would 2 rfl) ?_
  refine pv_sipush (pc := 3) (v := 200) (by decide) (fm_dec dtX10_would 3 rfl) ?_
  refine pv_invV3 (k := 0) (d' := 0) (pc := 6) pcv_X10_169 (by decide) rfl (Nat.le_of_ble_eq_true rfl) (by decide) (fm_dec dtX10_would 4 rfl) ?_
  refine c_needW (fun h6a h6b => ?_) (fun h6 => ?_)
  · refine pv_then0 ?_
    refine pv_aloadn (pc := 9) (n := 0) 0 rfl rfl (fm_dec dtX10_would 5 rfl) ?_
    refine pv_iloadn (pc := 10) (n := 2) 2 rfl rfl (fm_dec dtX10_would 6 rfl) ?_
    refine pv_iconst (pc := 11) (v := 0) (by decide) (fm_dec dtX10_would 7 rfl) ?_
    refine pv_sipush (pc := 12) (v := 200) (by decide) (fm_dec dtX10_would 8 rfl) ?_
    refine pv_invV3 (k := 0) (d' := 0) (pc := 15) pcv_X10_169 (by decide) rfl (Nat.le_of_ble_eq_true rfl) (by decide) (fm_dec dtX10_would 9 rfl) ?_
    refine c_needW (fun h15a h15b => ?_) (fun h15 => ?_)
    · refine pv_then0 ?_
      refine pv_aloadn (pc := 18) (n := 0) 0 rfl rfl (fm_dec dtX10_would 10 rfl) ?_
      refine pv_iloadn (pc := 19) (n := 3) 3 rfl rfl (fm_dec dtX10_would 11 rfl) ?_
      refine pv_iconst (pc := 20) (v := 1) (by decide) (fm_dec dtX10_would 12 rfl) ?_
      refine pv_bipush (pc := 21) (v := 99) (by decide) (fm_dec dtX10_would 13 rfl) ?_
      refine pv_invV3 (k := 0) (d' := 0) (pc := 23) pcv_X10_169 (by decide) rfl (Nat.le_of_ble_eq_true rfl) (by decide) (fm_dec dtX10_would 14 rfl) ?_
      refine c_needW (fun h23a h23b => ?_) (fun h23 => ?_)
      · refine pv_then0 ?_
        refine pv_aloadn (pc := 26) (n := 0) 0 rfl rfl (fm_dec dtX10_would 15 rfl) ?_
        refine pv_iload (pc := 27) (i := 4) rfl (fm_dec dtX10_would 16 rfl) ?_
        refine pv_iconst (pc := 29) (v := 0) (by decide) (fm_dec dtX10_would 17 rfl) ?_
        refine pv_iconst (pc := 30) (v := 1) (by decide) (fm_dec dtX10_would 18 rfl) ?_
        refine pv_invV3 (k := 0) (d' := 0) (pc := 31) pcv_X10_169 (by decide) rfl (Nat.le_of_ble_eq_true rfl) (by decide) (fm_dec dtX10_would 19 rfl) ?_
        refine c_needW (fun h31a h31b => ?_) (fun h31 => ?_)
        · refine pv_then0 ?_
          refine pv_aloadn (pc := 34) (n := 0) 0 rfl rfl (fm_dec dtX10_would 20 rfl) ?_
          refine pv_iload (pc := 35) (i := 5) rfl (fm_dec dtX10_would 21 rfl) ?_
          refine pv_iconst (pc := 37) (v := 0) (by decide) (fm_dec dtX10_would 22 rfl) ?_
          refine pv_bipush (pc := 38) (v := 24) (by decide) (fm_dec dtX10_would 23 rfl) ?_
          refine pv_invV3 (k := 0) (d' := 0) (pc := 40) pcv_X10_169 (by decide) rfl (Nat.le_of_ble_eq_true rfl) (by decide) (fm_dec dtX10_would 24 rfl) ?_
          refine c_needW (fun h40a h40b => ?_) (fun h40 => ?_)
          · refine pv_then0 ?_
            refine pv_aloadn (pc := 43) (n := 0) 0 rfl rfl (fm_dec dtX10_would 25 rfl) ?_
            refine pv_getR (k := 0) (j := 3) (ci := 10) (pc := 44) 23 rfl (by decide) pfl_X10_29 (by decide) rfl (by decide) (fm_dec dtX10_would 26 rfl) ?_
            refine pv_iloadn (pc := 47) (n := 1) 1 rfl rfl (fm_dec dtX10_would 27 rfl) ?_
            refine pv_iloadn (pc := 48) (n := 2) 2 rfl rfl (fm_dec dtX10_would 28 rfl) ?_
            refine pv_iloadn (pc := 49) (n := 3) 3 rfl rfl (fm_dec dtX10_would 29 rfl) ?_
            refine pv_iload (pc := 50) (i := 4) rfl (fm_dec dtX10_would 30 rfl) ?_
            refine pv_iload (pc := 52) (i := 5) rfl (fm_dec dtX10_would 31 rfl) ?_
            refine pv_invV5 (k := 23) (d' := 1) (pc := 54) pcv_X10_233 (by decide) rfl (Nat.le_of_ble_eq_true rfl) (by decide) (fm_dec dtX10_would 32 rfl) ?_
            refine c_xlw hL (fun M54 g54 h54 => ?_)
            refine pv_then1 ?_
            exact pv_ireturn (pc := 57) rfl (fm_dec dtX10_would 33 rfl) (ht ⟨⟨h6a, h6b⟩, ⟨h15a, h15b⟩, ⟨h23a, h23b⟩, ⟨h31a, h31b⟩, ⟨h40a, h40b⟩⟩ M54 g54 h54)
          · refine pv_thenX ?_
            exact hf (fun h9 => h40 (by first | exact h9.1 | exact h9.2.1 | exact h9.2.2.1 | exact h9.2.2.2.1 | exact h9.2.2.2.2))
        · refine pv_thenX ?_
          exact hf (fun h9 => h31 (by first | exact h9.1 | exact h9.2.1 | exact h9.2.2.1 | exact h9.2.2.2.1 | exact h9.2.2.2.2))
      · refine pv_thenX ?_
        exact hf (fun h9 => h23 (by first | exact h9.1 | exact h9.2.1 | exact h9.2.2.1 | exact h9.2.2.2.1 | exact h9.2.2.2.2))
    · refine pv_thenX ?_
      exact hf (fun h9 => h15 (by first | exact h9.1 | exact h9.2.1 | exact h9.2.2.1 | exact h9.2.2.2.1 | exact h9.2.2.2.2))
  · refine pv_thenX ?_
    exact hf (fun h9 => h6 (by first | exact h9.1 | exact h9.2.1 | exact h9.2.2.1 | exact h9.2.2.2.1 | exact h9.2.2.2.2))
def knM (M : fmM) (a b c d e : Int32) : fmM := (fmI (fmI (fmI (fmI (fmI M 6 0 a) 6 1 b) 6 2 c) 6 3 d) 6 4 e)
theorem lw_val {M : fmM} {cs : tC} {a b c d e : Int32} {st : Nat → Int32} (hd : cs = [] ∨ dpB 23 0 cs = some 1) : outV (if cs = [] then (knM M a b c d e).1 6 0 + (knM M a b c d e).1 6 0 else lwR ((knM M a b c d e).1 6) cs 0 st) = lwV cs a b c d e := by
  unfold lwV xcs
  by_cases e0 : cs = []
  · rw [if_pos e0, if_pos e0]
    rfl
  · rw [if_neg e0, if_neg e0]
    rcases hd with h | h
    · exact absurd h e0
    · rw [lwR_cong (kn' := knF a b c d e) (fun j hj => ?_) cs 0 st (fun _ => 0) h (fun j hj => absurd hj (Nat.not_lt_zero j))]
      rcases (show j = 0 ∨ j = 1 ∨ j = 2 ∨ j = 3 ∨ j = 4 by omega) with rfl | rfl | rfl | rfl | rfl <;> rfl
theorem lwM.kn {M : fmM} {cs : tC} {a b c d e : Int32} (h : lwM M cs) : lwM (knM M a b c d e) cs := ⟨h.1, h.2.1, h.2.2.1, h.2.2.2.fr (fun k j hk => by unfold knM; rw [fmI_k _ _ (by omega), fmI_k _ _ (by omega), fmI_k _ _ (by omega), fmI_k _ _ (by omega), fmI_k _ _ (by omega)])⟩
set_option maxRecDepth 20000 in
theorem c_mlw {M : fmM} {Q : fmR → fmM → Prop} {cs : tC} {a b c d e : Int32} (hL : lwM M cs) (hd : cs = [] ∨ dpB 23 0 cs = some 1) (hq : ∀ M' : fmM, (∀ k j, k ≠ 5 → k ≠ 6 → M'.1 k j = M.1 k j) → M'.2 = M.2 → Q (.inl (some (.int (lwV cs a b c d e)))) M') : pvGood Tm 4 qX11_wrongBy [.ref 0, .int a, .int b, .int c, .int d, .int e] M Q := by
  refine pvGood_of (Nat.le_of_ble_eq_true rfl) ?_
  show pvEv Tm 4 qX11_wrongBy 0 [some (.ref 0), some (.int a), some (.int b), some (.int c), some (.int d), some (.int e)] [] M Q
  refine pv_aloadn (pc := 0) (n := 0) 0 rfl rfl (fm_dec dtX11_wrongBy 0 rfl) ?_
  refine pv_getR (k := 0) (j := 24) (ci := 11) (pc := 1) 6 rfl (by decide) pfl_X11_55 (by decide) rfl (by decide) (fm_dec dtX11_wrongBy 1 rfl) ?_
  refine pv_iconst (pc := 4) (v := 0) (by decide) (fm_dec dtX11_wrongBy 2 rfl) ?_
  refine pv_iloadn (pc := 5) (n := 1) 1 rfl rfl (fm_dec dtX11_wrongBy 3 rfl) ?_
  refine pv_iast (k := 6) (n := 5) (pc := 6) (by decide) rfl rfl (fm_inl (by decide)) (fm_dec dtX11_wrongBy 4 rfl) ?_
  refine pv_aloadn (pc := 7) (n := 0) 0 rfl rfl (fm_dec dtX11_wrongBy 5 rfl) ?_
  refine pv_getR (k := 0) (j := 24) (ci := 11) (pc := 8) 6 rfl (by decide) pfl_X11_55 (by decide) rfl (by decide) (fm_dec dtX11_wrongBy 6 rfl) ?_
  refine pv_iconst (pc := 11) (v := 1) (by decide) (fm_dec dtX11_wrongBy 7 rfl) ?_
  refine pv_iloadn (pc := 12) (n := 2) 2 rfl rfl (fm_dec dtX11_wrongBy 8 rfl) ?_
  refine pv_iast (k := 6) (n := 5) (pc := 13) (by decide) rfl rfl (fm_inl (by decide)) (fm_dec dtX11_wrongBy 9 rfl) ?_
  refine pv_aloadn (pc := 14) (n := 0) 0 rfl rfl (fm_dec dtX11_wrongBy 10 rfl) ?_
  refine pv_getR (k := 0) (j := 24) (ci := 11) (pc := 15) 6 rfl (by decide) pfl_X11_55 (by decide) rfl (by decide) (fm_dec dtX11_wrongBy 11 rfl) ?_
  refine pv_iconst (pc := 18) (v := 2) (by decide) (fm_dec dtX11_wrongBy 12 rfl) ?_
  refine pv_iloadn (pc := 19) (n := 3) 3 rfl rfl (fm_dec dtX11_wrongBy 13 rfl) ?_
  refine pv_iast (k := 6) (n := 5) (pc := 20) (by decide) rfl rfl (fm_inl (by decide)) (fm_dec dtX11_wrongBy 14 rfl) ?_
  refine pv_aloadn (pc := 21) (n := 0) 0 rfl rfl (fm_dec dtX11_wrongBy 15 rfl) ?_
  refine pv_getR (k := 0) (j := 24) (ci := 11) (pc := 22) 6 rfl (by decide) pfl_X11_55 (by decide) rfl (by decide) (fm_dec dtX11_wrongBy 16 rfl) ?_
  refine pv_iconst (pc := 25) (v := 3) (by decide) (fm_dec dtX11_wrongBy 17 rfl) ?_
  refine pv_iload (pc := 26) (i := 4) rfl (fm_dec dtX11_wrongBy 18 rfl) ?_
  refine pv_iast (k := 6) (n := 5) (pc := 28) (by decide) rfl rfl (fm_inl (by decide)) (fm_dec dtX11_wrongBy 19 rfl) ?_
  refine pv_aloadn (pc := 29) (n := 0) 0 rfl rfl (fm_dec dtX11_wrongBy 20 rfl) ?_
  refine pv_getR (k := 0) (j := 24) (ci := 11) (pc := 30) 6 rfl (by decide) pfl_X11_55 (by decide) rfl (by decide) (fm_dec dtX11_wrongBy 21 rfl) ?_
  refine pv_iconst (pc := 33) (v := 4) (by decide) (fm_dec dtX11_wrongBy 22 rfl) ?_
  refine pv_iload (pc := 34) (i := 5) rfl (fm_dec dtX11_wrongBy 23 rfl) ?_
  refine pv_iast (k := 6) (n := 5) (pc := 36) (by decide) rfl rfl (fm_inl (by decide)) (fm_dec dtX11_wrongBy 24 rfl) ?_
  refine pv_iconst (pc := 37) (v := 0) (by decide) (fm_dec dtX11_wrongBy 25 rfl) ?_
  refine pv_bipush (pc := 38) (v := 64) (by decide) (fm_dec dtX11_wrongBy 26 rfl) ?_
  refine pv_aloadn (pc := 40) (n := 0) 0 rfl rfl (fm_dec dtX11_wrongBy 27 rfl) ?_
  refine pv_invV0 (k := 0) (d' := 3) (pc := 41) pcv_X11_260 (by decide) rfl (Nat.le_of_ble_eq_true rfl) (by decide) (fm_dec dtX11_wrongBy 28 rfl) ?_
  refine c_byLaw (M := knM M a b c d e) (hL.kn (a := a) (b := b) (c := c) (d := d) (e := e)).1 (hL.kn (a := a) (b := b) (c := c) (d := d) (e := e)).2.1 (hL.kn (a := a) (b := b) (c := c) (d := d) (e := e)).2.2.1 (hL.kn (a := a) (b := b) (c := c) (d := d) (e := e)).2.2.2 (fun M41 g41 h41 => ?_)
  refine pv_then1 ?_
  refine pv_mm (pc := 44) pmm_X11_237 (by decide) (Nat.le_of_ble_eq_true rfl) (fm_dec dtX11_wrongBy 29 rfl) ?_
  refine pv_mm (pc := 47) pmm_X11_240 (by decide) (Nat.le_of_ble_eq_true rfl) (fm_dec dtX11_wrongBy 30 rfl) ?_
  exact pv_ireturn (pc := 50) rfl (fm_dec dtX11_wrongBy 31 rfl) (by have h9 := hq M41 (fun k j a1 a2 => ?_) h41; rw [← lw_val (M := M) (st := (knM M a b c d e).1 5) hd] at h9; exact h9; rw [g41 k j (fun h8 => a1 h8.1)]; unfold knM; rw [fmI_k _ _ a2, fmI_k _ _ a2, fmI_k _ _ a2, fmI_k _ _ a2, fmI_k _ _ a2])
set_option maxRecDepth 20000 in
theorem c_mwould {M : fmM} {Q : fmR → fmM → Prop} {cs : tC} {a b c d e : Int32} (hL : lwM M cs) (hd : cs = [] ∨ dpB 23 0 cs = some 1) (ht : wdP a b c d e → ∀ M' : fmM, (∀ k j, k ≠ 5 → k ≠ 6 → M'.1 k j = (fmI M 0 0 0).1 k j) → M'.2 = M.2 → Q (.inl (some (.int (lwV cs a b c d e)))) M') (hf : ¬ wdP a b c d e → ∀ M' : fmM, M'.1 0 0 = 1 → Q (.inl (some (.int 0))) M') : pvGood Tm 5 qX11_would [.ref 0, .int a, .int b, .int c, .int d, .int e] M Q := by
  refine pvGood_of (Nat.le_of_ble_eq_true rfl) ?_
  show pvEv Tm 5 qX11_would 0 [some (.ref 0), some (.int a), some (.int b), some (.int c), some (.int d), some (.int e)] [] M Q
  refine pv_aloadn (pc := 0) (n := 0) 0 rfl rfl (fm_dec dtX11_would 0 rfl) ?_
  refine pv_iconst (pc := 1) (v := 0) (by decide) (fm_dec dtX11_would 1 rfl) ?_
  refine pv_putI (k := 0) (j := 0) (ci := 11) (pc := 2) pfl_X11_101 (by decide) rfl (by decide) (fm_dec dtX11_would 2 rfl) ?_
  refine pv_aloadn (pc := 5) (n := 0) 0 rfl rfl (fm_dec dtX11_would 3 rfl) ?_
  refine pv_iloadn (pc := 6) (n := 1) 1 rfl rfl (fm_dec dtX11_would 4 rfl) ?_
  refine pv_iconst (pc := 7) (v := 0) (by decide) (fm_dec dtX11_would 5 rfl) ?_
  refine pv_sipush (pc := 8) (v := 200) (by decide) (fm_dec dtX11_would 6 rfl) ?_
  refine pv_iS3 (d' := 0) (pc := 11) pcs_X11_135 (Nat.le_of_ble_eq_true rfl) (by decide) (fm_dec dtX11_would 7 rfl) ?_
  refine c_in (fun h11a h11b => ?_) (fun h11 => ?_)
  · refine pv_then1 ?_
    refine pv_if_eq (pc := 14) 59 (by decide) (fm_dec dtX11_would 8 rfl) (fun hc14 => by exfalso; revert hc14; decide) (fun _ => ?_)
    refine pv_iloadn (pc := 17) (n := 2) 2 rfl rfl (fm_dec dtX11_would 9 rfl) ?_
    refine pv_iconst (pc := 18) (v := 0) (by decide) (fm_dec dtX11_would 10 rfl) ?_
    refine pv_sipush (pc := 19) (v := 200) (by decide) (fm_dec dtX11_would 11 rfl) ?_
    refine pv_iS3 (d' := 0) (pc := 22) pcs_X11_135 (Nat.le_of_ble_eq_true rfl) (by decide) (fm_dec dtX11_would 12 rfl) ?_
    refine c_in (fun h22a h22b => ?_) (fun h22 => ?_)
    · refine pv_then1 ?_
      refine pv_if_eq (pc := 25) 59 (by decide) (fm_dec dtX11_would 13 rfl) (fun hc25 => by exfalso; revert hc25; decide) (fun _ => ?_)
      refine pv_iloadn (pc := 28) (n := 3) 3 rfl rfl (fm_dec dtX11_would 14 rfl) ?_
      refine pv_iconst (pc := 29) (v := 1) (by decide) (fm_dec dtX11_would 15 rfl) ?_
      refine pv_bipush (pc := 30) (v := 99) (by decide) (fm_dec dtX11_would 16 rfl) ?_
      refine pv_iS3 (d' := 0) (pc := 32) pcs_X11_135 (Nat.le_of_ble_eq_true rfl) (by decide) (fm_dec dtX11_would 17 rfl) ?_
      refine c_in (fun h32a h32b => ?_) (fun h32 => ?_)
      · refine pv_then1 ?_
        refine pv_if_eq (pc := 35) 59 (by decide) (fm_dec dtX11_would 18 rfl) (fun hc35 => by exfalso; revert hc35; decide) (fun _ => ?_)
        refine pv_iload (pc := 38) (i := 4) rfl (fm_dec dtX11_would 19 rfl) ?_
        refine pv_iconst (pc := 40) (v := 0) (by decide) (fm_dec dtX11_would 20 rfl) ?_
        refine pv_iconst (pc := 41) (v := 1) (by decide) (fm_dec dtX11_would 21 rfl) ?_
        refine pv_iS3 (d' := 0) (pc := 42) pcs_X11_135 (Nat.le_of_ble_eq_true rfl) (by decide) (fm_dec dtX11_would 22 rfl) ?_
        refine c_in (fun h42a h42b => ?_) (fun h42 => ?_)
        · refine pv_then1 ?_
          refine pv_if_eq (pc := 45) 59 (by decide) (fm_dec dtX11_would 23 rfl) (fun hc45 => by exfalso; revert hc45; decide) (fun _ => ?_)
          refine pv_iload (pc := 48) (i := 5) rfl (fm_dec dtX11_would 24 rfl) ?_
          refine pv_iconst (pc := 50) (v := 0) (by decide) (fm_dec dtX11_would 25 rfl) ?_
          refine pv_bipush (pc := 51) (v := 24) (by decide) (fm_dec dtX11_would 26 rfl) ?_
          refine pv_iS3 (d' := 0) (pc := 53) pcs_X11_135 (Nat.le_of_ble_eq_true rfl) (by decide) (fm_dec dtX11_would 27 rfl) ?_
          refine c_in (fun h53a h53b => ?_) (fun h53 => ?_)
          · refine pv_then1 ?_
            refine pv_if_ne (pc := 56) 63 (by decide) (fm_dec dtX11_would 28 rfl) (fun _ => ?_) (fun hc56 => by exfalso; revert hc56; decide)
            refine pv_iconst (pc := 63) (v := 0) (by decide) (fm_dec dtX11_would 31 rfl) ?_
            refine pv_iconst (pc := 64) (v := 1) (by decide) (fm_dec dtX11_would 32 rfl) ?_
            refine pv_iconst (pc := 65) (v := 1) (by decide) (fm_dec dtX11_would 33 rfl) ?_
            refine pv_invV3 (k := 0) (d' := 0) (pc := 66) pcv_X11_177 (by decide) rfl (Nat.le_of_ble_eq_true rfl) (by decide) (fm_dec dtX11_would 34 rfl) ?_
            refine c_badF1 rfl ?_
            refine pv_then1 ?_
            refine pv_if_eq (pc := 69) 74 (by decide) (fm_dec dtX11_would 35 rfl) (fun _ => ?_) (fun hc69 => by exfalso; revert hc69; decide)
            refine pv_aloadn (pc := 74) (n := 0) 0 rfl rfl (fm_dec dtX11_would 38 rfl) ?_
            refine pv_iloadn (pc := 75) (n := 1) 1 rfl rfl (fm_dec dtX11_would 39 rfl) ?_
            refine pv_iloadn (pc := 76) (n := 2) 2 rfl rfl (fm_dec dtX11_would 40 rfl) ?_
            refine pv_iloadn (pc := 77) (n := 3) 3 rfl rfl (fm_dec dtX11_would 41 rfl) ?_
            refine pv_iload (pc := 78) (i := 4) rfl (fm_dec dtX11_would 42 rfl) ?_
            refine pv_iload (pc := 80) (i := 5) rfl (fm_dec dtX11_would 43 rfl) ?_
            refine pv_invV5 (k := 0) (d' := 4) (pc := 82) pcv_X11_273 (by decide) rfl (Nat.le_of_ble_eq_true rfl) (by decide) (fm_dec dtX11_would 44 rfl) ?_
            refine c_mlw (M := fmI M 0 0 0) ⟨hL.1, hL.2.1, hL.2.2.1, hL.2.2.2.fr (fun k j hk => by rw [fmI_k _ _ (by omega)])⟩ hd (fun M82 g82 h82 => ?_)
            refine pv_then1 ?_
            exact pv_ireturn (pc := 85) rfl (fm_dec dtX11_would 45 rfl) (ht ⟨⟨h11a, h11b⟩, ⟨h22a, h22b⟩, ⟨h32a, h32b⟩, ⟨h42a, h42b⟩, ⟨h53a, h53b⟩⟩ M82 g82 h82)
          · refine pv_then1 ?_
            refine pv_if_ne (pc := 56) 63 (by decide) (fm_dec dtX11_would 28 rfl) (fun hc56 => by exfalso; revert hc56; decide) (fun _ => ?_)
            refine pv_iconst (pc := 59) (v := 1) (by decide) (fm_dec dtX11_would 29 rfl) ?_
            refine pv_goto (pc := 60) 64 (by decide) (fm_dec dtX11_would 30 rfl) ?_
            refine pv_iconst (pc := 64) (v := 1) (by decide) (fm_dec dtX11_would 32 rfl) ?_
            refine pv_iconst (pc := 65) (v := 1) (by decide) (fm_dec dtX11_would 33 rfl) ?_
            refine pv_invV3 (k := 0) (d' := 0) (pc := 66) pcv_X11_177 (by decide) rfl (Nat.le_of_ble_eq_true rfl) (by decide) (fm_dec dtX11_would 34 rfl) ?_
            refine c_badT1 rfl (by decide) ?_
            refine pv_then1 ?_
            refine pv_if_eq (pc := 69) 74 (by decide) (fm_dec dtX11_would 35 rfl) (fun hc69 => by exfalso; revert hc69; decide) (fun _ => ?_)
            refine pv_iconst (pc := 72) (v := 0) (by decide) (fm_dec dtX11_would 36 rfl) ?_
            exact pv_ireturn (pc := 73) rfl (fm_dec dtX11_would 37 rfl) (hf (by intro h9; first | exact h53 h9.2.2.2.2 | exact h42 h9.2.2.2.1 | exact h32 h9.2.2.1 | exact h22 h9.2.1 | exact h11 h9.1) _ rfl)
        · refine pv_then1 ?_
          refine pv_if_eq (pc := 45) 59 (by decide) (fm_dec dtX11_would 23 rfl) (fun _ => ?_) (fun hc45 => by exfalso; revert hc45; decide)
          refine pv_iconst (pc := 59) (v := 1) (by decide) (fm_dec dtX11_would 29 rfl) ?_
          refine pv_goto (pc := 60) 64 (by decide) (fm_dec dtX11_would 30 rfl) ?_
          refine pv_iconst (pc := 64) (v := 1) (by decide) (fm_dec dtX11_would 32 rfl) ?_
          refine pv_iconst (pc := 65) (v := 1) (by decide) (fm_dec dtX11_would 33 rfl) ?_
          refine pv_invV3 (k := 0) (d' := 0) (pc := 66) pcv_X11_177 (by decide) rfl (Nat.le_of_ble_eq_true rfl) (by decide) (fm_dec dtX11_would 34 rfl) ?_
          refine c_badT1 rfl (by decide) ?_
          refine pv_then1 ?_
          refine pv_if_eq (pc := 69) 74 (by decide) (fm_dec dtX11_would 35 rfl) (fun hc69 => by exfalso; revert hc69; decide) (fun _ => ?_)
          refine pv_iconst (pc := 72) (v := 0) (by decide) (fm_dec dtX11_would 36 rfl) ?_
          exact pv_ireturn (pc := 73) rfl (fm_dec dtX11_would 37 rfl) (hf (by intro h9; first | exact h53 h9.2.2.2.2 | exact h42 h9.2.2.2.1 | exact h32 h9.2.2.1 | exact h22 h9.2.1 | exact h11 h9.1) _ rfl)
      · refine pv_then1 ?_
        refine pv_if_eq (pc := 35) 59 (by decide) (fm_dec dtX11_would 18 rfl) (fun _ => ?_) (fun hc35 => by exfalso; revert hc35; decide)
        refine pv_iconst (pc := 59) (v := 1) (by decide) (fm_dec dtX11_would 29 rfl) ?_
        refine pv_goto (pc := 60) 64 (by decide) (fm_dec dtX11_would 30 rfl) ?_
        refine pv_iconst (pc := 64) (v := 1) (by decide) (fm_dec dtX11_would 32 rfl) ?_
        refine pv_iconst (pc := 65) (v := 1) (by decide) (fm_dec dtX11_would 33 rfl) ?_
        refine pv_invV3 (k := 0) (d' := 0) (pc := 66) pcv_X11_177 (by decide) rfl (Nat.le_of_ble_eq_true rfl) (by decide) (fm_dec dtX11_would 34 rfl) ?_
        refine c_badT1 rfl (by decide) ?_
        refine pv_then1 ?_
        refine pv_if_eq (pc := 69) 74 (by decide) (fm_dec dtX11_would 35 rfl) (fun hc69 => by exfalso; revert hc69; decide) (fun _ => ?_)
        refine pv_iconst (pc := 72) (v := 0) (by decide) (fm_dec dtX11_would 36 rfl) ?_
        exact pv_ireturn (pc := 73) rfl (fm_dec dtX11_would 37 rfl) (hf (by intro h9; first | exact h53 h9.2.2.2.2 | exact h42 h9.2.2.2.1 | exact h32 h9.2.2.1 | exact h22 h9.2.1 | exact h11 h9.1) _ rfl)
    · refine pv_then1 ?_
      refine pv_if_eq (pc := 25) 59 (by decide) (fm_dec dtX11_would 13 rfl) (fun _ => ?_) (fun hc25 => by exfalso; revert hc25; decide)
      refine pv_iconst (pc := 59) (v := 1) (by decide) (fm_dec dtX11_would 29 rfl) ?_
      refine pv_goto (pc := 60) 64 (by decide) (fm_dec dtX11_would 30 rfl) ?_
      refine pv_iconst (pc := 64) (v := 1) (by decide) (fm_dec dtX11_would 32 rfl) ?_
      refine pv_iconst (pc := 65) (v := 1) (by decide) (fm_dec dtX11_would 33 rfl) ?_
      refine pv_invV3 (k := 0) (d' := 0) (pc := 66) pcv_X11_177 (by decide) rfl (Nat.le_of_ble_eq_true rfl) (by decide) (fm_dec dtX11_would 34 rfl) ?_
      refine c_badT1 rfl (by decide) ?_
      refine pv_then1 ?_
      refine pv_if_eq (pc := 69) 74 (by decide) (fm_dec dtX11_would 35 rfl) (fun hc69 => by exfalso; revert hc69; decide) (fun _ => ?_)
      refine pv_iconst (pc := 72) (v := 0) (by decide) (fm_dec dtX11_would 36 rfl) ?_
      exact pv_ireturn (pc := 73) rfl (fm_dec dtX11_would 37 rfl) (hf (by intro h9; first | exact h53 h9.2.2.2.2 | exact h42 h9.2.2.2.1 | exact h32 h9.2.2.1 | exact h22 h9.2.1 | exact h11 h9.1) _ rfl)
  · refine pv_then1 ?_
    refine pv_if_eq (pc := 14) 59 (by decide) (fm_dec dtX11_would 8 rfl) (fun _ => ?_) (fun hc14 => by exfalso; revert hc14; decide)
    refine pv_iconst (pc := 59) (v := 1) (by decide) (fm_dec dtX11_would 29 rfl) ?_
    refine pv_goto (pc := 60) 64 (by decide) (fm_dec dtX11_would 30 rfl) ?_
    refine pv_iconst (pc := 64) (v := 1) (by decide) (fm_dec dtX11_would 32 rfl) ?_
    refine pv_iconst (pc := 65) (v := 1) (by decide) (fm_dec dtX11_would 33 rfl) ?_
    refine pv_invV3 (k := 0) (d' := 0) (pc := 66) pcv_X11_177 (by decide) rfl (Nat.le_of_ble_eq_true rfl) (by decide) (fm_dec dtX11_would 34 rfl) ?_
    refine c_badT1 rfl (by decide) ?_
    refine pv_then1 ?_
    refine pv_if_eq (pc := 69) 74 (by decide) (fm_dec dtX11_would 35 rfl) (fun hc69 => by exfalso; revert hc69; decide) (fun _ => ?_)
    refine pv_iconst (pc := 72) (v := 0) (by decide) (fm_dec dtX11_would 36 rfl) ?_
    exact pv_ireturn (pc := 73) rfl (fm_dec dtX11_would 37 rfl) (hf (by intro h9; first | exact h53 h9.2.2.2.2 | exact h42 h9.2.2.2.1 | exact h32 h9.2.2.1 | exact h22 h9.2.1 | exact h11 h9.1) _ rfl)
theorem xe_would {M : fmM} {a0 a1 a2 a3 a4 : Int32} {cs : tC} (hX : lwX M cs) : pvGood Tx 250 qX10_would [.ref 0, .int a0, .int a1, .int a2, .int a3, .int a4] M (fun r _ => (wdP a0 a1 a2 a3 a4 ∧ r = .inl (some (.int (lwV cs a0 a1 a2 a3 a4)))) ∨ (¬ wdP a0 a1 a2 a3 a4 ∧ r = .inr fmIAE)) := (c_xwould hX (fun h M' _ _ => Or.inl ⟨h, rfl⟩) (fun h => Or.inr ⟨h, rfl⟩)).up (by decide)
theorem me_would {M : fmM} {a0 a1 a2 a3 a4 : Int32} {cs : tC} (hY : lwM M cs) (hd : cs = [] ∨ dpB 23 0 cs = some 1) : pvGood Tm 250 qX11_would [.ref 0, .int a0, .int a1, .int a2, .int a3, .int a4] M (fun r M' => (wdP a0 a1 a2 a3 a4 ∧ r = .inl (some (.int (lwV cs a0 a1 a2 a3 a4))) ∧ M'.1 0 0 = 0) ∨ (¬ wdP a0 a1 a2 a3 a4 ∧ M'.1 0 0 = 1)) := (c_mwould hY hd (fun h M' g _ => Or.inl ⟨h, rfl, (g 0 0 (by decide) (by decide)).trans rfl⟩) (fun h M' e => Or.inr ⟨h, e⟩)).up (by decide)
end
-- P 18q
section
-- WHAT STAYS, call for call
set_option maxRecDepth 20000 in
theorem c_kwork {M : fmM} {Q : fmR → fmM → Prop} {nn : Int32} (hI : scInv Tx invX M) (hq : ∀ (r : fmR) (M' : fmM), kpt PXk M M' → Q r M') : pvGood Tx 213 qX10_work [.ref 0, .int nn] M Q := by
  refine pvGood_of (Nat.le_of_ble_eq_true rfl) ?_
  show pvEv Tx 213 qX10_work 0 [some (.ref 0), some (.int nn)] [] M Q
  refine pv_aloadn (pc := 0) (n := 0) 0 rfl rfl (fm_dec dtX10_work 0 rfl) ?_
  refine pv_iloadn (pc := 1) (n := 1) 1 rfl rfl (fm_dec dtX10_work 1 rfl) ?_
  refine pv_sipush (pc := 2) (v := 150) (by decide) (fm_dec dtX10_work 2 rfl) ?_
  refine pv_invV2 (k := 0) (d' := 1) (pc := 5) pcv_X10_108 (by decide) rfl (Nat.le_of_ble_eq_true rfl) (by decide) (fm_dec dtX10_work 3 rfl) ?_
  refine c_openT (fun h5 => ?_) (fun h5 => ?_)
  · refine pv_then0 ?_
    have hI5 := inv_open (n := nn) hI h5.1 (by have h9 : nn.toInt ≤ 150 := h5.2.1; omega)
    refine pv_aloadn (pc := 8) (n := 0) 0 rfl rfl (fm_dec dtX10_work 4 rfl) ?_
    refine pv_getR (k := 0) (j := 9) (ci := 10) (pc := 9) 46 rfl (by decide) pfl_X10_75 (by decide) rfl (by decide) (fm_dec dtX10_work 5 rfl) ?_
    refine pv_getI (k := 46) (j := 2) (ci := 5) (pc := 12) pfl_X10_126 (by decide) rfl (by decide) (fm_dec dtX10_work 6 rfl) ?_
    refine pv_bipush (pc := 15) (v := 16) (by decide) (fm_dec dtX10_work 7 rfl) ?_
    refine pv_icmp_lt (pc := 17) 23 (by decide) (fm_dec dtX10_work 8 rfl) (fun hc17 => ?_) (fun hc17 => ?_)
    · refine pv_aloadn (pc := 23) (n := 0) 0 rfl rfl (fm_dec dtX10_work 11 rfl) ?_
      refine pv_getR (k := 0) (j := 5) (ci := 10) (pc := 24) 28 rfl (by decide) pfl_X10_43 (by decide) rfl (by decide) (fm_dec dtX10_work 12 rfl) ?_
      refine pv_aloadn (pc := 27) (n := 0) 0 rfl rfl (fm_dec dtX10_work 13 rfl) ?_
      refine pv_getR (k := 0) (j := 0) (ci := 10) (pc := 28) 1 rfl (by decide) pfl_X10_12 (by decide) rfl (by decide) (fm_dec dtX10_work 14 rfl) ?_
      refine pv_aloadn (pc := 31) (n := 0) 0 rfl rfl (fm_dec dtX10_work 15 rfl) ?_
      refine pv_getR (k := 0) (j := 1) (ci := 10) (pc := 32) 3 rfl (by decide) pfl_X10_19 (by decide) rfl (by decide) (fm_dec dtX10_work 16 rfl) ?_
      refine pv_getI (k := 3) (j := 9) (ci := 8) (pc := 35) pfl_X10_138 (by decide) rfl (by decide) (fm_dec dtX10_work 17 rfl) ?_
      refine pv_invV2 (k := 28) (d' := 27) (pc := 38) pcv_X10_142 (by decide) rfl (Nat.le_of_ble_eq_true rfl) (by decide) (fm_dec dtX10_work 18 rfl) ?_
      refine c_xread hI5 (hI5.1 3 9 (by decide)) (fun M38 z hI38 f38 h4 hz hz2 hS => ?_) (fun M38 hI38 f38 => ?_)  
      · refine pv_then1 ?_
        refine pv_if_ne (pc := 41) 55 (by decide) (fm_dec dtX10_work 19 rfl) (fun _ => ?_) (fun hc41 => by exfalso; revert hc41; decide)
        refine pv_aloadn (pc := 55) (n := 0) 0 rfl rfl (fm_dec dtX10_work 26 rfl) ?_
        refine pv_getR (k := 0) (j := 9) (ci := 10) (pc := 56) 46 rfl (by decide) pfl_X10_75 (by decide) rfl (by decide) (fm_dec dtX10_work 27 rfl) ?_
        refine pv_invV0 (k := 46) (d' := 1) (pc := 59) pcv_X10_145 (by decide) rfl (Nat.le_of_ble_eq_true rfl) (by decide) (fm_dec dtX10_work 28 rfl) ?_
        refine s_keepx hI38 (fun M59 hI59 f59 => ?_)
        refine pv_then0 ?_
        have hQ9 : xQ M59 z 0 := ⟨hz2, fun i a b => (hS i a b).up (Nat.le_refl _) (fun k hk => (f59 k i (kpW_k (by omega))).1), hI59, (by rw [(f59 28 4 (kpW_k (by decide))).1]; exact h4), by decide⟩
        refine pv_aloadn (pc := 62) (n := 0) 0 rfl rfl (fm_dec dtX10_work 29 rfl) ?_
        refine pv_getR (k := 0) (j := 5) (ci := 10) (pc := 63) 28 rfl (by decide) pfl_X10_43 (by decide) rfl (by decide) (fm_dec dtX10_work 30 rfl) ?_
        refine pv_aloadn (pc := 66) (n := 0) 0 rfl rfl (fm_dec dtX10_work 31 rfl) ?_
        refine pv_getR (k := 0) (j := 6) (ci := 10) (pc := 67) 32 rfl (by decide) pfl_X10_52 (by decide) rfl (by decide) (fm_dec dtX10_work 32 rfl) ?_
        refine pv_aloadn (pc := 70) (n := 0) 0 rfl rfl (fm_dec dtX10_work 33 rfl) ?_
        refine pv_getR (k := 0) (j := 9) (ci := 10) (pc := 71) 46 rfl (by decide) pfl_X10_75 (by decide) rfl (by decide) (fm_dec dtX10_work 34 rfl) ?_
        refine pv_getR (k := 46) (j := 0) (ci := 5) (pc := 74) 47 rfl (by decide) pfl_X10_90 (by decide) rfl (by decide) (fm_dec dtX10_work 35 rfl) ?_
        refine pv_iconst (pc := 77) (v := 0) (by decide) (fm_dec dtX10_work 36 rfl) ?_
        refine pv_aloadn (pc := 78) (n := 0) 0 rfl rfl (fm_dec dtX10_work 37 rfl) ?_
        refine pv_getR (k := 0) (j := 5) (ci := 10) (pc := 79) 28 rfl (by decide) pfl_X10_43 (by decide) rfl (by decide) (fm_dec dtX10_work 38 rfl) ?_
        refine pv_getI (k := 28) (j := 3) (ci := 9) (pc := 82) pfl_X10_148 (by decide) rfl (by decide) (fm_dec dtX10_work 39 rfl) ?_
        refine pv_iconst (pc := 85) (v := 0) (by decide) (fm_dec dtX10_work 40 rfl) ?_
        refine pv_invV5 (k := 28) (d' := (12 + 200)) (pc := 86) pcv_X10_151 (by decide) rfl (Nat.le_of_ble_eq_true rfl) (by decide) (fm_dec dtX10_work 41 rfl) ?_
        refine xp_G (xp_P 200) M59 _ z 0 0 z _ 0 0 hQ9 (by omega) (by decide) (by rw [(f59 28 3 (kpW_k (by decide))).1]; exact hz) (Nat.le_refl _) (fun M86 g86 hI86 f86 hg86 _ _ => ?_) 
        refine pv_then0 ?_
        refine pv_aloadn (pc := 89) (n := 0) 0 rfl rfl (fm_dec dtX10_work 42 rfl) ?_
        refine pv_aloadn (pc := 90) (n := 0) 0 rfl rfl (fm_dec dtX10_work 43 rfl) ?_
        refine pv_getR (k := 0) (j := 5) (ci := 10) (pc := 91) 28 rfl (by decide) pfl_X10_43 (by decide) rfl (by decide) (fm_dec dtX10_work 44 rfl) ?_
        refine pv_getI (k := 28) (j := 6) (ci := 9) (pc := 94) pfl_X10_155 (by decide) rfl (by decide) (fm_dec dtX10_work 45 rfl) ?_
        refine pv_putI (k := 0) (j := 14) (ci := 10) (pc := 97) pfl_X10_132 (by decide) rfl (by decide) (fm_dec dtX10_work 46 rfl) ?_
        refine pv_aloadn (pc := 100) (n := 0) 0 rfl rfl (fm_dec dtX10_work 47 rfl) ?_
        refine pv_getR (k := 0) (j := 7) (ci := 10) (pc := 101) 34 rfl (by decide) pfl_X10_61 (by decide) rfl (by decide) (fm_dec dtX10_work 48 rfl) ?_
        refine pv_invV0 (k := 34) (d' := 0) (pc := 104) pcv_X10_135 (by decide) rfl (Nat.le_of_ble_eq_true rfl) (by decide) (fm_dec dtX10_work 49 rfl) ?_
        refine s_forget (xInv.put hI86 (scq_t _)) (fun M104 hI104 f104 => ?_)
        refine pv_then0 ?_
        refine pv_aloadn (pc := 107) (n := 0) 0 rfl rfl (fm_dec dtX10_work 50 rfl) ?_
        refine pv_getR (k := 0) (j := 5) (ci := 10) (pc := 108) 28 rfl (by decide) pfl_X10_43 (by decide) rfl (by decide) (fm_dec dtX10_work 51 rfl) ?_
        refine pv_getI (k := 28) (j := 5) (ci := 9) (pc := 111) pfl_X10_158 (by decide) rfl (by decide) (fm_dec dtX10_work 52 rfl) ?_
        exact pv_ireturn (pc := 114) rfl (fm_dec dtX10_work 53 rfl) (hq _ _ ((kp_xI (((kp_op.trans (kp_of f38 (by decide))).trans (kp_of f59 (by decide))).trans (kp_of f86 (by decide))) (by decide)).trans (kp_of f104 (by decide))))
      · refine pv_then1 ?_
        refine pv_if_ne (pc := 41) 55 (by decide) (fm_dec dtX10_work 19 rfl) (fun hc41 => by exfalso; revert hc41; decide) (fun _ => ?_)
        refine pv_aloadn (pc := 44) (n := 0) 0 rfl rfl (fm_dec dtX10_work 20 rfl) ?_
        refine pv_getR (k := 0) (j := 0) (ci := 10) (pc := 45) 1 rfl (by decide) pfl_X10_12 (by decide) rfl (by decide) (fm_dec dtX10_work 21 rfl) ?_
        refine pv_getI (k := 1) (j := 4) (ci := 7) (pc := 48) pfl_X10_116 (by decide) rfl (by decide) (fm_dec dtX10_work 22 rfl) ?_
        refine pv_bipush (pc := 51) (v := 10) (by decide) (fm_dec dtX10_work 23 rfl) ?_
        refine pv_isub (pc := 53) (fm_dec dtX10_work 24 rfl) ?_
        exact pv_ireturn (pc := 54) rfl (fm_dec dtX10_work 25 rfl) (hq _ _ (kp_op.trans (kp_of f38 (by decide))))
    · refine pv_bipush (pc := 20) (v := (-20)) (by decide) (fm_dec dtX10_work 9 rfl) ?_
      exact pv_ireturn (pc := 22) rfl (fm_dec dtX10_work 10 rfl) (hq _ _ kp_op)
  · refine pv_thenX ?_
    exact hq _ _ (kp_xI (kpt.refl M) (by decide))
set_option maxRecDepth 20000 in
theorem wk_h0 {Q : fmR → fmM → Prop} {M : fmM} {nn : Int32} {ss : tS} {l w : Nat} (hf : M.1 0 5 = 0) (hI : scInv Tm invM M) (hw : (M.1 0 32).toInt = w) (hw16 : w < 16) (hR : stRep M 0 ss) (hO : ssOk l 0 ss) (hn : ss.length ≤ 80) (hl : l ≤ 8) (h4 : (M.1 4 0).toInt = l) (h26 : (M.1 0 26).toInt = (ss.length : Int)) (hq : ∀ (n : Int32) (M' : fmM), kpt PMk M M' → Q (.inl (some (.int n))) M') : pvEv Tm 213 qX11_work 101 [some (.ref 0), some (.int nn)] [] M Q := by
  refine pv_aloadn (pc := 101) (n := 0) 0 rfl rfl (fm_dec dtX11_work 53 rfl) ?_
  refine pv_getI (k := 0) (j := 5) (ci := 11) (pc := 102) pfl_X11_117 (by decide) rfl (by decide) (fm_dec dtX11_work 54 rfl) ?_
  refine pv_if_eq (pc := 105) 113 (by decide) (fm_dec dtX11_work 55 rfl) (fun _ => ?_) (fun hc105 => by exfalso; exact hc105 hf)
  refine pv_aloadn (pc := 113) (n := 0) 0 rfl rfl (fm_dec dtX11_work 59 rfl) ?_
  refine pv_iconst (pc := 114) (v := (-1)) (by decide) (fm_dec dtX11_work 60 rfl) ?_
  refine pv_putI (k := 0) (j := 3) (ci := 11) (pc := 115) pfl_X11_9 (by decide) rfl (by decide) (fm_dec dtX11_work 61 rfl) ?_
  refine pv_aloadn (pc := 118) (n := 0) 0 rfl rfl (fm_dec dtX11_work 62 rfl) ?_
  refine pv_getR (k := 0) (j := 27) (ci := 11) (pc := 119) 7 rfl (by decide) pfl_X11_61 (by decide) rfl (by decide) (fm_dec dtX11_work 63 rfl) ?_
  refine pv_aloadn (pc := 122) (n := 0) 0 rfl rfl (fm_dec dtX11_work 64 rfl) ?_
  refine pv_getR (k := 0) (j := 29) (ci := 11) (pc := 123) 25 rfl (by decide) pfl_X11_67 (by decide) rfl (by decide) (fm_dec dtX11_work 65 rfl) ?_
  refine pv_aloadn (pc := 126) (n := 0) 0 rfl rfl (fm_dec dtX11_work 66 rfl) ?_
  refine pv_getI (k := 0) (j := 32) (ci := 11) (pc := 127) pfl_X11_200 (by decide) rfl (by decide) (fm_dec dtX11_work 67 rfl) ?_
  refine pv_aald (k := 25) (n := 16) (r := (503 + w)) (pc := 130) (by decide) (Or.inr (Or.inr rfl)) rfl (rw_before.inb hw hw16) (rw_before.at hw hw16) (rw_before.2.2.2 _ hw16).2.1 (fm_dec dtX11_work 68 rfl) ?_
  refine pv_iS2 (d' := 0) (pc := 131) pcs_X11_323 (Nat.le_of_ble_eq_true rfl) (by omega) (fm_dec dtX11_work 69 rfl) ?_
  refine s_keep hw16 (hI.put (k := 0) (j := 3) (x := -1) (by decide) rfl) (fun M131 hI131 f131 => ?_) 
  refine pv_then0 ?_
  refine pv_aloadn (pc := 134) (n := 0) 0 rfl rfl (fm_dec dtX11_work 70 rfl) ?_
  refine pv_dup (pc := 135) rfl (fm_dec dtX11_work 71 rfl) ?_
  refine pv_getI (k := 0) (j := 32) (ci := 11) (pc := 136) pfl_X11_200 (by decide) rfl (by decide) (fm_dec dtX11_work 72 rfl) ?_
  refine pv_iconst (pc := 139) (v := 1) (by decide) (fm_dec dtX11_work 73 rfl) ?_
  refine pv_iadd (pc := 140) (fm_dec dtX11_work 74 rfl) ?_
  refine pv_putI (k := 0) (j := 32) (ci := 11) (pc := 141) pfl_X11_200 (by decide) rfl (by decide) (fm_dec dtX11_work 75 rfl) ?_
  refine pv_aloadn (pc := 144) (n := 0) 0 rfl rfl (fm_dec dtX11_work 76 rfl) ?_
  refine pv_iconst (pc := 145) (v := 0) (by decide) (fm_dec dtX11_work 77 rfl) ?_
  refine pv_putI (k := 0) (j := 36) (ci := 11) (pc := 146) pfl_X11_310 (by decide) rfl (by decide) (fm_dec dtX11_work 78 rfl) ?_
  refine pv_aloadn (pc := 149) (n := 0) 0 rfl rfl (fm_dec dtX11_work 79 rfl) ?_
  refine pv_iconst (pc := 150) (v := 0) (by decide) (fm_dec dtX11_work 80 rfl) ?_
  refine pv_putI (k := 0) (j := 37) (ci := 11) (pc := 151) pfl_X11_320 (by decide) rfl (by decide) (fm_dec dtX11_work 81 rfl) ?_
  refine pv_aloadn (pc := 154) (n := 0) 0 rfl rfl (fm_dec dtX11_work 82 rfl) ?_
  refine pv_iconst (pc := 155) (v := 0) (by decide) (fm_dec dtX11_work 83 rfl) ?_
  refine pv_putI (k := 0) (j := 33) (ci := 11) (pc := 156) pfl_X11_203 (by decide) rfl (by decide) (fm_dec dtX11_work 84 rfl) ?_
  have h32 : M131.1 0 32 = M.1 0 32 := (f131 0 32 rfl).1
  have hI5 : scInv Tm invM (wkM M131) := (by unfold wkM; refine inv_c0g (inv_c0g (inv_c0g (hI131.put (k := 0) (j := 32) ?_ rfl) (Or.inr (Or.inl rfl))) (Or.inr (Or.inr rfl))) (Or.inl rfl); rw [h32]; have h9 := i32_p1 hw (by omega); exact ⟨by show (0 : Int) ≤ _; omega, by show _ ≤ (16 : Int); omega⟩)
  have ek : ∀ k j, k ≠ 0 → k < 503 → (wkM M131).1 k j = M.1 k j := fun k j h0 h1 => (by unfold wkM; rw [fmI_k _ _ h0, fmI_k _ _ h0, fmI_k _ _ h0, fmI_k _ _ h0, (f131 k j (cpW_k h1)).1, fmI_k _ _ h0])
  have e26 : (wkM M131).1 0 26 = M.1 0 26 := (by unfold wkM; rw [fmI_j _ _ (by decide), fmI_j _ _ (by decide), fmI_j _ _ (by decide), fmI_j _ _ (by decide), (f131 0 26 rfl).1, fmI_j _ _ (by decide)])
  have hG5 : gSt (wkM M131) ss.length l 0 := gSt_of (hR.of (by omega) (fun k j a b => ek k j (by omega) b)) hO hn hl (by rw [ek 4 0 (by decide) (by decide)]; exact h4) hI5 rfl
  refine pv_aloadn (pc := 159) (n := 0) 0 rfl rfl (fm_dec dtX11_work 85 rfl) ?_
  refine pv_iconst (pc := 160) (v := 0) (by decide) (fm_dec dtX11_work 86 rfl) ?_
  refine pv_aloadn (pc := 161) (n := 0) 0 rfl rfl (fm_dec dtX11_work 87 rfl) ?_
  refine pv_getI (k := 0) (j := 26) (ci := 11) (pc := 162) pfl_X11_250 (by decide) rfl (by decide) (fm_dec dtX11_work 88 rfl) ?_
  refine pv_invV2 (k := 0) (d' := (12 + 200)) (pc := 165) pcv_X11_313 (by decide) rfl (Nat.le_of_ble_eq_true rfl) (by omega) (fm_dec dtX11_work 89 rfl) ?_
  refine gs_G (gs_P 200) _ _ ss.length l 0 0 ss.length 0 _ hG5 (by omega) (by decide) ((congrArg Int32.toInt e26).trans h26) (Nat.le_refl _) (fun M165 g165 hI165 f165 hg165 _ _ => ?_) 
  refine pv_then0 ?_
  refine pv_aloadn (pc := 168) (n := 0) 0 rfl rfl (fm_dec dtX11_work 90 rfl) ?_
  refine pv_getI (k := 0) (j := 37) (ci := 11) (pc := 169) pfl_X11_320 (by decide) rfl (by decide) (fm_dec dtX11_work 91 rfl) ?_
  exact pv_ireturn (pc := 172) rfl (fm_dec dtX11_work 92 rfl) (hq _ M165 (by refine kpt.trans (fun k j hk => ?_) (kp_of f165 (by decide)); have h9 := kpm_k hk; rw [fmI_at, if_neg (by omega), fmI_at, if_neg (by omega), fmI_at, if_neg (by omega), fmI_at, if_neg (by omega), (f131 k j (cpW_k (by omega))).1, fmI_at, if_neg (by omega)]))
set_option maxRecDepth 20000 in
theorem c_hwork {M : fmM} {Q : fmR → fmM → Prop} {nn : Int32} (hI : scInv Tm invM M) (hq : ∀ (r : fmR) (M' : fmM), kpt PMk M M' → Q r M') : pvGood Tm 213 qX11_work [.ref 0, .int nn] M Q := by
  refine pvGood_of (Nat.le_of_ble_eq_true rfl) ?_
  show pvEv Tm 213 qX11_work 0 [some (.ref 0), some (.int nn)] [] M Q
  obtain ⟨l, h4, hl⟩ := told8 hI
  obtain ⟨w, hw, hw16⟩ := works16 hI
  have hI0 := hI.p00 (x := 0) (Or.inl rfl)
  have hfed := inv_fed hI
  refine pv_aloadn (pc := 0) (n := 0) 0 rfl rfl (fm_dec dtX11_work 0 rfl) ?_
  refine pv_iconst (pc := 1) (v := 0) (by decide) (fm_dec dtX11_work 1 rfl) ?_
  refine pv_putI (k := 0) (j := 0) (ci := 11) (pc := 2) pfl_X11_101 (by decide) rfl (by decide) (fm_dec dtX11_work 2 rfl) ?_
  refine pv_aloadn (pc := 5) (n := 0) 0 rfl rfl (fm_dec dtX11_work 3 rfl) ?_
  refine pv_iloadn (pc := 6) (n := 1) 1 rfl rfl (fm_dec dtX11_work 4 rfl) ?_
  refine pv_iconst (pc := 7) (v := 0) (by decide) (fm_dec dtX11_work 5 rfl) ?_
  refine pv_aloadn (pc := 8) (n := 0) 0 rfl rfl (fm_dec dtX11_work 6 rfl) ?_
  refine pv_getI (k := 0) (j := 1) (ci := 11) (pc := 9) pfl_X11_104 (by decide) rfl (by decide) (fm_dec dtX11_work 7 rfl) ?_
  refine pv_iS3 (d' := 0) (pc := 12) pcs_X11_135 (Nat.le_of_ble_eq_true rfl) (by decide) (fm_dec dtX11_work 8 rfl) ?_
  refine c_in (fun h12a h12b => ?_) (fun h12 => ?_)
  · refine pv_then1 ?_
    refine pv_if_eq (pc := 15) 25 (by decide) (fm_dec dtX11_work 9 rfl) (fun hc15 => by exfalso; revert hc15; decide) (fun _ => ?_)
    refine pv_iloadn (pc := 18) (n := 1) 1 rfl rfl (fm_dec dtX11_work 10 rfl) ?_
    refine pv_sipush (pc := 19) (v := 150) (by decide) (fm_dec dtX11_work 11 rfl) ?_
    refine pv_icmp_le (pc := 22) 29 (by decide) (fm_dec dtX11_work 12 rfl) (fun hc22 => ?_) (fun hc22 => ?_)
    · refine pv_iconst (pc := 29) (v := 0) (by decide) (fm_dec dtX11_work 15 rfl) ?_
      refine pv_iconst (pc := 30) (v := 1) (by decide) (fm_dec dtX11_work 16 rfl) ?_
      refine pv_iconst (pc := 31) (v := 1) (by decide) (fm_dec dtX11_work 17 rfl) ?_
      refine pv_invV3 (k := 0) (d' := 0) (pc := 32) pcv_X11_177 (by decide) rfl (Nat.le_of_ble_eq_true rfl) (by decide) (fm_dec dtX11_work 18 rfl) ?_
      refine c_badF1 rfl ?_
      refine pv_then1 ?_
      refine pv_if_eq (pc := 35) 40 (by decide) (fm_dec dtX11_work 19 rfl) (fun _ => ?_) (fun hc35 => by exfalso; revert hc35; decide)
      refine pv_aloadn (pc := 40) (n := 0) 0 rfl rfl (fm_dec dtX11_work 22 rfl) ?_
      refine pv_getI (k := 0) (j := 32) (ci := 11) (pc := 41) pfl_X11_200 (by decide) rfl (by decide) (fm_dec dtX11_work 23 rfl) ?_
      refine pv_bipush (pc := 44) (v := 16) (by decide) (fm_dec dtX11_work 24 rfl) ?_
      refine pv_icmp_ne (pc := 46) 62 (by decide) (fm_dec dtX11_work 25 rfl) (fun hc46 => ?_) (fun hc46 => ?_)
      · obtain ⟨n0, hn0⟩ : ∃ n0 : Nat, nn.toInt = n0 := ⟨nn.toInt.toNat, by have h9 : (0 : Int32).toInt = 0 := (by decide); omega⟩
        have hn150 : n0 ≤ 150 := (by have h9 := hc22; rw [sc_le] at h9; have h8 : (150 : Int32).toInt = 150 := (by decide); omega)
        have hn6 : n0 ≤ 600 := (by omega)
        refine pv_aloadn (pc := 62) (n := 0) 0 rfl rfl (fm_dec dtX11_work 34 rfl) ?_
        refine pv_iloadn (pc := 63) (n := 1) 1 rfl rfl (fm_dec dtX11_work 35 rfl) ?_
        refine pv_invV1 (k := 0) (d' := 2) (pc := 64) pcv_X11_181 (by decide) rfl (Nat.le_of_ble_eq_true rfl) (by omega) (fm_dec dtX11_work 36 rfl) ?_
        refine c_starts (n := n0) (M := fmI M 0 0 0) hfed hn6 hn0 (fun M64 h64 => ?_) 
        refine pv_then0 ?_
        refine pv_aloadn (pc := 67) (n := 0) 0 rfl rfl (fm_dec dtX11_work 37 rfl) ?_
        refine pv_iconst (pc := 68) (v := 0) (by decide) (fm_dec dtX11_work 38 rfl) ?_
        refine pv_putI (k := 0) (j := 26) (ci := 11) (pc := 69) pfl_X11_250 (by decide) rfl (by decide) (fm_dec dtX11_work 39 rfl) ?_
        have hI64 := inv_st hI h64
        have hok9 := rT_ok (n := n0) hfed hn6
        have hs0 : sk (rT M n0) 0 ≤ n0 := sp_le tB_1 hok9 (Nat.zero_le _)
        have hIs : scInv Tm invM (fmI M64 0 26 0) := hI64.put (scq_t 0) rfl
        have h4s : ((fmI M64 0 26 0).1 4 0).toInt = l := (by rw [fmI_k _ _ (by decide), st_k h64 (by decide)]; exact h4)
        have hP : srPre (fmI M64 0 26 0) (rT M n0) n0 (sk (rT M n0) 0) 0 0 l := ⟨h64.1.of rfl rfl rfl, h64.2.1, (by show (M64.1 0 8).toInt = _; rw [h64.2.2.1]; decide), by decide, (by rw [fmI_s]; decide), by omega, hn150, h4s, hl⟩
        have hbd := fun e he => wkL_bad hok9 hn150 700 0 (sk (rT M n0) 0) e hs0 (by omega) he (l := l)
        refine wk_loop (l := l) 700 0 _ _ hP (fun a h9 => by have h8 := (hbd _ h9).1.2; exact absurd h8 (show ¬ 9 ≤ 3 by decide)) (fun M2 ss q e h => ?_) (fun M2 k a e hB => ?_)
        · have g := wkL_ok hok9 700 0 _ ss hs0 e
          refine wk_h0 (l := l) (w := w) h.2.1 (inv_sr hIs h.2.2.2.2.2) (by rw [h.2.2.2.2.2.2.1 32 (by decide) (by decide) (by decide) (by decide) (by decide), fmI_j _ _ (by decide), st_j h64 (by decide)]; exact hw) (by have h9 : ¬ w = 16 := (fun h9 => hc46 (i32_ext (hw.trans (by rw [h9]; decide)))); omega) h.2.2.2.2.1 g.1 (by omega) hl (by rw [h.2.2.2.2.2.1 4 0 (by decide) (by omega)]; exact h4s) (by rw [h.2.2.2.1]; congr 1; omega) (fun n M9 h9 => hq _ _ ((kp_mI (kp_st h64) (by decide)).trans ((kp_sr h.2.2.2.2.2).trans h9)))
        · have hk := hbd _ e
          exact wk_e1 hB.nz (hq _ _ (kp_mI ((kp_mI (kp_st h64) (by decide)).trans (kp_sr hB.2.2.2.2)) (by decide)))
      · refine pv_aloadn (pc := 49) (n := 0) 0 rfl rfl (fm_dec dtX11_work 26 rfl) ?_
        refine pv_iconst (pc := 50) (v := 0) (by decide) (fm_dec dtX11_work 27 rfl) ?_
        refine pv_putI (k := 0) (j := 1) (ci := 11) (pc := 51) pfl_X11_104 (by decide) rfl (by decide) (fm_dec dtX11_work 28 rfl) ?_
        refine pv_aloadn (pc := 54) (n := 0) 0 rfl rfl (fm_dec dtX11_work 29 rfl) ?_
        refine pv_iconst (pc := 55) (v := (-1)) (by decide) (fm_dec dtX11_work 30 rfl) ?_
        refine pv_putI (k := 0) (j := 3) (ci := 11) (pc := 56) pfl_X11_9 (by decide) rfl (by decide) (fm_dec dtX11_work 31 rfl) ?_
        refine pv_bipush (pc := 59) (v := (-20)) (by decide) (fm_dec dtX11_work 32 rfl) ?_
        exact pv_ireturn (pc := 61) rfl (fm_dec dtX11_work 33 rfl) (hq _ _ (kp_mI (kp_mI (kp_mI (kpt.refl M) (by decide)) (by decide)) (by decide)))
    · refine pv_iconst (pc := 25) (v := 1) (by decide) (fm_dec dtX11_work 13 rfl) ?_
      refine pv_goto (pc := 26) 30 (by decide) (fm_dec dtX11_work 14 rfl) ?_
      refine pv_iconst (pc := 30) (v := 1) (by decide) (fm_dec dtX11_work 16 rfl) ?_
      refine pv_iconst (pc := 31) (v := 1) (by decide) (fm_dec dtX11_work 17 rfl) ?_
      refine pv_invV3 (k := 0) (d' := 0) (pc := 32) pcv_X11_177 (by decide) rfl (Nat.le_of_ble_eq_true rfl) (by decide) (fm_dec dtX11_work 18 rfl) ?_
      refine c_badT1 rfl (by decide) ?_
      refine pv_then1 ?_
      refine pv_if_eq (pc := 35) 40 (by decide) (fm_dec dtX11_work 19 rfl) (fun hc35 => by exfalso; revert hc35; decide) (fun _ => ?_)
      refine pv_iconst (pc := 38) (v := 0) (by decide) (fm_dec dtX11_work 20 rfl) ?_
      exact pv_ireturn (pc := 39) rfl (fm_dec dtX11_work 21 rfl) (hq _ _ kp_rf)
  · refine pv_then1 ?_
    refine pv_if_eq (pc := 15) 25 (by decide) (fm_dec dtX11_work 9 rfl) (fun _ => ?_) (fun hc15 => by exfalso; revert hc15; decide)
    refine pv_iconst (pc := 25) (v := 1) (by decide) (fm_dec dtX11_work 13 rfl) ?_
    refine pv_goto (pc := 26) 30 (by decide) (fm_dec dtX11_work 14 rfl) ?_
    refine pv_iconst (pc := 30) (v := 1) (by decide) (fm_dec dtX11_work 16 rfl) ?_
    refine pv_iconst (pc := 31) (v := 1) (by decide) (fm_dec dtX11_work 17 rfl) ?_
    refine pv_invV3 (k := 0) (d' := 0) (pc := 32) pcv_X11_177 (by decide) rfl (Nat.le_of_ble_eq_true rfl) (by decide) (fm_dec dtX11_work 18 rfl) ?_
    refine c_badT1 rfl (by decide) ?_
    refine pv_then1 ?_
    refine pv_if_eq (pc := 35) 40 (by decide) (fm_dec dtX11_work 19 rfl) (fun hc35 => by exfalso; revert hc35; decide) (fun _ => ?_)
    refine pv_iconst (pc := 38) (v := 0) (by decide) (fm_dec dtX11_work 20 rfl) ?_
    exact pv_ireturn (pc := 39) rfl (fm_dec dtX11_work 21 rfl) (hq _ _ kp_rf)
theorem s_im0 {M : fmM} {Q : fmR → fmM → Prop} {k0 : Nat} (hk0 : k0 ∈ [82, 118, 154]) (hI : scInv Tx invX M) (q0 : ∀ M' : fmM, scInv Tx invX M' → scFr [(82, 2, 1), (83, 1, 6), (84, 0, 8), (86, 1, 6), (87, 1, 6), (88, 1, 6), (89, 1, 6), (90, 1, 6), (91, 1, 6), (92, 1, 6), (93, 1, 6), (94, 1, 6), (95, 1, 6), (96, 1, 6), (97, 1, 6), (98, 1, 6), (99, 1, 6), (100, 1, 6), (101, 1, 6), (102, 0, 8), (103, 0, 8), (104, 0, 8), (105, 0, 8), (106, 0, 8), (107, 0, 8), (108, 0, 8), (109, 0, 8), (110, 0, 8), (111, 0, 8), (112, 0, 8), (113, 0, 8), (114, 0, 8), (115, 0, 8), (116, 0, 8), (117, 0, 8), (118, 2, 1), (119, 1, 6), (120, 0, 8), (122, 1, 6), (123, 1, 6), (124, 1, 6), (125, 1, 6), (126, 1, 6), (127, 1, 6), (128, 1, 6), (129, 1, 6), (130, 1, 6), (131, 1, 6), (132, 1, 6), (133, 1, 6), (134, 1, 6), (135, 1, 6), (136, 1, 6), (137, 1, 6), (138, 0, 8), (139, 0, 8), (140, 0, 8), (141, 0, 8), (142, 0, 8), (143, 0, 8), (144, 0, 8), (145, 0, 8), (146, 0, 8), (147, 0, 8), (148, 0, 8), (149, 0, 8), (150, 0, 8), (151, 0, 8), (152, 0, 8), (153, 0, 8), (154, 2, 1), (155, 1, 6), (156, 0, 8), (158, 1, 6), (159, 1, 6), (160, 1, 6), (161, 1, 6), (162, 1, 6), (163, 1, 6), (164, 1, 6), (165, 1, 6), (166, 1, 6), (167, 1, 6), (168, 1, 6), (169, 1, 6), (170, 1, 6), (171, 1, 6), (172, 1, 6), (173, 1, 6), (174, 0, 8), (175, 0, 8), (176, 0, 8), (177, 0, 8), (178, 0, 8), (179, 0, 8), (180, 0, 8), (181, 0, 8), (182, 0, 8), (183, 0, 8), (184, 0, 8), (185, 0, 8), (186, 0, 8), (187, 0, 8), (188, 0, 8), (189, 0, 8)] M M' → Q (.inl none) M') : pvGood Tx 1 qX5_copyFrom [.ref k0, .ref 46] M Q := (hh_X5_copyFrom_0 M [] [.ref k0, .ref 46] scEk.n0 ⟨⟨k0, hk0, rfl⟩, ⟨46, by simp, rfl⟩, trivial⟩ (fun f hf => by cases hf) hI).imp (fun r M' h => by
  obtain ⟨⟨o, ho, hr, hf9, hm⟩, h1, h2⟩ := h
  rcases List.mem_cons.mp ho with rfl | ho
  · have hr : r = .inl none := hr; subst hr; exact q0 M' h1 h2
  · cases ho)
theorem s_im1 {M : fmM} {Q : fmR → fmM → Prop} {k1 : Nat} (hk1 : k1 ∈ [82, 118, 154]) (hI : scInv Tx invX M) (q0 : ∀ M' : fmM, scInv Tx invX M' → scFr [(46, 2, 1), (47, 1, 6), (48, 0, 8), (50, 1, 6), (51, 1, 6), (52, 1, 6), (53, 1, 6), (54, 1, 6), (55, 1, 6), (56, 1, 6), (57, 1, 6), (58, 1, 6), (59, 1, 6), (60, 1, 6), (61, 1, 6), (62, 1, 6), (63, 1, 6), (64, 1, 6), (65, 1, 6), (66, 0, 8), (67, 0, 8), (68, 0, 8), (69, 0, 8), (70, 0, 8), (71, 0, 8), (72, 0, 8), (73, 0, 8), (74, 0, 8), (75, 0, 8), (76, 0, 8), (77, 0, 8), (78, 0, 8), (79, 0, 8), (80, 0, 8), (81, 0, 8)] M M' → Q (.inl none) M') : pvGood Tx 1 qX5_copyFrom [.ref 46, .ref k1] M Q := (hh_X5_copyFrom_1 M [] [.ref 46, .ref k1] scEk.n0 ⟨⟨46, by simp, rfl⟩, ⟨k1, hk1, rfl⟩, trivial⟩ (fun f hf => by cases hf) hI).imp (fun r M' h => by
  obtain ⟨⟨o, ho, hr, hf9, hm⟩, h1, h2⟩ := h
  rcases List.mem_cons.mp ho with rfl | ho
  · have hr : r = .inl none := hr; subst hr; exact q0 M' h1 h2
  · cases ho)
theorem xi_at {x : Int32} {i : Nat} (h : x.toInt = i) (h3 : i < 3) : Tx.2.2.2 43 x.toNatClampNeg = 82 + 36 * i := by
  rw [i32_cl h]
  match i, h3 with
  | 0, _ => rfl
  | 1, _ => rfl
  | 2, _ => rfl
  | i + 3, h => omega
theorem xi_kd {i : Nat} (h3 : i < 3) : Tx.2.1 (82 + 36 * i) = Tx.2.1 82 := by
  match i, h3 with
  | 0, _ => rfl
  | 1, _ => rfl
  | 2, _ => rfl
  | i + 3, h => omega
theorem xi_in {i : Nat} (h3 : i < 3) : 82 + 36 * i ∈ [82, 118, 154] := by
  match i, h3 with
  | 0, _ => simp
  | 1, _ => simp
  | 2, _ => simp
  | i + 3, h => omega
set_option maxRecDepth 20000 in
theorem c_ximage {M : fmM} {Q : fmR → fmM → Prop} {i : Nat} (hI : scInv Tx invX M) (hi : (M.1 0 13).toInt = (i : Int)) (h4 : i ≤ 3) (hn : i = 3 → Q (.inl (some (.int (-1)))) M) (hq : i < 3 → ∀ (M' : fmM) (r : Int32), r.toInt = ((i + 1 : Nat) : Int) → M'.1 0 13 = r → Q (.inl (some (.int r))) M') : pvGood Tx 2 qX10_image [.ref 0] M Q := by
  refine pvGood_of (Nat.le_of_ble_eq_true rfl) ?_
  show pvEv Tx 2 qX10_image 0 [some (.ref 0)] [] M Q
  refine pv_aloadn (pc := 0) (n := 0) 0 rfl rfl (fm_dec dtX10_image 0 rfl) ?_
  refine pv_getI (k := 0) (j := 13) (ci := 10) (pc := 1) pfl_X10_129 (by decide) rfl (by decide) (fm_dec dtX10_image 1 rfl) ?_
  refine pv_iconst (pc := 4) (v := 3) (by decide) (fm_dec dtX10_image 2 rfl) ?_
  refine pv_icmp_lt (pc := 5) 10 (by decide) (fm_dec dtX10_image 3 rfl) (fun hc5 => ?_) (fun hc5 => ?_)
  · have z3 : (3 : Int32).toInt = 3 := (by decide)
    have h3 : i < 3 := (by rw [sc_lt] at hc5; omega)
    refine pv_aloadn (pc := 10) (n := 0) 0 rfl rfl (fm_dec dtX10_image 6 rfl) ?_
    refine pv_getR (k := 0) (j := 10) (ci := 10) (pc := 11) 43 rfl (by decide) pfl_X10_79 (by decide) rfl (by decide) (fm_dec dtX10_image 7 rfl) ?_
    refine pv_aloadn (pc := 14) (n := 0) 0 rfl rfl (fm_dec dtX10_image 8 rfl) ?_
    refine pv_getI (k := 0) (j := 13) (ci := 10) (pc := 15) pfl_X10_129 (by decide) rfl (by decide) (fm_dec dtX10_image 9 rfl) ?_
    refine pv_aald (k := 43) (n := 3) (r := (82 + 36 * i)) (pc := 18) (by decide) (Or.inl rfl) rfl (ix_in hi h3) (xi_at hi h3) (by omega) (fm_dec dtX10_image 10 rfl) ?_
    refine pv_aloadn (pc := 19) (n := 0) 0 rfl rfl (fm_dec dtX10_image 11 rfl) ?_
    refine pv_getR (k := 0) (j := 9) (ci := 10) (pc := 20) 46 rfl (by decide) pfl_X10_75 (by decide) rfl (by decide) (fm_dec dtX10_image 12 rfl) ?_
    refine pv_invV1 (k := (82 + 36 * i)) (d' := 1) (pc := 23) pcv_X10_360 (show 82 + 36 * i < 190 by omega) ((xi_kd h3).trans rfl) (Nat.le_of_ble_eq_true rfl) (by decide) (fm_dec dtX10_image 13 rfl) ?_
    refine s_im0 (xi_in h3) hI (fun M23 hI23 f23 => ?_)
    refine pv_then0 ?_
    refine pv_aloadn (pc := 26) (n := 0) 0 rfl rfl (fm_dec dtX10_image 14 rfl) ?_
    refine pv_dup (pc := 27) rfl (fm_dec dtX10_image 15 rfl) ?_
    refine pv_getI (k := 0) (j := 13) (ci := 10) (pc := 28) pfl_X10_129 (by decide) rfl (by decide) (fm_dec dtX10_image 16 rfl) ?_
    refine pv_iconst (pc := 31) (v := 1) (by decide) (fm_dec dtX10_image 17 rfl) ?_
    refine pv_iadd (pc := 32) (fm_dec dtX10_image 18 rfl) ?_
    refine pv_putI (k := 0) (j := 13) (ci := 10) (pc := 33) pfl_X10_129 (by decide) rfl (by decide) (fm_dec dtX10_image 19 rfl) ?_
    refine pv_aloadn (pc := 36) (n := 0) 0 rfl rfl (fm_dec dtX10_image 20 rfl) ?_
    refine pv_getI (k := 0) (j := 13) (ci := 10) (pc := 37) pfl_X10_129 (by decide) rfl (by decide) (fm_dec dtX10_image 21 rfl) ?_
    exact pv_ireturn (pc := 40) rfl (fm_dec dtX10_image 22 rfl) (hq h3 _ _ (by show (M23.1 0 13 + 1).toInt = _; rw [(f23 0 13 rfl).1]; exact i32_p1 hi (by omega)) rfl)
  · refine pv_iconst (pc := 8) (v := (-1)) (by decide) (fm_dec dtX10_image 4 rfl) ?_
    exact pv_ireturn (pc := 9) rfl (fm_dec dtX10_image 5 rfl) (hn (by have z3 : (3 : Int32).toInt = 3 := (by decide); rw [sc_lt] at hc5; omega))
set_option maxRecDepth 20000 in
theorem c_xrest {M : fmM} {Q : fmR → fmM → Prop} {i : Nat} (hI : scInv Tx invX M) (hi : (M.1 0 13).toInt = (i : Int)) (h4 : i ≤ 3) (hn : i = 0 → Q (.inl (some (.int (-1)))) M) (hq : 0 < i → ∀ (M' : fmM) (r : Int32), r.toInt = ((i - 1 : Nat) : Int) → M'.1 0 13 = r → Q (.inl (some (.int r))) M') : pvGood Tx 2 qX10_restore [.ref 0] M Q := by
  refine pvGood_of (Nat.le_of_ble_eq_true rfl) ?_
  show pvEv Tx 2 qX10_restore 0 [some (.ref 0)] [] M Q
  refine pv_aloadn (pc := 0) (n := 0) 0 rfl rfl (fm_dec dtX10_restore 0 rfl) ?_
  refine pv_getI (k := 0) (j := 13) (ci := 10) (pc := 1) pfl_X10_129 (by decide) rfl (by decide) (fm_dec dtX10_restore 1 rfl) ?_
  refine pv_if_gt (pc := 4) 9 (by decide) (fm_dec dtX10_restore 2 rfl) (fun hc4 => ?_) (fun hc4 => ?_)
  · have z0 : (0 : Int32).toInt = 0 := (by decide)
    have h0 : 0 < i := (by rw [sc_lt] at hc4; omega)
    have e1 : (M.1 0 13 - 1).toInt = ((i - 1 : Nat) : Int) := (by have z1 : (1 : Int32).toInt = 1 := (by decide); rw [sc_sub (by omega) (by omega)]; omega)
    have hI1 : scInv Tx invX (fmI M 0 13 (M.1 0 13 - 1)) := xInv.put hI ⟨by show (0 : Int) ≤ _; omega, by show _ ≤ (3 : Int); omega⟩
    refine pv_aloadn (pc := 9) (n := 0) 0 rfl rfl (fm_dec dtX10_restore 5 rfl) ?_
    refine pv_dup (pc := 10) rfl (fm_dec dtX10_restore 6 rfl) ?_
    refine pv_getI (k := 0) (j := 13) (ci := 10) (pc := 11) pfl_X10_129 (by decide) rfl (by decide) (fm_dec dtX10_restore 7 rfl) ?_
    refine pv_iconst (pc := 14) (v := 1) (by decide) (fm_dec dtX10_restore 8 rfl) ?_
    refine pv_isub (pc := 15) (fm_dec dtX10_restore 9 rfl) ?_
    refine pv_putI (k := 0) (j := 13) (ci := 10) (pc := 16) pfl_X10_129 (by decide) rfl (by decide) (fm_dec dtX10_restore 10 rfl) ?_
    refine pv_aloadn (pc := 19) (n := 0) 0 rfl rfl (fm_dec dtX10_restore 11 rfl) ?_
    refine pv_getR (k := 0) (j := 9) (ci := 10) (pc := 20) 46 rfl (by decide) pfl_X10_75 (by decide) rfl (by decide) (fm_dec dtX10_restore 12 rfl) ?_
    refine pv_aloadn (pc := 23) (n := 0) 0 rfl rfl (fm_dec dtX10_restore 13 rfl) ?_
    refine pv_getR (k := 0) (j := 10) (ci := 10) (pc := 24) 43 rfl (by decide) pfl_X10_79 (by decide) rfl (by decide) (fm_dec dtX10_restore 14 rfl) ?_
    refine pv_aloadn (pc := 27) (n := 0) 0 rfl rfl (fm_dec dtX10_restore 15 rfl) ?_
    refine pv_getI (k := 0) (j := 13) (ci := 10) (pc := 28) pfl_X10_129 (by decide) rfl (by decide) (fm_dec dtX10_restore 16 rfl) ?_
    refine pv_aald (k := 43) (n := 3) (r := (82 + 36 * (i - 1))) (pc := 31) (by decide) (Or.inl rfl) rfl (ix_in e1 (by omega)) (xi_at e1 (by omega)) (by omega) (fm_dec dtX10_restore 17 rfl) ?_
    refine pv_invV1 (k := 46) (d' := 1) (pc := 32) pcv_X10_360 (by decide) rfl (Nat.le_of_ble_eq_true rfl) (by decide) (fm_dec dtX10_restore 18 rfl) ?_
    refine s_im1 (xi_in (by omega)) hI1 (fun M32 hI32 f32 => ?_)
    refine pv_then0 ?_
    refine pv_aloadn (pc := 35) (n := 0) 0 rfl rfl (fm_dec dtX10_restore 19 rfl) ?_
    refine pv_iconst (pc := 36) (v := 0) (by decide) (fm_dec dtX10_restore 20 rfl) ?_
    refine pv_putI (k := 0) (j := 14) (ci := 10) (pc := 37) pfl_X10_132 (by decide) rfl (by decide) (fm_dec dtX10_restore 21 rfl) ?_
    refine pv_aloadn (pc := 40) (n := 0) 0 rfl rfl (fm_dec dtX10_restore 22 rfl) ?_
    refine pv_getR (k := 0) (j := 7) (ci := 10) (pc := 41) 34 rfl (by decide) pfl_X10_61 (by decide) rfl (by decide) (fm_dec dtX10_restore 23 rfl) ?_
    refine pv_invV0 (k := 34) (d' := 0) (pc := 44) pcv_X10_135 (by decide) rfl (Nat.le_of_ble_eq_true rfl) (by decide) (fm_dec dtX10_restore 24 rfl) ?_
    refine s_forget (xInv.put hI32 (scq_t _)) (fun M44 hI44 f44 => ?_)
    refine pv_then0 ?_
    refine pv_aloadn (pc := 47) (n := 0) 0 rfl rfl (fm_dec dtX10_restore 25 rfl) ?_
    refine pv_getI (k := 0) (j := 13) (ci := 10) (pc := 48) pfl_X10_129 (by decide) rfl (by decide) (fm_dec dtX10_restore 26 rfl) ?_
    exact pv_ireturn (pc := 51) rfl (fm_dec dtX10_restore 27 rfl) (hq h0 _ _ (by rw [(f44 0 13 rfl).1]; show (M32.1 0 13).toInt = _; rw [(f32 0 13 rfl).1]; exact e1) rfl)
  · refine pv_iconst (pc := 7) (v := (-1)) (by decide) (fm_dec dtX10_restore 3 rfl) ?_
    exact pv_ireturn (pc := 8) rfl (fm_dec dtX10_restore 4 rfl) (hn (by have z0 : (0 : Int32).toInt = 0 := (by decide); rw [sc_lt] at hc4; omega))
set_option maxRecDepth 20000 in
theorem c_mimage {M : fmM} {Q : fmR → fmM → Prop} {i : Nat} (hi : (M.1 0 34).toInt = (i : Int)) (h4 : i ≤ 3) (hn : i = 3 → ∀ M' : fmM, M'.1 0 34 = M.1 0 34 → Q (.inl (some (.int (-1)))) M') (hq : i < 3 → ∀ (M' : fmM) (r : Int32), r.toInt = ((i + 1 : Nat) : Int) → M'.1 0 34 = r → Q (.inl (some (.int r))) M') : pvGood Tm 2 qX11_image [.ref 0] M Q := by
  refine pvGood_of (Nat.le_of_ble_eq_true rfl) ?_
  show pvEv Tm 2 qX11_image 0 [some (.ref 0)] [] M Q
  refine pv_aloadn (pc := 0) (n := 0) 0 rfl rfl (fm_dec dtX11_image 0 rfl) ?_
  refine pv_iconst (pc := 1) (v := 0) (by decide) (fm_dec dtX11_image 1 rfl) ?_
  refine pv_putI (k := 0) (j := 0) (ci := 11) (pc := 2) pfl_X11_101 (by decide) rfl (by decide) (fm_dec dtX11_image 2 rfl) ?_
  refine pv_aloadn (pc := 5) (n := 0) 0 rfl rfl (fm_dec dtX11_image 3 rfl) ?_
  refine pv_getI (k := 0) (j := 34) (ci := 11) (pc := 6) pfl_X11_206 (by decide) rfl (by decide) (fm_dec dtX11_image 4 rfl) ?_
  refine pv_iconst (pc := 9) (v := 3) (by decide) (fm_dec dtX11_image 5 rfl) ?_
  refine pv_icmp_ne (pc := 10) 15 (by decide) (fm_dec dtX11_image 6 rfl) (fun hc10 => ?_) (fun hc10 => ?_)
  · have z3 : (3 : Int32).toInt = 3 := (by decide)
    have h3 : i < 3 := (by have h9 : ¬ i = 3 := (fun h9 => hc10 (i32_ext (by show (M.1 0 34).toInt = _; omega))); omega)
    refine pv_aloadn (pc := 15) (n := 0) 0 rfl rfl (fm_dec dtX11_image 9 rfl) ?_
    refine pv_aloadn (pc := 16) (n := 0) 0 rfl rfl (fm_dec dtX11_image 10 rfl) ?_
    refine pv_getR (k := 0) (j := 30) (ci := 11) (pc := 17) 26 rfl (by decide) pfl_X11_70 (by decide) rfl (by decide) (fm_dec dtX11_image 11 rfl) ?_
    refine pv_aloadn (pc := 20) (n := 0) 0 rfl rfl (fm_dec dtX11_image 12 rfl) ?_
    refine pv_getI (k := 0) (j := 34) (ci := 11) (pc := 21) pfl_X11_206 (by decide) rfl (by decide) (fm_dec dtX11_image 13 rfl) ?_
    refine pv_aald (k := 26) (n := 3) (r := (519 + i)) (pc := 24) (by decide) (Or.inr (Or.inr rfl)) rfl (rw_kept.inb hi h3) (rw_kept.at hi h3) (rw_kept.2.2.2 i h3).2.1 (fm_dec dtX11_image 14 rfl) ?_
    refine pv_iconst (pc := 25) (v := 0) (by decide) (fm_dec dtX11_image 15 rfl) ?_
    refine pv_invV2 (k := 0) (d' := 1) (pc := 26) pcv_X11_443 (by decide) rfl (Nat.le_of_ble_eq_true rfl) (by decide) (fm_dec dtX11_image 16 rfl) ?_
    refine c_putsAll0 h3 (fun M26 p26 => ?_)
    refine pv_then0 ?_
    refine pv_aloadn (pc := 29) (n := 0) 0 rfl rfl (fm_dec dtX11_image 17 rfl) ?_
    refine pv_dup (pc := 30) rfl (fm_dec dtX11_image 18 rfl) ?_
    refine pv_getI (k := 0) (j := 34) (ci := 11) (pc := 31) pfl_X11_206 (by decide) rfl (by decide) (fm_dec dtX11_image 19 rfl) ?_
    refine pv_iconst (pc := 34) (v := 1) (by decide) (fm_dec dtX11_image 20 rfl) ?_
    refine pv_iadd (pc := 35) (fm_dec dtX11_image 21 rfl) ?_
    refine pv_putI (k := 0) (j := 34) (ci := 11) (pc := 36) pfl_X11_206 (by decide) rfl (by decide) (fm_dec dtX11_image 22 rfl) ?_
    refine pv_aloadn (pc := 39) (n := 0) 0 rfl rfl (fm_dec dtX11_image 23 rfl) ?_
    refine pv_getI (k := 0) (j := 34) (ci := 11) (pc := 40) pfl_X11_206 (by decide) rfl (by decide) (fm_dec dtX11_image 24 rfl) ?_
    exact pv_ireturn (pc := 43) rfl (fm_dec dtX11_image 25 rfl) (hq h3 _ _ (by show (M26.1 0 34 + 1).toInt = _; rw [p26.2.1 0 34 (by omega) (by decide)]; exact i32_p1 hi (by omega)) rfl)
  · refine pv_iconst (pc := 13) (v := (-1)) (by decide) (fm_dec dtX11_image 7 rfl) ?_
    exact pv_ireturn (pc := 14) rfl (fm_dec dtX11_image 8 rfl) (hn (by have z3 : (3 : Int32).toInt = 3 := (by decide); have h9 : (M.1 0 34).toInt = (3 : Int32).toInt := congrArg Int32.toInt hc10; omega) _ rfl)
theorem sl_34 : ∀ t, t < 239 → ¬ ((sl t).1 = 0 ∧ (sl t).2 = 34) := by decide +kernel
set_option maxRecDepth 20000 in
theorem c_mrest {M : fmM} {Q : fmR → fmM → Prop} {i : Nat} (hi : (M.1 0 34).toInt = (i : Int)) (h4 : i ≤ 3) (hn : i = 0 → ∀ M' : fmM, M'.1 0 34 = M.1 0 34 → Q (.inl (some (.int (-1)))) M') (hq : 0 < i → ∀ (M' : fmM) (r : Int32), r.toInt = ((i - 1 : Nat) : Int) → M'.1 0 34 = r → Q (.inl (some (.int r))) M') : pvGood Tm 2 qX11_restore [.ref 0] M Q := by
  refine pvGood_of (Nat.le_of_ble_eq_true rfl) ?_
  show pvEv Tm 2 qX11_restore 0 [some (.ref 0)] [] M Q
  refine pv_aloadn (pc := 0) (n := 0) 0 rfl rfl (fm_dec dtX11_restore 0 rfl) ?_
  refine pv_iconst (pc := 1) (v := 0) (by decide) (fm_dec dtX11_restore 1 rfl) ?_
  refine pv_putI (k := 0) (j := 0) (ci := 11) (pc := 2) pfl_X11_101 (by decide) rfl (by decide) (fm_dec dtX11_restore 2 rfl) ?_
  refine pv_aloadn (pc := 5) (n := 0) 0 rfl rfl (fm_dec dtX11_restore 3 rfl) ?_
  refine pv_getI (k := 0) (j := 34) (ci := 11) (pc := 6) pfl_X11_206 (by decide) rfl (by decide) (fm_dec dtX11_restore 4 rfl) ?_
  refine pv_if_ne (pc := 9) 14 (by decide) (fm_dec dtX11_restore 5 rfl) (fun hc9 => ?_) (fun hc9 => ?_)
  · have hi0 : ((fmI M 0 0 0).1 0 34).toInt = (i : Int) := hi
    have h0 : 0 < i := (by have h9 : ¬ i = 0 := (fun h9 => hc9 (i32_ext (by show (M.1 0 34).toInt = _; rw [hi, h9]; decide))); omega)
    have e1 : ((fmI M 0 0 0).1 0 34 - 1).toInt = ((i - 1 : Nat) : Int) := (by have z1 : (1 : Int32).toInt = 1 := (by decide); rw [sc_sub (by omega) (by omega)]; omega)
    refine pv_aloadn (pc := 14) (n := 0) 0 rfl rfl (fm_dec dtX11_restore 8 rfl) ?_
    refine pv_dup (pc := 15) rfl (fm_dec dtX11_restore 9 rfl) ?_
    refine pv_getI (k := 0) (j := 34) (ci := 11) (pc := 16) pfl_X11_206 (by decide) rfl (by decide) (fm_dec dtX11_restore 10 rfl) ?_
    refine pv_iconst (pc := 19) (v := 1) (by decide) (fm_dec dtX11_restore 11 rfl) ?_
    refine pv_isub (pc := 20) (fm_dec dtX11_restore 12 rfl) ?_
    refine pv_putI (k := 0) (j := 34) (ci := 11) (pc := 21) pfl_X11_206 (by decide) rfl (by decide) (fm_dec dtX11_restore 13 rfl) ?_
    refine pv_aloadn (pc := 24) (n := 0) 0 rfl rfl (fm_dec dtX11_restore 14 rfl) ?_
    refine pv_aloadn (pc := 25) (n := 0) 0 rfl rfl (fm_dec dtX11_restore 15 rfl) ?_
    refine pv_getR (k := 0) (j := 30) (ci := 11) (pc := 26) 26 rfl (by decide) pfl_X11_70 (by decide) rfl (by decide) (fm_dec dtX11_restore 16 rfl) ?_
    refine pv_aloadn (pc := 29) (n := 0) 0 rfl rfl (fm_dec dtX11_restore 17 rfl) ?_
    refine pv_getI (k := 0) (j := 34) (ci := 11) (pc := 30) pfl_X11_206 (by decide) rfl (by decide) (fm_dec dtX11_restore 18 rfl) ?_
    refine pv_aald (k := 26) (n := 3) (r := (519 + (i - 1))) (pc := 33) (by decide) (Or.inr (Or.inr rfl)) rfl (rw_kept.inb e1 (by omega)) (rw_kept.at e1 (by omega)) (rw_kept.2.2.2 (i - 1) (by omega)).2.1 (fm_dec dtX11_restore 19 rfl) ?_
    refine pv_iconst (pc := 34) (v := 1) (by decide) (fm_dec dtX11_restore 20 rfl) ?_
    refine pv_invV2 (k := 0) (d' := 1) (pc := 35) pcv_X11_443 (by decide) rfl (Nat.le_of_ble_eq_true rfl) (by decide) (fm_dec dtX11_restore 21 rfl) ?_
    refine c_putsAll1 (i := i - 1) (by omega) (fun M35 p35 => ?_)
    refine pv_then0 ?_
    refine pv_aloadn (pc := 38) (n := 0) 0 rfl rfl (fm_dec dtX11_restore 22 rfl) ?_
    refine pv_iconst (pc := 39) (v := 0) (by decide) (fm_dec dtX11_restore 23 rfl) ?_
    refine pv_putI (k := 0) (j := 33) (ci := 11) (pc := 40) pfl_X11_203 (by decide) rfl (by decide) (fm_dec dtX11_restore 24 rfl) ?_
    refine pv_aloadn (pc := 43) (n := 0) 0 rfl rfl (fm_dec dtX11_restore 25 rfl) ?_
    refine pv_getI (k := 0) (j := 34) (ci := 11) (pc := 44) pfl_X11_206 (by decide) rfl (by decide) (fm_dec dtX11_restore 26 rfl) ?_
    exact pv_ireturn (pc := 47) rfl (fm_dec dtX11_restore 27 rfl) (hq h0 _ _ (by show (M35.1 0 34).toInt = _; rw [p35.2.1 0 34 (fun t h9 => sl_34 t h9) (by decide)]; exact e1) rfl)
  · refine pv_iconst (pc := 12) (v := (-1)) (by decide) (fm_dec dtX11_restore 6 rfl) ?_
    exact pv_ireturn (pc := 13) rfl (fm_dec dtX11_restore 7 rfl) (hn (by have h9 : (M.1 0 34).toInt = (0 : Int32).toInt := congrArg Int32.toInt hc9; have z0 : (0 : Int32).toInt = 0 := (by decide); omega) _ rfl)
end
-- P 18r
section
def mdw (M' : fmM) (D : dD) : Prop := (M'.1 4 0).toInt = (D.1 : Int) ∧ (M'.1 4 1).toInt = (D.2.2.1 : Int) ∧ (∀ k, 2 ≤ k → k ≤ 5 → (M'.1 4 k).toInt = D.2.2.2.2 k) ∧ (∀ i, i < D.1 → ∀ j, j < 6 → (M'.1 (35 + i) j).toInt = D.2.1 i j) ∧ ∀ i, i < D.2.2.1 → ∀ j, j < 3 → (M'.1 (67 + i) j).toInt = D.2.2.2.1 i j
-- THE CHAIN, exactly
theorem bc8 : ∀ w, w < 256 → bcF (nI w) = nI (pop8 w) := by decide +kernel
def onF (b : Int32) : Int32 := 0 + (b >>> ((0 : Int32) &&& 31) &&& 1) + (b >>> ((1 : Int32) &&& 31) &&& 1) + (b >>> ((2 : Int32) &&& 31) &&& 1) + (b >>> ((3 : Int32) &&& 31) &&& 1) + (b >>> ((4 : Int32) &&& 31) &&& 1) + (b >>> ((5 : Int32) &&& 31) &&& 1) + (b >>> ((6 : Int32) &&& 31) &&& 1) + (b >>> ((7 : Int32) &&& 31) &&& 1)
theorem on8 : ∀ w, w < 256 → onF (nI w) = nI (pop8 w) := by decide +kernel
theorem full8 : ∀ w, w < 256 → pop8 w = 8 → ∀ k, k < 8 → w.testBit k = true := by decide +kernel
theorem has8z : ∀ w, w < 256 → ∀ k, k < 8 → ((nI w >>> (nI k &&& 31) &&& 1) = (0 : Int32) ↔ w.testBit k = false) := by decide +kernel
theorem pop8_1 : ∀ k, k < 8 → pop8 (1 <<< k) = 1 := by decide +kernel
def chS (b : Nat → Int) : Nat → Nat → Nat → Nat × Nat
  | 0, s, l => (s, l)
  | f + 1, s, l => if b l < 0 then (s, l) else if s.testBit (b l).toNat then (s, l) else chS b f (s ||| 1 <<< (b l).toNat) (b l).toNat
theorem ch_no {b : Nat → Int} {m s l : Nat} (h : b l < 0) : chS b m s l = (s, l) := by
  cases m with
  | zero => rfl
  | succ f => exact if_pos h
theorem ch_has {b : Nat → Int} {m s l k : Nat} (h : b l = (k : Int)) (ht : s.testBit k = true) : chS b m s l = (s, l) := by
  cases m with
  | zero => rfl
  | succ f =>
    show (if b l < 0 then (s, l) else if s.testBit (b l).toNat then (s, l) else chS b f (s ||| 1 <<< (b l).toNat) (b l).toNat) = (s, l)
    rw [if_neg (by omega), h, Int.toNat_natCast, if_pos ht]
theorem ch_go {b : Nat → Int} {f s l k : Nat} (h : b l = (k : Int)) (ht : s.testBit k = false) : chS b (f + 1) s l = chS b f (s ||| 1 <<< k) k := by
  show (if b l < 0 then (s, l) else if s.testBit (b l).toNat then (s, l) else chS b f (s ||| 1 <<< (b l).toNat) (b l).toNat) = _
  rw [if_neg (by omega), h, Int.toNat_natCast, if_neg (by rw [ht]; decide)]
def chR (p : Nat × Nat) (what : Int32) : Int32 := if what = 0 then nI (pop8 p.1) else nI p.2
theorem chR_s {p : Nat × Nat} {what : Int32} (h : what = 0) : chR p what = nI (pop8 p.1) := if_pos h
theorem chR_l {p : Nat × Nat} {what : Int32} (h : ¬ what = 0) : chR p what = nI p.2 := if_neg h
def chB (D : dD) : Nat → Int := fun i => D.2.1 i 5
def chV (D : dD) (x what : Int32) : Int32 := chR (chS (chB D) 7 (1 <<< x.toInt.toNat) x.toInt.toNat) what
theorem by_d {D : dD} {l : Nat} {x : Int32} (hD : dOk D) (hl : l < D.1) (hx : x.toInt = chB D l) (h : ¬ chB D l < 0) : ∃ k : Nat, k < D.1 ∧ k < 8 ∧ chB D l = (k : Int) ∧ x = nI k := by
  have h1 := (hD.2.2.1 l hl).2.2.2.2.2
  have h8 := hD.1
  have e : D.2.1 l 5 = chB D l := rfl
  rw [e] at h1
  exact ⟨(chB D l).toNat, by omega, by omega, by omega, nI_is (by omega) (by omega)⟩
theorem glueN {A : Prop} {v : fmR} {r r2 : fmR} {M : fmM} (hv : ∃ x, v = .inl x) (h : (A ∧ r = v) ∨ (¬ A ∧ r = .inr fmNSE)) (h2 : (A ∧ r2 = v ∧ M.1 0 0 = 0) ∨ (¬ A ∧ M.1 0 0 = 1)) : mtI 0 1 r r2 M := by
  obtain ⟨x, rfl⟩ := hv
  rcases h with ⟨a, rfl⟩ | ⟨a, rfl⟩ <;> rcases h2 with ⟨a2, e2, t⟩ | ⟨a2, t⟩
  · exact ⟨t, e2⟩
  · exact absurd a a2
  · exact absurd a2 a
  · exact ⟨fun h => absurd h (by decide), fun _ => t⟩
theorem glueL {A B : Prop} {v : fmR} {r r2 : fmR} {M : fmM} (hv : ∃ x, v = .inl x) (h : (A ∧ B ∧ r = v) ∨ (¬ A ∧ r = .inr fmNSE) ∨ (A ∧ ¬ B ∧ r = .inr fmIAE)) (h2 : (A ∧ B ∧ r2 = v ∧ M.1 0 0 = 0) ∨ (¬ A ∧ M.1 0 0 = 1) ∨ (A ∧ ¬ B ∧ M.1 0 0 = 2)) : mtI 2 1 r r2 M := by
  obtain ⟨x, rfl⟩ := hv
  rcases h with ⟨a, b, rfl⟩ | ⟨a, rfl⟩ | ⟨a, b, rfl⟩ <;> rcases h2 with ⟨a2, b2, e2, t⟩ | ⟨a2, t⟩ | ⟨a2, b2, t⟩
  · exact ⟨t, e2⟩
  · exact absurd a a2
  · exact absurd b b2
  · exact absurd a2 a
  · exact ⟨fun h => absurd h (by decide), fun _ => t⟩
  · exact absurd a2 a
  · exact absurd b2 b
  · exact absurd a a2
  · exact ⟨fun _ => t, fun h => absurd h (by decide)⟩
/-- a life that is told -/
def inL (D : dD) (x : Int32) : Prop := 0 ≤ x.toInt ∧ x.toInt < (D.1 : Int)
set_option maxRecDepth 20000 in
theorem c_needL {M : fmM} {Q : fmR → fmM → Prop} {x : Int32} (ht : 0 ≤ x.toInt → x.toInt < (M.1 3 9).toInt → Q (.inl none) M) (hf : ¬ (0 ≤ x.toInt ∧ x.toInt < (M.1 3 9).toInt) → Q (.inr fmNSE) (fmI M 0 15 (M.1 0 15 + 1))) : pvGood Tx 0 qX10_needLife [.ref 0, .int x] M Q := by
  refine pvGood_of (Nat.le_of_ble_eq_true rfl) ?_
  show pvEv Tx 0 qX10_needLife 0 [some (.ref 0), some (.int x)] [] M Q
  have z0 : (0 : Int32).toInt = 0 := (by decide)
  refine pv_iloadn (pc := 0) (n := 1) 1 rfl rfl (fm_dec dtX10_needLife 0 rfl) ?_
  refine pv_if_lt (pc := 1) 15 (by decide) (fm_dec dtX10_needLife 1 rfl) (fun hc1 => ?_) (fun hc1 => ?_)
  · refine pv_aloadn (pc := 15) (n := 0) 0 rfl rfl (fm_dec dtX10_needLife 7 rfl) ?_
    refine pv_dup (pc := 16) rfl (fm_dec dtX10_needLife 8 rfl) ?_
    refine pv_getI (k := 0) (j := 15) (ci := 10) (pc := 17) pfl_X10_363 (by decide) rfl (by decide) (fm_dec dtX10_needLife 9 rfl) ?_
    refine pv_iconst (pc := 20) (v := 1) (by decide) (fm_dec dtX10_needLife 10 rfl) ?_
    refine pv_iadd (pc := 21) (fm_dec dtX10_needLife 11 rfl) ?_
    refine pv_putI (k := 0) (j := 15) (ci := 10) (pc := 22) pfl_X10_363 (by decide) rfl (by decide) (fm_dec dtX10_needLife 12 rfl) ?_
    exact pv_thrN (pc := 25) pvK_10 (fm_dec dtX10_needLife 13 rfl) (fm_dec dtX10_needLife 14 rfl) (fm_dec dtX10_needLife 15 rfl) (fm_dec dtX10_needLife 16 rfl) (fm_dec dtX10_needLife 17 rfl) (hf (by intro h9; first | (rw [sc_lt] at hc1; omega) | (rw [sc_lt] at hc12; exact hc12 h9.2)))
  · refine pv_iloadn (pc := 4) (n := 1) 1 rfl rfl (fm_dec dtX10_needLife 2 rfl) ?_
    refine pv_aloadn (pc := 5) (n := 0) 0 rfl rfl (fm_dec dtX10_needLife 3 rfl) ?_
    refine pv_getR (k := 0) (j := 1) (ci := 10) (pc := 6) 3 rfl (by decide) pfl_X10_19 (by decide) rfl (by decide) (fm_dec dtX10_needLife 4 rfl) ?_
    refine pv_getI (k := 3) (j := 9) (ci := 8) (pc := 9) pfl_X10_138 (by decide) rfl (by decide) (fm_dec dtX10_needLife 5 rfl) ?_
    refine pv_icmp_lt (pc := 12) 36 (by decide) (fm_dec dtX10_needLife 6 rfl) (fun hc12 => ?_) (fun hc12 => ?_)
    · exact pv_return (pc := 36) rfl (fm_dec dtX10_needLife 18 rfl) (ht (by rw [sc_lt] at hc1; omega) (by rw [sc_lt] at hc12; exact hc12))
    · refine pv_aloadn (pc := 15) (n := 0) 0 rfl rfl (fm_dec dtX10_needLife 7 rfl) ?_
      refine pv_dup (pc := 16) rfl (fm_dec dtX10_needLife 8 rfl) ?_
      refine pv_getI (k := 0) (j := 15) (ci := 10) (pc := 17) pfl_X10_363 (by decide) rfl (by decide) (fm_dec dtX10_needLife 9 rfl) ?_
      refine pv_iconst (pc := 20) (v := 1) (by decide) (fm_dec dtX10_needLife 10 rfl) ?_
      refine pv_iadd (pc := 21) (fm_dec dtX10_needLife 11 rfl) ?_
      refine pv_putI (k := 0) (j := 15) (ci := 10) (pc := 22) pfl_X10_363 (by decide) rfl (by decide) (fm_dec dtX10_needLife 12 rfl) ?_
      exact pv_thrN (pc := 25) pvK_10 (fm_dec dtX10_needLife 13 rfl) (fm_dec dtX10_needLife 14 rfl) (fm_dec dtX10_needLife 15 rfl) (fm_dec dtX10_needLife 16 rfl) (fm_dec dtX10_needLife 17 rfl) (hf (by intro h9; first | (rw [sc_lt] at hc1; omega) | (rw [sc_lt] at hc12; exact hc12 h9.2)))
theorem c_bits8 {M : fmM} {Q : fmR → fmM → Prop} {w : Nat} (hw : w < 256) (hq : Q (.inl (some (.int (nI (pop8 w))))) M) : pvGood Tx 0 qJ6_bitCount_0f7a4 [.int (nI w)] M Q := c_bits (by rw [bc8 w hw]; exact hq)
set_option maxRecDepth 20000 in
theorem xc_end {Q : fmR → fmM → Prop} {M : fmM} {li wh : Int32} {w l : Nat} {v5 v6 : Option Value} (hw : w < 256) (hq : Q (.inl (some (.int (chR (w, l) wh)))) M) : pvEv Tx 1 qX10_chain 87 [some (.ref 0), some (.int li), some (.int wh), some (.int (nI w)), some (.int (nI l)), v5, v6] [] M Q := by
  refine pv_iloadn (pc := 87) (n := 2) 2 rfl rfl (fm_dec dtX10_chain 49 rfl) ?_
  refine pv_if_ne (pc := 88) 98 (by decide) (fm_dec dtX10_chain 50 rfl) (fun hc88 => ?_) (fun hc88 => ?_)
  · refine pv_iload (pc := 98) (i := 4) rfl (fm_dec dtX10_chain 54 rfl) ?_
    exact pv_ireturn (pc := 100) rfl (fm_dec dtX10_chain 55 rfl) (by rw [chR_l hc88] at hq; exact hq)
  · refine pv_iloadn (pc := 91) (n := 3) 3 rfl rfl (fm_dec dtX10_chain 51 rfl) ?_
    refine pv_iS1 (d' := 0) (pc := 92) pcs_X10_182 (Nat.le_of_ble_eq_true rfl) (by decide) (fm_dec dtX10_chain 52 rfl) ?_
    refine c_bits8 hw ?_
    refine pv_then1 ?_
    refine pv_goto (pc := 95) 100 (by decide) (fm_dec dtX10_chain 53 rfl) ?_
    exact pv_ireturn (pc := 100) rfl (fm_dec dtX10_chain 55 rfl) (by rw [chR_s hc88] at hq; exact hq)
set_option maxRecDepth 20000 in
theorem xc_loop {Q : fmR → fmM → Prop} {M : fmM} {li wh : Int32} {D : dD} (hD : dOk D) (hX : xdw 3 M D) : ∀ (m : Nat) (w l : Nat) (i : Int32) (v6 : Option Value), w < 256 → 8 - pop8 w = m → l < D.1 → i.toInt + m = 7 → Q (.inl (some (.int (chR (chS (chB D) m w l) wh)))) M → pvEv Tx 1 qX10_chain 22 [some (.ref 0), some (.int li), some (.int wh), some (.int (nI w)), some (.int (nI l)), some (.int i), v6] [] M Q := by
  intro m
  induction m using Nat.strongRecOn with
  | _ m ih =>
    intro w l i v6 hw hm hl hi hq
    refine pv_iload (pc := 22) (i := 5) rfl (fm_dec dtX10_chain 16 rfl) ?_
    refine pv_bipush (pc := 24) (v := 8) (by decide) (fm_dec dtX10_chain 17 rfl) ?_
    refine pv_icmp_ge (pc := 26) 87 (by decide) (fm_dec dtX10_chain 18 rfl) (fun hc26 => by exfalso; rw [sc_le] at hc26; have z8 : (8 : Int32).toInt = 8 := (by decide); have h9 := pop8_le w hw; omega) (fun _ => ?_)
    have d8 := hD.1
    have hl8 : l < 8 := (by omega)
    have hl9 : (nI l).toInt = (l : Int) := nI_toInt (by omega)
    have hx9 : (M.1 9 l).toInt = chB D l := hX.2.1 l hl 5 (by decide)
    have z0 : (0 : Int32).toInt = 0 := (by decide)
    refine pv_aloadn (pc := 29) (n := 0) 0 rfl rfl (fm_dec dtX10_chain 19 rfl) ?_
    refine pv_getR (k := 0) (j := 1) (ci := 10) (pc := 30) 3 rfl (by decide) pfl_X10_19 (by decide) rfl (by decide) (fm_dec dtX10_chain 20 rfl) ?_
    refine pv_getR (k := 3) (j := 5) (ci := 8) (pc := 33) 9 rfl (by decide) pfl_X10_222 (by decide) rfl (by decide) (fm_dec dtX10_chain 21 rfl) ?_
    refine pv_iload (pc := 36) (i := 4) rfl (fm_dec dtX10_chain 22 rfl) ?_
    refine pv_iald (k := 9) (n := 8) (pc := 38) (by decide) rfl rfl (ix_in hl9 hl8) (fm_dec dtX10_chain 23 rfl) ?_
    rw [i32_cl hl9]
    refine pv_istore (pc := 39) (i := 6) (by decide) rfl (fm_dec dtX10_chain 24 rfl) ?_
    dsimp only [List.set_cons_zero, List.set_cons_succ]
    refine pv_iload (pc := 41) (i := 6) rfl (fm_dec dtX10_chain 25 rfl) ?_
    refine pv_if_lt (pc := 43) 87 (by decide) (fm_dec dtX10_chain 26 rfl) (fun hc43 => ?_) (fun hc43 => ?_)
    · have e5 : chS (chB D) m w l = (w, l) := ch_no (by rw [sc_lt] at hc43; omega)
      rw [e5] at hq
      exact xc_end hw hq
    · obtain ⟨k, hk, hk8, hkb, hkx⟩ := by_d hD hl hx9 (by rw [sc_lt] at hc43; omega)
      rw [hkx]
      refine pv_iload (pc := 46) (i := 6) rfl (fm_dec dtX10_chain 27 rfl) ?_
      refine pv_aloadn (pc := 48) (n := 0) 0 rfl rfl (fm_dec dtX10_chain 28 rfl) ?_
      refine pv_getR (k := 0) (j := 1) (ci := 10) (pc := 49) 3 rfl (by decide) pfl_X10_19 (by decide) rfl (by decide) (fm_dec dtX10_chain 29 rfl) ?_
      refine pv_getI (k := 3) (j := 9) (ci := 8) (pc := 52) pfl_X10_138 (by decide) rfl (by decide) (fm_dec dtX10_chain 30 rfl) ?_
      refine pv_icmp_ge (pc := 55) 87 (by decide) (fm_dec dtX10_chain 31 rfl) (fun hc55 => by exfalso; rw [sc_le] at hc55; have h9 : (M.1 3 9).toInt = (D.1 : Int) := hX.1.1; have h8 : (nI k).toInt = (k : Int) := nI_toInt (by omega); omega) (fun _ => ?_)
      refine pv_iloadn (pc := 58) (n := 3) 3 rfl rfl (fm_dec dtX10_chain 32 rfl) ?_
      refine pv_iload (pc := 59) (i := 6) rfl (fm_dec dtX10_chain 33 rfl) ?_
      refine pv_ishr (pc := 61) (fm_dec dtX10_chain 34 rfl) ?_
      refine pv_iconst (pc := 62) (v := 1) (by decide) (fm_dec dtX10_chain 35 rfl) ?_
      refine pv_iand (pc := 63) (fm_dec dtX10_chain 36 rfl) ?_
      refine pv_if_eq (pc := 64) 70 (by decide) (fm_dec dtX10_chain 37 rfl) (fun hc64 => ?_) (fun hc64 => ?_)
      · refine pv_iloadn (pc := 70) (n := 3) 3 rfl rfl (fm_dec dtX10_chain 39 rfl) ?_
        refine pv_iconst (pc := 71) (v := 1) (by decide) (fm_dec dtX10_chain 40 rfl) ?_
        refine pv_iload (pc := 72) (i := 6) rfl (fm_dec dtX10_chain 41 rfl) ?_
        refine pv_ishl (pc := 74) (fm_dec dtX10_chain 42 rfl) ?_
        refine pv_ior (pc := 75) (fm_dec dtX10_chain 43 rfl) ?_
        refine pv_istoren (pc := 76) (n := 3) 3 rfl (by decide) rfl (fm_dec dtX10_chain 44 rfl) ?_
        dsimp only [List.set_cons_zero, List.set_cons_succ]
        refine pv_iload (pc := 77) (i := 6) rfl (fm_dec dtX10_chain 45 rfl) ?_
        refine pv_istore (pc := 79) (i := 4) (by decide) rfl (fm_dec dtX10_chain 46 rfl) ?_
        dsimp only [List.set_cons_zero, List.set_cons_succ]
        refine pv_iincc (pc := 81) 5 1 (by decide) rfl (by decide) rfl (fm_dec dtX10_chain 47 rfl) ?_
        dsimp only [List.set_cons_zero, List.set_cons_succ]
        refine pv_goto (pc := 84) 22 (by decide) (fm_dec dtX10_chain 48 rfl) ?_
        have ht : w.testBit k = false := (has8z w hw k hk8).mp hc64
        have hp := pop8_add w hw k hk8 ht
        have hle := pop8_le _ hp.2
        obtain ⟨f, rfl⟩ : ∃ f, m = f + 1 := ⟨m - 1, by omega⟩
        rw [ch_go hkb ht] at hq
        rw [or8 w hw k hk8]
        exact ih f (by omega) (w ||| 1 <<< k) k (i + 1) _ hp.2 (by omega) hk (by have h9 : (i + 1).toInt = i.toInt + 1 := (by have z1 : (1 : Int32).toInt = 1 := (by decide); rw [sc_add (by omega) (by omega)]; omega); omega) hq
      · refine pv_goto (pc := 67) 87 (by decide) (fm_dec dtX10_chain 38 rfl) ?_
        have ht : w.testBit k = true := (by cases h9 : w.testBit k with | true => rfl | false => exact absurd ((has8z w hw k hk8).mpr h9) hc64)
        have e5 : chS (chB D) m w l = (w, l) := ch_has hkb ht
        rw [e5] at hq
        exact xc_end hw hq
set_option maxRecDepth 20000 in
theorem c_xchain {M : fmM} {Q : fmR → fmM → Prop} {li wh : Int32} {D : dD} (hD : dOk D) (hX : xdw 3 M D) (hn1 : ¬ inL D li → Q (.inr fmNSE) (fmI M 0 15 (M.1 0 15 + 1))) (hn2 : inL D li → ¬ inW wh 0 1 → Q (.inr fmIAE) (fmI M 0 16 (M.1 0 16 + 1))) (hq : inL D li → inW wh 0 1 → Q (.inl (some (.int (chV D li wh)))) M) : pvGood Tx 1 qX10_chain [.ref 0, .int li, .int wh] M Q := by
  refine pvGood_of (Nat.le_of_ble_eq_true rfl) ?_
  show pvEv Tx 1 qX10_chain 0 [some (.ref 0), some (.int li), some (.int wh), none, none, none, none] [] M Q
  have hl9 : (M.1 3 9).toInt = (D.1 : Int) := hX.1.1
  have d8 := hD.1
  refine pv_aloadn (pc := 0) (n := 0) 0 rfl rfl (fm_dec dtX10_chain 0 rfl) ?_
  refine pv_iloadn (pc := 1) (n := 1) 1 rfl rfl (fm_dec dtX10_chain 1 rfl) ?_
  refine pv_invV1 (k := 0) (d' := 0) (pc := 2) pcv_X10_197 (by decide) rfl (Nat.le_of_ble_eq_true rfl) (by decide) (fm_dec dtX10_chain 2 rfl) ?_
  refine c_needL (fun h2a h2b => ?_) (fun h2 => ?_)
  · refine pv_then0 ?_
    refine pv_aloadn (pc := 5) (n := 0) 0 rfl rfl (fm_dec dtX10_chain 3 rfl) ?_
    refine pv_iloadn (pc := 6) (n := 2) 2 rfl rfl (fm_dec dtX10_chain 4 rfl) ?_
    refine pv_iconst (pc := 7) (v := 0) (by decide) (fm_dec dtX10_chain 5 rfl) ?_
    refine pv_iconst (pc := 8) (v := 1) (by decide) (fm_dec dtX10_chain 6 rfl) ?_
    refine pv_invV3 (k := 0) (d' := 0) (pc := 9) pcv_X10_169 (by decide) rfl (Nat.le_of_ble_eq_true rfl) (by decide) (fm_dec dtX10_chain 7 rfl) ?_
    refine c_needW (fun h9a h9b => ?_) (fun h9 => ?_)
    · refine pv_then0 ?_
      refine pv_iconst (pc := 12) (v := 1) (by decide) (fm_dec dtX10_chain 8 rfl) ?_
      refine pv_iloadn (pc := 13) (n := 1) 1 rfl rfl (fm_dec dtX10_chain 9 rfl) ?_
      refine pv_ishl (pc := 14) (fm_dec dtX10_chain 10 rfl) ?_
      refine pv_istoren (pc := 15) (n := 3) 3 rfl (by decide) rfl (fm_dec dtX10_chain 11 rfl) ?_
      dsimp only [List.set_cons_zero, List.set_cons_succ]
      refine pv_iloadn (pc := 16) (n := 1) 1 rfl rfl (fm_dec dtX10_chain 12 rfl) ?_
      refine pv_istore (pc := 17) (i := 4) (by decide) rfl (fm_dec dtX10_chain 13 rfl) ?_
      dsimp only [List.set_cons_zero, List.set_cons_succ]
      refine pv_iconst (pc := 19) (v := 0) (by decide) (fm_dec dtX10_chain 14 rfl) ?_
      refine pv_istore (pc := 20) (i := 5) (by decide) rfl (fm_dec dtX10_chain 15 rfl) ?_
      dsimp only [List.set_cons_zero, List.set_cons_succ]
      have hn : inL D li := ⟨h2a, by omega⟩
      obtain ⟨k, hk⟩ : ∃ k : Nat, li.toInt = (k : Int) := ⟨li.toInt.toNat, by omega⟩
      have ek : li.toInt.toNat = k := (by omega)
      have q9 := hq hn ⟨h9a, h9b⟩
      unfold chV at q9
      rw [ek] at q9
      have hli : li = nI k := nI_is hk (by omega)
      subst hli
      rw [(one8 k (by omega)).1]
      exact xc_loop hD hX 7 (1 <<< k) k 0 _ (one8 k (by omega)).2 (by rw [pop8_1 k (by omega)]) (by omega) (by decide) q9
    · refine pv_thenX ?_
      first | exact hn2 ⟨h2a, by omega⟩ h9 | exact hn1 (fun h8 => h2 ⟨h8.1, by have := h8.2; omega⟩)
  · refine pv_thenX ?_
    first | exact hn2 ⟨h2a, by omega⟩ h9 | exact hn1 (fun h8 => h2 ⟨h8.1, by have := h8.2; omega⟩)
set_option maxRecDepth 20000 in
theorem c_onesF {M : fmM} {Q : fmR → fmM → Prop} {b : Int32} (hq : Q (.inl (some (.int (onF b)))) M) : pvGood Tm 0 qX11_ones [.int b] M Q := by
  refine pvGood_of (Nat.le_of_ble_eq_true rfl) ?_
  show pvEv Tm 0 qX11_ones 0 [some (.int b), none, none] [] M Q
  refine pv_iconst (pc := 0) (v := 0) (by decide) (fm_dec dtX11_ones 0 rfl) ?_
  refine pv_istoren (pc := 1) (n := 1) 1 rfl (by decide) rfl (fm_dec dtX11_ones 1 rfl) ?_
  dsimp only [List.set_cons_zero, List.set_cons_succ]
  refine pv_iconst (pc := 2) (v := 0) (by decide) (fm_dec dtX11_ones 2 rfl) ?_
  refine pv_istoren (pc := 3) (n := 2) 2 rfl (by decide) rfl (fm_dec dtX11_ones 3 rfl) ?_
  dsimp only [List.set_cons_zero, List.set_cons_succ]
  refine pv_iloadn (pc := 4) (n := 2) 2 rfl rfl (fm_dec dtX11_ones 4 rfl) ?_
  refine pv_bipush (pc := 5) (v := 8) (by decide) (fm_dec dtX11_ones 5 rfl) ?_
  refine pv_icmp_ge (pc := 7) 24 (by decide) (fm_dec dtX11_ones 6 rfl) (fun hc7 => by exfalso; revert hc7; decide) (fun _ => ?_)
  refine pv_iloadn (pc := 10) (n := 1) 1 rfl rfl (fm_dec dtX11_ones 7 rfl) ?_
  refine pv_iloadn (pc := 11) (n := 0) 0 rfl rfl (fm_dec dtX11_ones 8 rfl) ?_
  refine pv_iloadn (pc := 12) (n := 2) 2 rfl rfl (fm_dec dtX11_ones 9 rfl) ?_
  refine pv_ishr (pc := 13) (fm_dec dtX11_ones 10 rfl) ?_
  refine pv_iconst (pc := 14) (v := 1) (by decide) (fm_dec dtX11_ones 11 rfl) ?_
  refine pv_iand (pc := 15) (fm_dec dtX11_ones 12 rfl) ?_
  refine pv_iadd (pc := 16) (fm_dec dtX11_ones 13 rfl) ?_
  refine pv_istoren (pc := 17) (n := 1) 1 rfl (by decide) rfl (fm_dec dtX11_ones 14 rfl) ?_
  dsimp only [List.set_cons_zero, List.set_cons_succ]
  refine pv_iincc (pc := 18) 2 1 (by decide) rfl (by decide) rfl (fm_dec dtX11_ones 15 rfl) ?_
  dsimp only [List.set_cons_zero, List.set_cons_succ]
  rw [show (0 : Int32) + 1 = 1 by decide]
  refine pv_goto (pc := 21) 4 (by decide) (fm_dec dtX11_ones 16 rfl) ?_
  refine pv_iloadn (pc := 4) (n := 2) 2 rfl rfl (fm_dec dtX11_ones 4 rfl) ?_
  refine pv_bipush (pc := 5) (v := 8) (by decide) (fm_dec dtX11_ones 5 rfl) ?_
  refine pv_icmp_ge (pc := 7) 24 (by decide) (fm_dec dtX11_ones 6 rfl) (fun hc7 => by exfalso; revert hc7; decide) (fun _ => ?_)
  refine pv_iloadn (pc := 10) (n := 1) 1 rfl rfl (fm_dec dtX11_ones 7 rfl) ?_
  refine pv_iloadn (pc := 11) (n := 0) 0 rfl rfl (fm_dec dtX11_ones 8 rfl) ?_
  refine pv_iloadn (pc := 12) (n := 2) 2 rfl rfl (fm_dec dtX11_ones 9 rfl) ?_
  refine pv_ishr (pc := 13) (fm_dec dtX11_ones 10 rfl) ?_
  refine pv_iconst (pc := 14) (v := 1) (by decide) (fm_dec dtX11_ones 11 rfl) ?_
  refine pv_iand (pc := 15) (fm_dec dtX11_ones 12 rfl) ?_
  refine pv_iadd (pc := 16) (fm_dec dtX11_ones 13 rfl) ?_
  refine pv_istoren (pc := 17) (n := 1) 1 rfl (by decide) rfl (fm_dec dtX11_ones 14 rfl) ?_
  dsimp only [List.set_cons_zero, List.set_cons_succ]
  refine pv_iincc (pc := 18) 2 1 (by decide) rfl (by decide) rfl (fm_dec dtX11_ones 15 rfl) ?_
  dsimp only [List.set_cons_zero, List.set_cons_succ]
  rw [show (1 : Int32) + 1 = 2 by decide]
  refine pv_goto (pc := 21) 4 (by decide) (fm_dec dtX11_ones 16 rfl) ?_
  refine pv_iloadn (pc := 4) (n := 2) 2 rfl rfl (fm_dec dtX11_ones 4 rfl) ?_
  refine pv_bipush (pc := 5) (v := 8) (by decide) (fm_dec dtX11_ones 5 rfl) ?_
  refine pv_icmp_ge (pc := 7) 24 (by decide) (fm_dec dtX11_ones 6 rfl) (fun hc7 => by exfalso; revert hc7; decide) (fun _ => ?_)
  refine pv_iloadn (pc := 10) (n := 1) 1 rfl rfl (fm_dec dtX11_ones 7 rfl) ?_
  refine pv_iloadn (pc := 11) (n := 0) 0 rfl rfl (fm_dec dtX11_ones 8 rfl) ?_
  refine pv_iloadn (pc := 12) (n := 2) 2 rfl rfl (fm_dec dtX11_ones 9 rfl) ?_
  refine pv_ishr (pc := 13) (fm_dec dtX11_ones 10 rfl) ?_
  refine pv_iconst (pc := 14) (v := 1) (by decide) (fm_dec dtX11_ones 11 rfl) ?_
  refine pv_iand (pc := 15) (fm_dec dtX11_ones 12 rfl) ?_
  refine pv_iadd (pc := 16) (fm_dec dtX11_ones 13 rfl) ?_
  refine pv_istoren (pc := 17) (n := 1) 1 rfl (by decide) rfl (fm_dec dtX11_ones 14 rfl) ?_
  dsimp only [List.set_cons_zero, List.set_cons_succ]
  refine pv_iincc (pc := 18) 2 1 (by decide) rfl (by decide) rfl (fm_dec dtX11_ones 15 rfl) ?_
  dsimp only [List.set_cons_zero, List.set_cons_succ]
  rw [show (2 : Int32) + 1 = 3 by decide]
  refine pv_goto (pc := 21) 4 (by decide) (fm_dec dtX11_ones 16 rfl) ?_
  refine pv_iloadn (pc := 4) (n := 2) 2 rfl rfl (fm_dec dtX11_ones 4 rfl) ?_
  refine pv_bipush (pc := 5) (v := 8) (by decide) (fm_dec dtX11_ones 5 rfl) ?_
  refine pv_icmp_ge (pc := 7) 24 (by decide) (fm_dec dtX11_ones 6 rfl) (fun hc7 => by exfalso; revert hc7; decide) (fun _ => ?_)
  refine pv_iloadn (pc := 10) (n := 1) 1 rfl rfl (fm_dec dtX11_ones 7 rfl) ?_
  refine pv_iloadn (pc := 11) (n := 0) 0 rfl rfl (fm_dec dtX11_ones 8 rfl) ?_
  refine pv_iloadn (pc := 12) (n := 2) 2 rfl rfl (fm_dec dtX11_ones 9 rfl) ?_
  refine pv_ishr (pc := 13) (fm_dec dtX11_ones 10 rfl) ?_
  refine pv_iconst (pc := 14) (v := 1) (by decide) (fm_dec dtX11_ones 11 rfl) ?_
  refine pv_iand (pc := 15) (fm_dec dtX11_ones 12 rfl) ?_
  refine pv_iadd (pc := 16) (fm_dec dtX11_ones 13 rfl) ?_
  refine pv_istoren (pc := 17) (n := 1) 1 rfl (by decide) rfl (fm_dec dtX11_ones 14 rfl) ?_
  dsimp only [List.set_cons_zero, List.set_cons_succ]
  refine pv_iincc (pc := 18) 2 1 (by decide) rfl (by decide) rfl (fm_dec dtX11_ones 15 rfl) ?_
  dsimp only [List.set_cons_zero, List.set_cons_succ]
  rw [show (3 : Int32) + 1 = 4 by decide]
  refine pv_goto (pc := 21) 4 (by decide) (fm_dec dtX11_ones 16 rfl) ?_
  refine pv_iloadn (pc := 4) (n := 2) 2 rfl rfl (fm_dec dtX11_ones 4 rfl) ?_
  refine pv_bipush (pc := 5) (v := 8) (by decide) (fm_dec dtX11_ones 5 rfl) ?_
  refine pv_icmp_ge (pc := 7) 24 (by decide) (fm_dec dtX11_ones 6 rfl) (fun hc7 => by exfalso; revert hc7; decide) (fun _ => ?_)
  refine pv_iloadn (pc := 10) (n := 1) 1 rfl rfl (fm_dec dtX11_ones 7 rfl) ?_
  refine pv_iloadn (pc := 11) (n := 0) 0 rfl rfl (fm_dec dtX11_ones 8 rfl) ?_
  refine pv_iloadn (pc := 12) (n := 2) 2 rfl rfl (fm_dec dtX11_ones 9 rfl) ?_
  refine pv_ishr (pc := 13) (fm_dec dtX11_ones 10 rfl) ?_
  refine pv_iconst (pc := 14) (v := 1) (by decide) (fm_dec dtX11_ones 11 rfl) ?_
  refine pv_iand (pc := 15) (fm_dec dtX11_ones 12 rfl) ?_
  refine pv_iadd (pc := 16) (fm_dec dtX11_ones 13 rfl) ?_
  refine pv_istoren (pc := 17) (n := 1) 1 rfl (by decide) rfl (fm_dec dtX11_ones 14 rfl) ?_
  dsimp only [List.set_cons_zero, List.set_cons_succ]
  refine pv_iincc (pc := 18) 2 1 (by decide) rfl (by decide) rfl (fm_dec dtX11_ones 15 rfl) ?_
  dsimp only [List.set_cons_zero, List.set_cons_succ]
  rw [show (4 : Int32) + 1 = 5 by decide]
  refine pv_goto (pc := 21) 4 (by decide) (fm_dec dtX11_ones 16 rfl) ?_
  refine pv_iloadn (pc := 4) (n := 2) 2 rfl rfl (fm_dec dtX11_ones 4 rfl) ?_
  refine pv_bipush (pc := 5) (v := 8) (by decide) (fm_dec dtX11_ones 5 rfl) ?_
  refine pv_icmp_ge (pc := 7) 24 (by decide) (fm_dec dtX11_ones 6 rfl) (fun hc7 => by exfalso; revert hc7; decide) (fun _ => ?_)
  refine pv_iloadn (pc := 10) (n := 1) 1 rfl rfl (fm_dec dtX11_ones 7 rfl) ?_
  refine pv_iloadn (pc := 11) (n := 0) 0 rfl rfl (fm_dec dtX11_ones 8 rfl) ?_
  refine pv_iloadn (pc := 12) (n := 2) 2 rfl rfl (fm_dec dtX11_ones 9 rfl) ?_
  refine pv_ishr (pc := 13) (fm_dec dtX11_ones 10 rfl) ?_
  refine pv_iconst (pc := 14) (v := 1) (by decide) (fm_dec dtX11_ones 11 rfl) ?_
  refine pv_iand (pc := 15) (fm_dec dtX11_ones 12 rfl) ?_
  refine pv_iadd (pc := 16) (fm_dec dtX11_ones 13 rfl) ?_
  refine pv_istoren (pc := 17) (n := 1) 1 rfl (by decide) rfl (fm_dec dtX11_ones 14 rfl) ?_
  dsimp only [List.set_cons_zero, List.set_cons_succ]
  refine pv_iincc (pc := 18) 2 1 (by decide) rfl (by decide) rfl (fm_dec dtX11_ones 15 rfl) ?_
  dsimp only [List.set_cons_zero, List.set_cons_succ]
  rw [show (5 : Int32) + 1 = 6 by decide]
  refine pv_goto (pc := 21) 4 (by decide) (fm_dec dtX11_ones 16 rfl) ?_
  refine pv_iloadn (pc := 4) (n := 2) 2 rfl rfl (fm_dec dtX11_ones 4 rfl) ?_
  refine pv_bipush (pc := 5) (v := 8) (by decide) (fm_dec dtX11_ones 5 rfl) ?_
  refine pv_icmp_ge (pc := 7) 24 (by decide) (fm_dec dtX11_ones 6 rfl) (fun hc7 => by exfalso; revert hc7; decide) (fun _ => ?_)
  refine pv_iloadn (pc := 10) (n := 1) 1 rfl rfl (fm_dec dtX11_ones 7 rfl) ?_
  refine pv_iloadn (pc := 11) (n := 0) 0 rfl rfl (fm_dec dtX11_ones 8 rfl) ?_
  refine pv_iloadn (pc := 12) (n := 2) 2 rfl rfl (fm_dec dtX11_ones 9 rfl) ?_
  refine pv_ishr (pc := 13) (fm_dec dtX11_ones 10 rfl) ?_
  refine pv_iconst (pc := 14) (v := 1) (by decide) (fm_dec dtX11_ones 11 rfl) ?_
  refine pv_iand (pc := 15) (fm_dec dtX11_ones 12 rfl) ?_
  refine pv_iadd (pc := 16) (fm_dec dtX11_ones 13 rfl) ?_
  refine pv_istoren (pc := 17) (n := 1) 1 rfl (by decide) rfl (fm_dec dtX11_ones 14 rfl) ?_
  dsimp only [List.set_cons_zero, List.set_cons_succ]
  refine pv_iincc (pc := 18) 2 1 (by decide) rfl (by decide) rfl (fm_dec dtX11_ones 15 rfl) ?_
  dsimp only [List.set_cons_zero, List.set_cons_succ]
  rw [show (6 : Int32) + 1 = 7 by decide]
  refine pv_goto (pc := 21) 4 (by decide) (fm_dec dtX11_ones 16 rfl) ?_
  refine pv_iloadn (pc := 4) (n := 2) 2 rfl rfl (fm_dec dtX11_ones 4 rfl) ?_
  refine pv_bipush (pc := 5) (v := 8) (by decide) (fm_dec dtX11_ones 5 rfl) ?_
  refine pv_icmp_ge (pc := 7) 24 (by decide) (fm_dec dtX11_ones 6 rfl) (fun hc7 => by exfalso; revert hc7; decide) (fun _ => ?_)
  refine pv_iloadn (pc := 10) (n := 1) 1 rfl rfl (fm_dec dtX11_ones 7 rfl) ?_
  refine pv_iloadn (pc := 11) (n := 0) 0 rfl rfl (fm_dec dtX11_ones 8 rfl) ?_
  refine pv_iloadn (pc := 12) (n := 2) 2 rfl rfl (fm_dec dtX11_ones 9 rfl) ?_
  refine pv_ishr (pc := 13) (fm_dec dtX11_ones 10 rfl) ?_
  refine pv_iconst (pc := 14) (v := 1) (by decide) (fm_dec dtX11_ones 11 rfl) ?_
  refine pv_iand (pc := 15) (fm_dec dtX11_ones 12 rfl) ?_
  refine pv_iadd (pc := 16) (fm_dec dtX11_ones 13 rfl) ?_
  refine pv_istoren (pc := 17) (n := 1) 1 rfl (by decide) rfl (fm_dec dtX11_ones 14 rfl) ?_
  dsimp only [List.set_cons_zero, List.set_cons_succ]
  refine pv_iincc (pc := 18) 2 1 (by decide) rfl (by decide) rfl (fm_dec dtX11_ones 15 rfl) ?_
  dsimp only [List.set_cons_zero, List.set_cons_succ]
  rw [show (7 : Int32) + 1 = 8 by decide]
  refine pv_goto (pc := 21) 4 (by decide) (fm_dec dtX11_ones 16 rfl) ?_
  refine pv_iloadn (pc := 4) (n := 2) 2 rfl rfl (fm_dec dtX11_ones 4 rfl) ?_
  refine pv_bipush (pc := 5) (v := 8) (by decide) (fm_dec dtX11_ones 5 rfl) ?_
  refine pv_icmp_ge (pc := 7) 24 (by decide) (fm_dec dtX11_ones 6 rfl) (fun _ => ?_) (fun hc7 => by exfalso; revert hc7; decide)
  refine pv_iloadn (pc := 24) (n := 1) 1 rfl rfl (fm_dec dtX11_ones 17 rfl) ?_
  exact pv_ireturn (pc := 25) rfl (fm_dec dtX11_ones 18 rfl) hq
theorem c_ones8 {M : fmM} {Q : fmR → fmM → Prop} {w : Nat} (hw : w < 256) (hq : Q (.inl (some (.int (nI (pop8 w))))) M) : pvGood Tm 0 qX11_ones [.int (nI w)] M Q := c_onesF (by rw [on8 w hw]; exact hq)
set_option maxRecDepth 20000 in
theorem mc_loop {Q : fmR → fmM → Prop} {M : fmM} {i wh : Int32} {D : dD} (hD : dOk D) (hY : mdw M D) : ∀ (m : Nat) (w l : Nat), w < 256 → 8 - pop8 w = m → l < D.1 → Q (.inl (some (.int (chR (chS (chB D) m w l) wh)))) M → pvEv Tm 2 qX11_chain 59 [some (.ref 0), some (.int i), some (.int wh), some (.int (nI w)), some (.int (nI l))] [] M Q := by
  intro m
  induction m using Nat.strongRecOn with
  | _ m ih =>
    intro w l hw hm hl hq
    have d8 := hD.1
    have hl8 : l < 8 := (by omega)
    have hl9 : (nI l).toInt = (l : Int) := nI_toInt (by omega)
    have hx9 : (M.1 (35 + l) (Int32.toNatClampNeg 5)).toInt = chB D l := hY.2.2.2.1 l hl 5 (by decide)
    have zm : (-1 : Int32).toInt = -1 := (by decide)
    refine pv_aloadn (pc := 59) (n := 0) 0 rfl rfl (fm_dec dtX11_chain 36 rfl) ?_
    refine pv_getR (k := 0) (j := 14) (ci := 11) (pc := 60) 17 rfl (by decide) pfl_X11_31 (by decide) rfl (by decide) (fm_dec dtX11_chain 37 rfl) ?_
    refine pv_iload (pc := 63) (i := 4) rfl (fm_dec dtX11_chain 38 rfl) ?_
    refine pv_aald (k := 17) (n := 8) (r := (35 + l)) (pc := 65) (by decide) (Or.inr (Or.inr rfl)) rfl (rw_life.inb hl9 hl8) (rw_life.at hl9 hl8) (rw_life.2.2.2 _ hl8).2.1 (fm_dec dtX11_chain 39 rfl) ?_
    refine pv_iconst (pc := 66) (v := 5) (by decide) (fm_dec dtX11_chain 40 rfl) ?_
    refine pv_iald (k := (35 + l)) (n := 6) (pc := 67) (rw_life.2.2.2 _ hl8).2.2.1 (rw_life.2.2.2 _ hl8).2.2.2.1 (rw_life.2.2.2 _ hl8).2.2.2.2 (fm_inl (by decide)) (fm_dec dtX11_chain 41 rfl) ?_
    refine pv_iconst (pc := 68) (v := (-1)) (by decide) (fm_dec dtX11_chain 42 rfl) ?_
    refine pv_icmp_eq (pc := 69) 109 (by decide) (fm_dec dtX11_chain 43 rfl) (fun hc69 => ?_) (fun hc69 => ?_)
    · have hn9 : chB D l < 0 := (by have h9 := congrArg Int32.toInt hc69; omega)
      rw [ch_no hn9] at hq
      refine pv_iloadn (pc := 109) (n := 2) 2 rfl rfl (fm_dec dtX11_chain 67 rfl) ?_
      refine pv_if_ne (pc := 110) 120 (by decide) (fm_dec dtX11_chain 68 rfl) (fun hc110 => ?_) (fun hc110 => ?_)
      · refine pv_iload (pc := 120) (i := 4) rfl (fm_dec dtX11_chain 72 rfl) ?_
        exact pv_ireturn (pc := 122) rfl (fm_dec dtX11_chain 73 rfl) (by rw [chR_l hc110] at hq; exact hq)
      · refine pv_iloadn (pc := 113) (n := 3) 3 rfl rfl (fm_dec dtX11_chain 69 rfl) ?_
        refine pv_iS1 (d' := 0) (pc := 114) pcs_X11_416 (Nat.le_of_ble_eq_true rfl) (by decide) (fm_dec dtX11_chain 70 rfl) ?_
        refine c_ones8 hw ?_
        refine pv_then1 ?_
        refine pv_goto (pc := 117) 122 (by decide) (fm_dec dtX11_chain 71 rfl) ?_
        exact pv_ireturn (pc := 122) rfl (fm_dec dtX11_chain 73 rfl) (by rw [chR_s hc110] at hq; exact hq)
    · have hn9 : ¬ chB D l < 0 := (by intro h9; apply hc69; apply i32_ext; have h8 := (hD.2.2.1 l hl).2.2.2.2.2; have e : D.2.1 l 5 = chB D l := rfl; omega)
      obtain ⟨k, hk, hk8, hkb, hkx⟩ := by_d hD hl hx9 hn9
      refine pv_iloadn (pc := 72) (n := 3) 3 rfl rfl (fm_dec dtX11_chain 44 rfl) ?_
      refine pv_aloadn (pc := 73) (n := 0) 0 rfl rfl (fm_dec dtX11_chain 45 rfl) ?_
      refine pv_getR (k := 0) (j := 14) (ci := 11) (pc := 74) 17 rfl (by decide) pfl_X11_31 (by decide) rfl (by decide) (fm_dec dtX11_chain 46 rfl) ?_
      refine pv_iload (pc := 77) (i := 4) rfl (fm_dec dtX11_chain 47 rfl) ?_
      refine pv_aald (k := 17) (n := 8) (r := (35 + l)) (pc := 79) (by decide) (Or.inr (Or.inr rfl)) rfl (rw_life.inb hl9 hl8) (rw_life.at hl9 hl8) (rw_life.2.2.2 _ hl8).2.1 (fm_dec dtX11_chain 48 rfl) ?_
      refine pv_iconst (pc := 80) (v := 5) (by decide) (fm_dec dtX11_chain 49 rfl) ?_
      refine pv_iald (k := (35 + l)) (n := 6) (pc := 81) (rw_life.2.2.2 _ hl8).2.2.1 (rw_life.2.2.2 _ hl8).2.2.2.1 (rw_life.2.2.2 _ hl8).2.2.2.2 (fm_inl (by decide)) (fm_dec dtX11_chain 50 rfl) ?_
      refine pv_iS2 (d' := 0) (pc := 82) pcs_X11_256 (Nat.le_of_ble_eq_true rfl) (by decide) (fm_dec dtX11_chain 51 rfl) ?_
      refine c_has (fun h82 => ?_) (fun h82 => ?_)
      · refine pv_then1 ?_
        refine pv_if_ne (pc := 85) 109 (by decide) (fm_dec dtX11_chain 52 rfl) (fun _ => ?_) (fun hc85 => by exfalso; revert hc85; decide)
        have ht : w.testBit k = true := (has8 w hw k hk8).mp (by rw [← hkx]; exact h82)
        rw [ch_has hkb ht] at hq
        refine pv_iloadn (pc := 109) (n := 2) 2 rfl rfl (fm_dec dtX11_chain 67 rfl) ?_
        refine pv_if_ne (pc := 110) 120 (by decide) (fm_dec dtX11_chain 68 rfl) (fun hc110 => ?_) (fun hc110 => ?_)
        · refine pv_iload (pc := 120) (i := 4) rfl (fm_dec dtX11_chain 72 rfl) ?_
          exact pv_ireturn (pc := 122) rfl (fm_dec dtX11_chain 73 rfl) (by rw [chR_l hc110] at hq; exact hq)
        · refine pv_iloadn (pc := 113) (n := 3) 3 rfl rfl (fm_dec dtX11_chain 69 rfl) ?_
          refine pv_iS1 (d' := 0) (pc := 114) pcs_X11_416 (Nat.le_of_ble_eq_true rfl) (by decide) (fm_dec dtX11_chain 70 rfl) ?_
          refine c_ones8 hw ?_
          refine pv_then1 ?_
          refine pv_goto (pc := 117) 122 (by decide) (fm_dec dtX11_chain 71 rfl) ?_
          exact pv_ireturn (pc := 122) rfl (fm_dec dtX11_chain 73 rfl) (by rw [chR_s hc110] at hq; exact hq)
      · refine pv_then1 ?_
        refine pv_if_ne (pc := 85) 109 (by decide) (fm_dec dtX11_chain 52 rfl) (fun hc85 => by exfalso; revert hc85; decide) (fun _ => ?_)
        refine pv_aloadn (pc := 88) (n := 0) 0 rfl rfl (fm_dec dtX11_chain 53 rfl) ?_
        refine pv_getR (k := 0) (j := 14) (ci := 11) (pc := 89) 17 rfl (by decide) pfl_X11_31 (by decide) rfl (by decide) (fm_dec dtX11_chain 54 rfl) ?_
        refine pv_iload (pc := 92) (i := 4) rfl (fm_dec dtX11_chain 55 rfl) ?_
        refine pv_aald (k := 17) (n := 8) (r := (35 + l)) (pc := 94) (by decide) (Or.inr (Or.inr rfl)) rfl (rw_life.inb hl9 hl8) (rw_life.at hl9 hl8) (rw_life.2.2.2 _ hl8).2.1 (fm_dec dtX11_chain 56 rfl) ?_
        refine pv_iconst (pc := 95) (v := 5) (by decide) (fm_dec dtX11_chain 57 rfl) ?_
        refine pv_iald (k := (35 + l)) (n := 6) (pc := 96) (rw_life.2.2.2 _ hl8).2.2.1 (rw_life.2.2.2 _ hl8).2.2.2.1 (rw_life.2.2.2 _ hl8).2.2.2.2 (fm_inl (by decide)) (fm_dec dtX11_chain 58 rfl) ?_
        refine pv_istore (pc := 97) (i := 4) (by decide) rfl (fm_dec dtX11_chain 59 rfl) ?_
        dsimp only [List.set_cons_zero, List.set_cons_succ]
        refine pv_iloadn (pc := 99) (n := 3) 3 rfl rfl (fm_dec dtX11_chain 60 rfl) ?_
        refine pv_iconst (pc := 100) (v := 1) (by decide) (fm_dec dtX11_chain 61 rfl) ?_
        refine pv_iload (pc := 101) (i := 4) rfl (fm_dec dtX11_chain 62 rfl) ?_
        refine pv_ishl (pc := 103) (fm_dec dtX11_chain 63 rfl) ?_
        refine pv_ior (pc := 104) (fm_dec dtX11_chain 64 rfl) ?_
        refine pv_istoren (pc := 105) (n := 3) 3 rfl (by decide) rfl (fm_dec dtX11_chain 65 rfl) ?_
        dsimp only [List.set_cons_zero, List.set_cons_succ]
        refine pv_goto (pc := 106) 59 (by decide) (fm_dec dtX11_chain 66 rfl) ?_
        have ht : w.testBit k = false := Bool.eq_false_iff.mpr (fun h9 => h82 (by rw [hkx]; exact (has8 w hw k hk8).mpr h9))
        have hp := pop8_add w hw k hk8 ht
        have hle := pop8_le _ hp.2
        obtain ⟨f, rfl⟩ : ∃ f, m = f + 1 := ⟨m - 1, by omega⟩
        rw [ch_go hkb ht] at hq
        rw [hkx, or8 w hw k hk8]
        exact ih f (by omega) (w ||| 1 <<< k) k hp.2 (by omega) hk hq
set_option maxRecDepth 20000 in
theorem c_mchain {M : fmM} {Q : fmR → fmM → Prop} {i p : Int32} {D : dD} (hD : dOk D) (hY : mdw M D) (h1 : ¬ inL D i → ∀ (x : Int32) (M' : fmM), M'.1 0 0 = 1 → Q (.inl (some (.int x))) M') (h2 : inL D i → ¬ inW p 0 1 → ∀ (x : Int32) (M' : fmM), M'.1 0 0 = 2 → Q (.inl (some (.int x))) M') (hq : inL D i → inW p 0 1 → Q (.inl (some (.int (chV D i p)))) (fmI M 0 0 0)) : pvGood Tm 2 qX11_chain [.ref 0, .int i, .int p] M Q := by
  refine pvGood_of (Nat.le_of_ble_eq_true rfl) ?_
  show pvEv Tm 2 qX11_chain 0 [some (.ref 0), some (.int i), some (.int p), none, none] [] M Q
  have h4 : (M.1 4 0).toInt = (D.1 : Int) := hY.1
  have hl := hD.1
  refine pv_aloadn (pc := 0) (n := 0) 0 rfl rfl (fm_dec dtX11_chain 0 rfl) ?_
  refine pv_iconst (pc := 1) (v := 0) (by decide) (fm_dec dtX11_chain 1 rfl) ?_
  refine pv_putI (k := 0) (j := 0) (ci := 11) (pc := 2) pfl_X11_101 (by decide) rfl (by decide) (fm_dec dtX11_chain 2 rfl) ?_
  refine pv_aloadn (pc := 5) (n := 0) 0 rfl rfl (fm_dec dtX11_chain 3 rfl) ?_
  refine pv_aloadn (pc := 6) (n := 0) 0 rfl rfl (fm_dec dtX11_chain 4 rfl) ?_
  refine pv_iloadn (pc := 7) (n := 1) 1 rfl rfl (fm_dec dtX11_chain 5 rfl) ?_
  refine pv_invV1 (k := 0) (d' := 1) (pc := 8) pcv_X11_331 (by decide) rfl (Nat.le_of_ble_eq_true rfl) (by decide) (fm_dec dtX11_chain 6 rfl) ?_
  refine c_isLife (M := fmI M 0 0 0) h4 hl (fun k hk hkl => ?_) (fun hno => ?_)
  · refine pv_then1 ?_
    refine pv_if_ne (pc := 11) 18 (by decide) (fm_dec dtX11_chain 7 rfl) (fun _ => ?_) (fun hc11 => by exfalso; revert hc11; decide)
    refine pv_iconst (pc := 18) (v := 0) (by decide) (fm_dec dtX11_chain 10 rfl) ?_
    refine pv_iconst (pc := 19) (v := 1) (by decide) (fm_dec dtX11_chain 11 rfl) ?_
    refine pv_iconst (pc := 20) (v := 0) (by decide) (fm_dec dtX11_chain 12 rfl) ?_
    refine pv_invV3 (k := 0) (d' := 0) (pc := 21) pcv_X11_177 (by decide) rfl (Nat.le_of_ble_eq_true rfl) (by decide) (fm_dec dtX11_chain 13 rfl) ?_
    refine c_badF0 rfl ?_
    refine pv_then1 ?_
    refine pv_if_ne (pc := 24) 50 (by decide) (fm_dec dtX11_chain 14 rfl) (fun hc24 => by exfalso; revert hc24; decide) (fun _ => ?_)
    refine pv_aloadn (pc := 27) (n := 0) 0 rfl rfl (fm_dec dtX11_chain 15 rfl) ?_
    refine pv_iloadn (pc := 28) (n := 2) 2 rfl rfl (fm_dec dtX11_chain 16 rfl) ?_
    refine pv_iconst (pc := 29) (v := 0) (by decide) (fm_dec dtX11_chain 17 rfl) ?_
    refine pv_iconst (pc := 30) (v := 1) (by decide) (fm_dec dtX11_chain 18 rfl) ?_
    refine pv_iS3 (d' := 0) (pc := 31) pcs_X11_135 (Nat.le_of_ble_eq_true rfl) (by decide) (fm_dec dtX11_chain 19 rfl) ?_
    refine c_in (fun h31a h31b => ?_) (fun h31 => ?_)
    · refine pv_then1 ?_
      refine pv_if_ne (pc := 34) 41 (by decide) (fm_dec dtX11_chain 20 rfl) (fun _ => ?_) (fun hc34 => by exfalso; revert hc34; decide)
      refine pv_iconst (pc := 41) (v := 0) (by decide) (fm_dec dtX11_chain 23 rfl) ?_
      refine pv_iconst (pc := 42) (v := 2) (by decide) (fm_dec dtX11_chain 24 rfl) ?_
      refine pv_iconst (pc := 43) (v := 1) (by decide) (fm_dec dtX11_chain 25 rfl) ?_
      refine pv_invV3 (k := 0) (d' := 0) (pc := 44) pcv_X11_177 (by decide) rfl (Nat.le_of_ble_eq_true rfl) (by decide) (fm_dec dtX11_chain 26 rfl) ?_
      refine c_badF1 rfl ?_
      refine pv_then1 ?_
      refine pv_if_eq (pc := 47) 52 (by decide) (fm_dec dtX11_chain 27 rfl) (fun _ => ?_) (fun hc47 => by exfalso; revert hc47; decide)
      refine pv_iconst (pc := 52) (v := 1) (by decide) (fm_dec dtX11_chain 30 rfl) ?_
      refine pv_iloadn (pc := 53) (n := 1) 1 rfl rfl (fm_dec dtX11_chain 31 rfl) ?_
      refine pv_ishl (pc := 54) (fm_dec dtX11_chain 32 rfl) ?_
      refine pv_istoren (pc := 55) (n := 3) 3 rfl (by decide) rfl (fm_dec dtX11_chain 33 rfl) ?_
      dsimp only [List.set_cons_zero, List.set_cons_succ]
      refine pv_iloadn (pc := 56) (n := 1) 1 rfl rfl (fm_dec dtX11_chain 34 rfl) ?_
      refine pv_istore (pc := 57) (i := 4) (by decide) rfl (fm_dec dtX11_chain 35 rfl) ?_
      dsimp only [List.set_cons_zero, List.set_cons_succ]
      have hn : inL D i := ⟨by omega, by omega⟩
      have ek : i.toInt.toNat = k := (by omega)
      have q9 := hq hn ⟨h31a, h31b⟩
      unfold chV at q9
      rw [ek] at q9
      have hi9 : i = nI k := nI_is hk (by omega)
      subst hi9
      rw [(one8 k (by omega)).1]
      exact mc_loop hD (M := fmI M 0 0 0) ⟨hY.1, hY.2.1, hY.2.2.1, fun i hi j hj => (by rw [fmI_k _ _ (by omega)]; exact hY.2.2.2.1 i hi j hj), fun i hi j hj => (by rw [fmI_k _ _ (by omega)]; exact hY.2.2.2.2 i hi j hj)⟩ 7 (1 <<< k) k (one8 k (by omega)).2 (by rw [pop8_1 k (by omega)]) (by omega) q9
    · refine pv_then1 ?_
      refine pv_if_ne (pc := 34) 41 (by decide) (fm_dec dtX11_chain 20 rfl) (fun hc34 => by exfalso; revert hc34; decide) (fun _ => ?_)
      refine pv_iconst (pc := 37) (v := 1) (by decide) (fm_dec dtX11_chain 21 rfl) ?_
      refine pv_goto (pc := 38) 42 (by decide) (fm_dec dtX11_chain 22 rfl) ?_
      refine pv_iconst (pc := 42) (v := 2) (by decide) (fm_dec dtX11_chain 24 rfl) ?_
      refine pv_iconst (pc := 43) (v := 1) (by decide) (fm_dec dtX11_chain 25 rfl) ?_
      refine pv_invV3 (k := 0) (d' := 0) (pc := 44) pcv_X11_177 (by decide) rfl (Nat.le_of_ble_eq_true rfl) (by decide) (fm_dec dtX11_chain 26 rfl) ?_
      refine c_badT1 rfl (by decide) ?_
      refine pv_then1 ?_
      refine pv_if_eq (pc := 47) 52 (by decide) (fm_dec dtX11_chain 27 rfl) (fun hc47 => by exfalso; revert hc47; decide) (fun _ => ?_)
      refine pv_iconst (pc := 50) (v := 0) (by decide) (fm_dec dtX11_chain 28 rfl) ?_
      exact pv_ireturn (pc := 51) rfl (fm_dec dtX11_chain 29 rfl) (h2 ⟨by omega, by omega⟩ h31 _ _ rfl)
  · refine pv_then1 ?_
    refine pv_if_ne (pc := 11) 18 (by decide) (fm_dec dtX11_chain 7 rfl) (fun hc11 => by exfalso; revert hc11; decide) (fun _ => ?_)
    refine pv_iconst (pc := 14) (v := 1) (by decide) (fm_dec dtX11_chain 8 rfl) ?_
    refine pv_goto (pc := 15) 19 (by decide) (fm_dec dtX11_chain 9 rfl) ?_
    refine pv_iconst (pc := 19) (v := 1) (by decide) (fm_dec dtX11_chain 11 rfl) ?_
    refine pv_iconst (pc := 20) (v := 0) (by decide) (fm_dec dtX11_chain 12 rfl) ?_
    refine pv_invV3 (k := 0) (d' := 0) (pc := 21) pcv_X11_177 (by decide) rfl (Nat.le_of_ble_eq_true rfl) (by decide) (fm_dec dtX11_chain 13 rfl) ?_
    refine c_badT0 rfl (by decide) ?_
    refine pv_then1 ?_
    refine pv_if_ne (pc := 24) 50 (by decide) (fm_dec dtX11_chain 14 rfl) (fun _ => ?_) (fun hc24 => by exfalso; revert hc24; decide)
    refine pv_iconst (pc := 50) (v := 0) (by decide) (fm_dec dtX11_chain 28 rfl) ?_
    exact pv_ireturn (pc := 51) rfl (fm_dec dtX11_chain 29 rfl) (h1 hno _ _ rfl)
theorem xe_chain {M : fmM} {a0 a1 : Int32} {D : dD} (hD : dOk D) (hX : xdw 3 M D) : pvGood Tx 250 qX10_chain [.ref 0, .int a0, .int a1] M (fun r _ => (inL D a0 ∧ inW a1 0 1 ∧ r = .inl (some (.int (chV D a0 a1)))) ∨ (¬ inL D a0 ∧ r = .inr fmNSE) ∨ (inL D a0 ∧ ¬ inW a1 0 1 ∧ r = .inr fmIAE)) := (c_xchain hD hX (fun h => Or.inr (Or.inl ⟨h, rfl⟩)) (fun h h' => Or.inr (Or.inr ⟨h, h', rfl⟩)) (fun h h' => Or.inl ⟨h, h', rfl⟩)).up (by decide)
theorem me_chain {M : fmM} {a0 a1 : Int32} {D : dD} (hD : dOk D) (hY : mdw M D) : pvGood Tm 250 qX11_chain [.ref 0, .int a0, .int a1] M (fun r M' => (inL D a0 ∧ inW a1 0 1 ∧ r = .inl (some (.int (chV D a0 a1))) ∧ M'.1 0 0 = 0) ∨ (¬ inL D a0 ∧ M'.1 0 0 = 1) ∨ (inL D a0 ∧ ¬ inW a1 0 1 ∧ M'.1 0 0 = 2)) := (c_mchain hD hY (fun h x M' e => Or.inr (Or.inl ⟨h, e⟩)) (fun h h' x M' e => Or.inr (Or.inr ⟨h, h', e⟩)) (fun h h' => Or.inl ⟨h, h', rfl, rfl⟩)).up (by decide)
end
-- P 18s
section
-- FACTS IN A WEEK, exactly
theorem xor6 : ∀ w, w < 64 → ∀ k, k < 6 → (nI w ^^^ (1 : Int32) <<< (nI k &&& 31)) = nI (w ^^^ 1 <<< k) ∧ w ^^^ 1 <<< k < 64 := by decide +kernel
theorem xor6z : ∀ w, w < 64 → (nI w ^^^ (0 : Int32)) = nI w := by decide +kernel
def fbS (D : dD) (li wk : Int) : Nat → Nat
  | 0 => 0
  | n + 1 => if D.2.2.2.1 n 0 = li ∧ D.2.2.2.1 n 2 ≤ wk then fbS D li wk n ^^^ 1 <<< (D.2.2.2.1 n 1).toNat else fbS D li wk n
theorem fb_no {D : dD} {li wk : Int} {n : Nat} (h : ¬ (D.2.2.2.1 n 0 = li ∧ D.2.2.2.1 n 2 ≤ wk)) : fbS D li wk (n + 1) = fbS D li wk n := if_neg h
theorem fb_go {D : dD} {li wk : Int} {n k : Nat} (h : D.2.2.2.1 n 0 = li ∧ D.2.2.2.1 n 2 ≤ wk) (hk : D.2.2.2.1 n 1 = (k : Int)) : fbS D li wk (n + 1) = fbS D li wk n ^^^ 1 <<< k := by
  show (if D.2.2.2.1 n 0 = li ∧ D.2.2.2.1 n 2 ≤ wk then fbS D li wk n ^^^ 1 <<< (D.2.2.2.1 n 1).toNat else fbS D li wk n) = _
  rw [if_pos h, hk, Int.toNat_natCast]
theorem fb_64 {D : dD} {li wk : Int} (hD : dOk D) : ∀ n, n ≤ D.2.2.1 → fbS D li wk n < 64 := by
  intro n
  induction n with
  | zero => intro _; exact (by decide : (0 : Nat) < 64)
  | succ n ih =>
    intro hn
    have h1 := ih (by omega)
    by_cases h : D.2.2.2.1 n 0 = li ∧ D.2.2.2.1 n 2 ≤ wk
    · have hb := (hD.2.2.2.1 n (by omega)).2.1
      rw [fb_go (k := (D.2.2.2.1 n 1).toNat) h (by omega)]
      exact (xor6 _ h1 _ (by omega)).2
    · rw [fb_no h]
      exact h1
/-- the facts of a life in a week -/
def fbA (D : dD) (li wk : Int) : Nat := fbS D li wk D.2.2.1
theorem kd_d {D : dD} {n : Nat} {x : Int32} (hD : dOk D) (hn : n < D.2.2.1) (hx : x.toInt = D.2.2.2.1 n 1) : ∃ k : Nat, k < 6 ∧ D.2.2.2.1 n 1 = (k : Int) ∧ x = nI k := by
  have hb := (hD.2.2.2.1 n hn).2.1
  exact ⟨(D.2.2.2.1 n 1).toNat, by omega, by omega, nI_is (by omega) (by omega)⟩
set_option maxRecDepth 20000 in
theorem xf_loop {Q : fmR → fmM → Prop} {M : fmM} {li wk : Int32} {D : dD} (hD : dOk D) (hX : xdw 3 M D) : ∀ (m : Nat) (n : Nat) (i : Int32), i.toInt = (n : Int) → n ≤ D.2.2.1 → D.2.2.1 - n = m → Q (.inl (some (.int (nI (fbA D li.toInt wk.toInt))))) M → pvEv Tx 0 qX8_factBits 5 [some (.ref 3), some (.int li), some (.int wk), some (.int (nI (fbS D li.toInt wk.toInt n))), some (.int i)] [] M Q := by
  intro m
  induction m using Nat.strongRecOn with
  | _ m ih =>
    intro n i hi hnD hm hq
    have c10 : (M.1 3 10).toInt = (D.2.2.1 : Int) := hX.1.2.1
    have d24 := hD.2.1
    refine pv_iload (pc := 5) (i := 4) rfl (fm_dec dtX8_factBits 4 rfl) ?_
    refine pv_aloadn (pc := 7) (n := 0) 0 rfl rfl (fm_dec dtX8_factBits 5 rfl) ?_
    refine pv_getI (k := 3) (j := 10) (ci := 8) (pc := 8) pfl_X8_46 (by decide) rfl (by decide) (fm_dec dtX8_factBits 6 rfl) ?_
    refine pv_icmp_ge (pc := 11) 54 (by decide) (fm_dec dtX8_factBits 7 rfl) (fun hc11 => ?_) (fun hc11 => ?_)
    · refine pv_iloadn (pc := 54) (n := 3) 3 rfl rfl (fm_dec dtX8_factBits 31 rfl) ?_
      exact pv_ireturn (pc := 55) rfl (fm_dec dtX8_factBits 32 rfl) (by have e9 : n = D.2.2.1 := (by rw [sc_le] at hc11; omega); subst e9; exact hq)
    · have hn : n < D.2.2.1 := (by rw [sc_le] at hc11; omega)
      have d24 := hD.2.1
      have f0 : (M.1 10 n).toInt = D.2.2.2.1 n 0 := hX.2.2 n hn 0 (by decide)
      have f1 : (M.1 11 n).toInt = D.2.2.2.1 n 1 := hX.2.2 n hn 1 (by decide)
      have f2 : (M.1 12 n).toInt = D.2.2.2.1 n 2 := hX.2.2 n hn 2 (by decide)
      refine pv_aloadn (pc := 14) (n := 0) 0 rfl rfl (fm_dec dtX8_factBits 8 rfl) ?_
      refine pv_getR (k := 3) (j := 6) (ci := 8) (pc := 15) 10 rfl (by decide) pfl_X8_30 (by decide) rfl (by decide) (fm_dec dtX8_factBits 9 rfl) ?_
      refine pv_iload (pc := 18) (i := 4) rfl (fm_dec dtX8_factBits 10 rfl) ?_
      refine pv_iald (k := 10) (n := 24) (pc := 20) (by decide) rfl rfl (ix_in hi (by omega)) (fm_dec dtX8_factBits 11 rfl) ?_
      rw [i32_cl hi]
      refine pv_iloadn (pc := 21) (n := 1) 1 rfl rfl (fm_dec dtX8_factBits 12 rfl) ?_
      refine pv_icmp_ne (pc := 22) 48 (by decide) (fm_dec dtX8_factBits 13 rfl) (fun hc22 => ?_) (fun hc22 => ?_)
      · refine pv_iincc (pc := 48) 4 1 (by decide) rfl (by decide) rfl (fm_dec dtX8_factBits 29 rfl) ?_
        dsimp only [List.set_cons_zero, List.set_cons_succ]
        refine pv_goto (pc := 51) 5 (by decide) (fm_dec dtX8_factBits 30 rfl) ?_
        have e9 : fbS D li.toInt wk.toInt (n + 1) = fbS D li.toInt wk.toInt n := fb_no (by intro h9; apply hc22; apply i32_ext; omega)
        rw [← e9]
        exact ih (D.2.2.1 - (n + 1)) (by omega) (n + 1) (i + 1) (i32_p1 hi (by omega)) (by omega) rfl hq
      · refine pv_aloadn (pc := 25) (n := 0) 0 rfl rfl (fm_dec dtX8_factBits 14 rfl) ?_
        refine pv_getR (k := 3) (j := 8) (ci := 8) (pc := 26) 12 rfl (by decide) pfl_X8_36 (by decide) rfl (by decide) (fm_dec dtX8_factBits 15 rfl) ?_
        refine pv_iload (pc := 29) (i := 4) rfl (fm_dec dtX8_factBits 16 rfl) ?_
        refine pv_iald (k := 12) (n := 24) (pc := 31) (by decide) rfl rfl (ix_in hi (by omega)) (fm_dec dtX8_factBits 17 rfl) ?_
        rw [i32_cl hi]
        refine pv_iloadn (pc := 32) (n := 2) 2 rfl rfl (fm_dec dtX8_factBits 18 rfl) ?_
        refine pv_icmp_gt (pc := 33) 48 (by decide) (fm_dec dtX8_factBits 19 rfl) (fun hc33 => ?_) (fun hc33 => ?_)
        · refine pv_iincc (pc := 48) 4 1 (by decide) rfl (by decide) rfl (fm_dec dtX8_factBits 29 rfl) ?_
          dsimp only [List.set_cons_zero, List.set_cons_succ]
          refine pv_goto (pc := 51) 5 (by decide) (fm_dec dtX8_factBits 30 rfl) ?_
          have e9 : fbS D li.toInt wk.toInt (n + 1) = fbS D li.toInt wk.toInt n := fb_no (by intro h9; rw [sc_lt] at hc33; omega)
          rw [← e9]
          exact ih (D.2.2.1 - (n + 1)) (by omega) (n + 1) (i + 1) (i32_p1 hi (by omega)) (by omega) rfl hq
        · refine pv_iloadn (pc := 36) (n := 3) 3 rfl rfl (fm_dec dtX8_factBits 20 rfl) ?_
          refine pv_iconst (pc := 37) (v := 1) (by decide) (fm_dec dtX8_factBits 21 rfl) ?_
          refine pv_aloadn (pc := 38) (n := 0) 0 rfl rfl (fm_dec dtX8_factBits 22 rfl) ?_
          refine pv_getR (k := 3) (j := 7) (ci := 8) (pc := 39) 11 rfl (by decide) pfl_X8_33 (by decide) rfl (by decide) (fm_dec dtX8_factBits 23 rfl) ?_
          refine pv_iload (pc := 42) (i := 4) rfl (fm_dec dtX8_factBits 24 rfl) ?_
          refine pv_iald (k := 11) (n := 24) (pc := 44) (by decide) rfl rfl (ix_in hi (by omega)) (fm_dec dtX8_factBits 25 rfl) ?_
          rw [i32_cl hi]
          refine pv_ishl (pc := 45) (fm_dec dtX8_factBits 26 rfl) ?_
          refine pv_ixor (pc := 46) (fm_dec dtX8_factBits 27 rfl) ?_
          refine pv_istoren (pc := 47) (n := 3) 3 rfl (by decide) rfl (fm_dec dtX8_factBits 28 rfl) ?_
          dsimp only [List.set_cons_zero, List.set_cons_succ]
          refine pv_iincc (pc := 48) 4 1 (by decide) rfl (by decide) rfl (fm_dec dtX8_factBits 29 rfl) ?_
          dsimp only [List.set_cons_zero, List.set_cons_succ]
          refine pv_goto (pc := 51) 5 (by decide) (fm_dec dtX8_factBits 30 rfl) ?_
          obtain ⟨k, hk6, hk, hkx⟩ := kd_d hD hn f1
          have e9 : fbS D li.toInt wk.toInt (n + 1) = fbS D li.toInt wk.toInt n ^^^ 1 <<< k := fb_go ⟨by rw [← f0, hc22], by rw [sc_lt] at hc33; omega⟩ hk
          rw [hkx, (xor6 _ (fb_64 hD n (by omega)) k hk6).1, ← e9]
          exact ih (D.2.2.1 - (n + 1)) (by omega) (n + 1) (i + 1) (i32_p1 hi (by omega)) (by omega) rfl hq
set_option maxRecDepth 20000 in
theorem c_xfb {M : fmM} {Q : fmR → fmM → Prop} {li wk : Int32} {D : dD} (hD : dOk D) (hX : xdw 3 M D) (hq : Q (.inl (some (.int (nI (fbA D li.toInt wk.toInt))))) M) : pvGood Tx 0 qX8_factBits [.ref 3, .int li, .int wk] M Q := by
  refine pvGood_of (Nat.le_of_ble_eq_true rfl) ?_
  show pvEv Tx 0 qX8_factBits 0 [some (.ref 3), some (.int li), some (.int wk), none, none] [] M Q
  refine pv_iconst (pc := 0) (v := 0) (by decide) (fm_dec dtX8_factBits 0 rfl) ?_
  refine pv_istoren (pc := 1) (n := 3) 3 rfl (by decide) rfl (fm_dec dtX8_factBits 1 rfl) ?_
  dsimp only [List.set_cons_zero, List.set_cons_succ]
  refine pv_iconst (pc := 2) (v := 0) (by decide) (fm_dec dtX8_factBits 2 rfl) ?_
  refine pv_istore (pc := 3) (i := 4) (by decide) rfl (fm_dec dtX8_factBits 3 rfl) ?_
  dsimp only [List.set_cons_zero, List.set_cons_succ]
  exact xf_loop hD hX D.2.2.1 0 0 (by decide) (by omega) (by omega) hq
set_option maxRecDepth 20000 in
theorem mf_loop {Q : fmR → fmM → Prop} {M : fmM} {li wk : Int32} {D : dD} (hD : dOk D) (hY : mdw M D) : ∀ (m : Nat) (n : Nat) (i : Int32), i.toInt = (n : Int) → n ≤ D.2.2.1 → D.2.2.1 - n = m → Q (.inl (some (.int (nI (fbA D li.toInt wk.toInt))))) M → pvEv Tm 0 qX11_factsAt 5 [some (.ref 0), some (.int li), some (.int wk), some (.int (nI (fbS D li.toInt wk.toInt n))), some (.int i)] [] M Q := by
  intro m
  induction m using Nat.strongRecOn with
  | _ m ih =>
    intro n i hi hnD hm hq
    have c10 : (M.1 4 (Int32.toNatClampNeg 1)).toInt = (D.2.2.1 : Int) := hY.2.1
    have d24 := hD.2.1
    refine pv_iload (pc := 5) (i := 4) rfl (fm_dec dtX11_factsAt 4 rfl) ?_
    refine pv_aloadn (pc := 7) (n := 0) 0 rfl rfl (fm_dec dtX11_factsAt 5 rfl) ?_
    refine pv_getR (k := 0) (j := 12) (ci := 11) (pc := 8) 4 rfl (by decide) pfl_X11_23 (by decide) rfl (by decide) (fm_dec dtX11_factsAt 6 rfl) ?_
    refine pv_iconst (pc := 11) (v := 1) (by decide) (fm_dec dtX11_factsAt 7 rfl) ?_
    refine pv_iald (k := 4) (n := 6) (pc := 12) (by decide) rfl rfl (fm_inl (by decide)) (fm_dec dtX11_factsAt 8 rfl) ?_
    refine pv_icmp_ge (pc := 13) 66 (by decide) (fm_dec dtX11_factsAt 9 rfl) (fun hc13 => ?_) (fun hc13 => ?_)
    · refine pv_iloadn (pc := 66) (n := 3) 3 rfl rfl (fm_dec dtX11_factsAt 41 rfl) ?_
      exact pv_ireturn (pc := 67) rfl (fm_dec dtX11_factsAt 42 rfl) (by have e9 : n = D.2.2.1 := (by rw [sc_le] at hc13; have h8 : (M.1 4 (Int32.toNatClampNeg 1)).toInt = (D.2.2.1 : Int) := hY.2.1; omega); subst e9; exact hq)
    · have hn : n < D.2.2.1 := (by rw [sc_le] at hc13; have h9 : (M.1 4 1).toInt = (D.2.2.1 : Int) := hY.2.1; have h8 : (M.1 4 (Int32.toNatClampNeg 1)).toInt = (D.2.2.1 : Int) := hY.2.1; omega)
      have d24 := hD.2.1
      have h24 : n < 24 := (by omega)
      have f0 : (M.1 (67 + n) (Int32.toNatClampNeg 0)).toInt = D.2.2.2.1 n 0 := hY.2.2.2.2 n hn 0 (by decide)
      have f1 : (M.1 (67 + n) (Int32.toNatClampNeg 1)).toInt = D.2.2.2.1 n 1 := hY.2.2.2.2 n hn 1 (by decide)
      have f2 : (M.1 (67 + n) (Int32.toNatClampNeg 2)).toInt = D.2.2.2.1 n 2 := hY.2.2.2.2 n hn 2 (by decide)
      refine pv_iloadn (pc := 16) (n := 3) 3 rfl rfl (fm_dec dtX11_factsAt 10 rfl) ?_
      refine pv_aloadn (pc := 17) (n := 0) 0 rfl rfl (fm_dec dtX11_factsAt 11 rfl) ?_
      refine pv_getR (k := 0) (j := 16) (ci := 11) (pc := 18) 19 rfl (by decide) pfl_X11_37 (by decide) rfl (by decide) (fm_dec dtX11_factsAt 12 rfl) ?_
      refine pv_iload (pc := 21) (i := 4) rfl (fm_dec dtX11_factsAt 13 rfl) ?_
      refine pv_aald (k := 19) (n := 24) (r := (67 + n)) (pc := 23) (by decide) (Or.inr (Or.inr rfl)) rfl (rw_fact.inb hi h24) (rw_fact.at hi h24) (rw_fact.2.2.2 _ h24).2.1 (fm_dec dtX11_factsAt 14 rfl) ?_
      refine pv_iconst (pc := 24) (v := 0) (by decide) (fm_dec dtX11_factsAt 15 rfl) ?_
      refine pv_iald (k := (67 + n)) (n := 3) (pc := 25) (rw_fact.2.2.2 _ h24).2.2.1 (rw_fact.2.2.2 _ h24).2.2.2.1 (rw_fact.2.2.2 _ h24).2.2.2.2 (fm_inl (by decide)) (fm_dec dtX11_factsAt 16 rfl) ?_
      refine pv_iloadn (pc := 26) (n := 1) 1 rfl rfl (fm_dec dtX11_factsAt 17 rfl) ?_
      refine pv_icmp_ne (pc := 27) 57 (by decide) (fm_dec dtX11_factsAt 18 rfl) (fun hc27 => ?_) (fun hc27 => ?_)
      · refine pv_iconst (pc := 57) (v := 0) (by decide) (fm_dec dtX11_factsAt 36 rfl) ?_
        refine pv_ixor (pc := 58) (fm_dec dtX11_factsAt 37 rfl) ?_
        refine pv_istoren (pc := 59) (n := 3) 3 rfl (by decide) rfl (fm_dec dtX11_factsAt 38 rfl) ?_
        dsimp only [List.set_cons_zero, List.set_cons_succ]
        refine pv_iincc (pc := 60) 4 1 (by decide) rfl (by decide) rfl (fm_dec dtX11_factsAt 39 rfl) ?_
        dsimp only [List.set_cons_zero, List.set_cons_succ]
        refine pv_goto (pc := 63) 5 (by decide) (fm_dec dtX11_factsAt 40 rfl) ?_
        have e9 : fbS D li.toInt wk.toInt (n + 1) = fbS D li.toInt wk.toInt n := fb_no (by intro h9; apply hc27; apply i32_ext; omega)
        rw [xor6z _ (fb_64 hD n (by omega)), ← e9]
        exact ih (D.2.2.1 - (n + 1)) (by omega) (n + 1) (i + 1) (i32_p1 hi (by omega)) (by omega) rfl hq
      · refine pv_aloadn (pc := 30) (n := 0) 0 rfl rfl (fm_dec dtX11_factsAt 19 rfl) ?_
        refine pv_getR (k := 0) (j := 16) (ci := 11) (pc := 31) 19 rfl (by decide) pfl_X11_37 (by decide) rfl (by decide) (fm_dec dtX11_factsAt 20 rfl) ?_
        refine pv_iload (pc := 34) (i := 4) rfl (fm_dec dtX11_factsAt 21 rfl) ?_
        refine pv_aald (k := 19) (n := 24) (r := (67 + n)) (pc := 36) (by decide) (Or.inr (Or.inr rfl)) rfl (rw_fact.inb hi h24) (rw_fact.at hi h24) (rw_fact.2.2.2 _ h24).2.1 (fm_dec dtX11_factsAt 22 rfl) ?_
        refine pv_iconst (pc := 37) (v := 2) (by decide) (fm_dec dtX11_factsAt 23 rfl) ?_
        refine pv_iald (k := (67 + n)) (n := 3) (pc := 38) (rw_fact.2.2.2 _ h24).2.2.1 (rw_fact.2.2.2 _ h24).2.2.2.1 (rw_fact.2.2.2 _ h24).2.2.2.2 (fm_inl (by decide)) (fm_dec dtX11_factsAt 24 rfl) ?_
        refine pv_iloadn (pc := 39) (n := 2) 2 rfl rfl (fm_dec dtX11_factsAt 25 rfl) ?_
        refine pv_icmp_gt (pc := 40) 57 (by decide) (fm_dec dtX11_factsAt 26 rfl) (fun hc40 => ?_) (fun hc40 => ?_)
        · refine pv_iconst (pc := 57) (v := 0) (by decide) (fm_dec dtX11_factsAt 36 rfl) ?_
          refine pv_ixor (pc := 58) (fm_dec dtX11_factsAt 37 rfl) ?_
          refine pv_istoren (pc := 59) (n := 3) 3 rfl (by decide) rfl (fm_dec dtX11_factsAt 38 rfl) ?_
          dsimp only [List.set_cons_zero, List.set_cons_succ]
          refine pv_iincc (pc := 60) 4 1 (by decide) rfl (by decide) rfl (fm_dec dtX11_factsAt 39 rfl) ?_
          dsimp only [List.set_cons_zero, List.set_cons_succ]
          refine pv_goto (pc := 63) 5 (by decide) (fm_dec dtX11_factsAt 40 rfl) ?_
          have e9 : fbS D li.toInt wk.toInt (n + 1) = fbS D li.toInt wk.toInt n := fb_no (by intro h9; rw [sc_lt] at hc40; omega)
          rw [xor6z _ (fb_64 hD n (by omega)), ← e9]
          exact ih (D.2.2.1 - (n + 1)) (by omega) (n + 1) (i + 1) (i32_p1 hi (by omega)) (by omega) rfl hq
        · refine pv_iconst (pc := 43) (v := 1) (by decide) (fm_dec dtX11_factsAt 27 rfl) ?_
          refine pv_aloadn (pc := 44) (n := 0) 0 rfl rfl (fm_dec dtX11_factsAt 28 rfl) ?_
          refine pv_getR (k := 0) (j := 16) (ci := 11) (pc := 45) 19 rfl (by decide) pfl_X11_37 (by decide) rfl (by decide) (fm_dec dtX11_factsAt 29 rfl) ?_
          refine pv_iload (pc := 48) (i := 4) rfl (fm_dec dtX11_factsAt 30 rfl) ?_
          refine pv_aald (k := 19) (n := 24) (r := (67 + n)) (pc := 50) (by decide) (Or.inr (Or.inr rfl)) rfl (rw_fact.inb hi h24) (rw_fact.at hi h24) (rw_fact.2.2.2 _ h24).2.1 (fm_dec dtX11_factsAt 31 rfl) ?_
          refine pv_iconst (pc := 51) (v := 1) (by decide) (fm_dec dtX11_factsAt 32 rfl) ?_
          refine pv_iald (k := (67 + n)) (n := 3) (pc := 52) (rw_fact.2.2.2 _ h24).2.2.1 (rw_fact.2.2.2 _ h24).2.2.2.1 (rw_fact.2.2.2 _ h24).2.2.2.2 (fm_inl (by decide)) (fm_dec dtX11_factsAt 33 rfl) ?_
          refine pv_ishl (pc := 53) (fm_dec dtX11_factsAt 34 rfl) ?_
          refine pv_goto (pc := 54) 58 (by decide) (fm_dec dtX11_factsAt 35 rfl) ?_
          refine pv_ixor (pc := 58) (fm_dec dtX11_factsAt 37 rfl) ?_
          refine pv_istoren (pc := 59) (n := 3) 3 rfl (by decide) rfl (fm_dec dtX11_factsAt 38 rfl) ?_
          dsimp only [List.set_cons_zero, List.set_cons_succ]
          refine pv_iincc (pc := 60) 4 1 (by decide) rfl (by decide) rfl (fm_dec dtX11_factsAt 39 rfl) ?_
          dsimp only [List.set_cons_zero, List.set_cons_succ]
          refine pv_goto (pc := 63) 5 (by decide) (fm_dec dtX11_factsAt 40 rfl) ?_
          obtain ⟨k, hk6, hk, hkx⟩ := kd_d hD hn f1
          have e9 : fbS D li.toInt wk.toInt (n + 1) = fbS D li.toInt wk.toInt n ^^^ 1 <<< k := fb_go ⟨by rw [← f0, hc27], by rw [sc_lt] at hc40; omega⟩ hk
          rw [hkx, (xor6 _ (fb_64 hD n (by omega)) k hk6).1, ← e9]
          exact ih (D.2.2.1 - (n + 1)) (by omega) (n + 1) (i + 1) (i32_p1 hi (by omega)) (by omega) rfl hq
set_option maxRecDepth 20000 in
theorem c_mfb {M : fmM} {Q : fmR → fmM → Prop} {li wk : Int32} {D : dD} (hD : dOk D) (hY : mdw M D) (hq : Q (.inl (some (.int (nI (fbA D li.toInt wk.toInt))))) M) : pvGood Tm 0 qX11_factsAt [.ref 0, .int li, .int wk] M Q := by
  refine pvGood_of (Nat.le_of_ble_eq_true rfl) ?_
  show pvEv Tm 0 qX11_factsAt 0 [some (.ref 0), some (.int li), some (.int wk), none, none] [] M Q
  refine pv_iconst (pc := 0) (v := 0) (by decide) (fm_dec dtX11_factsAt 0 rfl) ?_
  refine pv_istoren (pc := 1) (n := 3) 3 rfl (by decide) rfl (fm_dec dtX11_factsAt 1 rfl) ?_
  dsimp only [List.set_cons_zero, List.set_cons_succ]
  refine pv_iconst (pc := 2) (v := 0) (by decide) (fm_dec dtX11_factsAt 2 rfl) ?_
  refine pv_istore (pc := 3) (i := 4) (by decide) rfl (fm_dec dtX11_factsAt 3 rfl) ?_
  dsimp only [List.set_cons_zero, List.set_cons_succ]
  exact mf_loop hD hY D.2.2.1 0 0 (by decide) (by omega) (by omega) hq
end
-- P 18u
section
-- THE CLASS READS WORKS
def wFr (b : Nat) (M M' : fmM) : Prop := (∀ k j, k ≠ 1 → ¬ (k = 28 ∧ j = 3) → ¬ (29 ≤ k ∧ k ≤ 31 ∧ b ≤ j) → M'.1 k j = M.1 k j) ∧ (∀ k j, k ≠ 1 → ¬ (28 ≤ k ∧ k ≤ 31) → M'.2 k j = M.2 k j) ∧ (∀ j, j ≠ 3 → j ≠ 4 → j ≠ 5 → M'.1 1 j = M.1 1 j)
def wRep (M : fmM) (b : Nat) (ss : tS) : Prop := ∀ i s, ss[i]? = some s → (M.1 29 (b + i)).toInt = (s.1 : Int) ∧ (M.1 30 (b + i)).toInt = (s.2.1 : Int) ∧ (s.1 = 4 → (M.1 31 (b + i)).toInt = (s.2.2 : Int))
def wPre (M : fmM) (tx : tX) (n p b : Nat) : Prop := xS2 M tx n p ∧ M.1 1 4 = 0 ∧ scInv Tx invX M ∧ (M.1 28 3).toInt = (b : Int) ∧ 2 * b ≤ p ∧ n ≤ 150
def wOk (M M' : fmM) (tx : tX) (n q b : Nat) (ss : tS) : Prop := xS2 M' tx n q ∧ M'.1 1 4 = 0 ∧ scInv Tx invX M' ∧ (M'.1 28 3).toInt = ((b + ss.length : Nat) : Int) ∧ wRep M' b ss ∧ wFr b M M'
def wBad (M M' : fmM) (k a : Nat) : Prop := (M'.1 1 4).toInt = (k : Int) ∧ (M'.1 1 5).toInt = (a : Int) ∧ k ≠ 0 ∧ scInv Tx invX M' ∧ wFr 0 M M'
theorem wFr.refl (b : Nat) (M : fmM) : wFr b M M := ⟨fun _ _ _ _ _ => rfl, fun _ _ _ _ => rfl, fun _ _ _ _ => rfl⟩
theorem wFr.trans {b b' : Nat} {M M1 M2 : fmM} (h : wFr b M M1) (h' : wFr b' M1 M2) (hm : b ≤ b') : wFr b M M2 := ⟨fun k j a b c => (h'.1 k j a b (by omega)).trans (h.1 k j a b c), fun k j a b => (h'.2.1 k j a b).trans (h.2.1 k j a b), fun j a b c => (h'.2.2 j a b c).trans (h.2.2 j a b c)⟩
theorem wFr.zero {b : Nat} {M M1 : fmM} (h : wFr b M M1) : wFr 0 M M1 := ⟨fun k j a b c => h.1 k j a b (by omega), h.2.1, h.2.2⟩
theorem wFr.tr0 {b b' : Nat} {M M1 M2 : fmM} (h : wFr b M M1) (h' : wFr b' M1 M2) : wFr 0 M M2 := wFr.trans h.zero h'.zero (Nat.le_refl _)
theorem xdFr.w {M M1 : fmM} (h : xdFr M M1) (b : Nat) : wFr b M M1 := ⟨fun k j a _ _ => (h.1 k j a).1, fun k j a _ => (h.1 k j a).2, h.2⟩
theorem wFr.put {b k j : Nat} {M M1 : fmM} {x : Int32} (h : wFr b M M1) (hk : (k = 28 ∧ j = 3) ∨ (29 ≤ k ∧ k ≤ 31 ∧ b ≤ j)) : wFr b M (fmI M1 k j x) := by
  refine ⟨fun k' j' a b' c => ?_, fun k' j' a b' => h.2.1 k' j' a b', fun j' a b' c => ?_⟩
  · rw [fmI_at, if_neg (by omega)]
    exact h.1 k' j' a b' c
  · rw [fmI_k _ _ (by omega)]
    exact h.2.2 j' a b' c
theorem wRep.fr {M M' : fmM} {b b' : Nat} {ss : tS} (h : wRep M b ss) (hf : wFr b' M M') (hm : b + ss.length ≤ b') : wRep M' b ss := fun i c hi => by
  have hl : i < ss.length := (List.getElem?_eq_some_iff.mp hi).1
  rw [hf.1 29 (b + i) (by decide) (by omega) (by omega), hf.1 30 (b + i) (by decide) (by omega) (by omega), hf.1 31 (b + i) (by decide) (by omega) (by omega)]
  exact h i c hi
theorem wRep.app {M : fmM} {b : Nat} {ss ts : tS} (h : wRep M b ss) (h' : wRep M (b + ss.length) ts) : wRep M b (ss ++ ts) := fun i c hi => by
  by_cases e : i < ss.length
  · rw [List.getElem?_append_left e] at hi
    exact h i c hi
  · rw [List.getElem?_append_right (by omega)] at hi
    have h9 := h' (i - ss.length) c hi
    rw [show b + ss.length + (i - ss.length) = b + i by omega] at h9
    exact h9
theorem wOk.trans {M M1 M2 : fmM} {tx : tX} {n q1 q2 b : Nat} {ss ts : tS} (h : wOk M M1 tx n q1 b ss) (h' : wOk M1 M2 tx n q2 (b + ss.length) ts) : wOk M M2 tx n q2 b (ss ++ ts) := ⟨h'.1, h'.2.1, h'.2.2.1, by rw [List.length_append, ← Nat.add_assoc]; exact h'.2.2.2.1, (h.2.2.2.2.1.fr h'.2.2.2.2.2 (Nat.le_refl _)).app h'.2.2.2.2.1, h.2.2.2.2.2.trans h'.2.2.2.2.2 (by omega)⟩
theorem wOk.xd {M M1 M2 : fmM} {tx : tX} {n q1 q2 b : Nat} {ss : tS} (h : wOk M M1 tx n q1 b ss) (h' : xdOk M1 M2 tx n q2) : wOk M M2 tx n q2 b ss := ⟨h'.1, h'.2.1, h'.2.2.2, by rw [(h'.2.2.1.1 28 3 (by decide)).1]; exact h.2.2.2.1, h.2.2.2.2.1.fr (h'.2.2.1.w (b + ss.length)) (Nat.le_refl _), h.2.2.2.2.2.trans (h'.2.2.1.w b) (Nat.le_refl _)⟩
theorem wOk.pre {M0 M M1 : fmM} {tx : tX} {n q b : Nat} {ss : tS} (h : xdFr M0 M) (h' : wOk M M1 tx n q b ss) : wOk M0 M1 tx n q b ss := ⟨h'.1, h'.2.1, h'.2.2.1, h'.2.2.2.1, h'.2.2.2.2.1, (h.w b).trans h'.2.2.2.2.2 (Nat.le_refl _)⟩
theorem wOk.xdb {M M1 M2 : fmM} {tx : tX} {n q1 b k a : Nat} {ss : tS} (h : wOk M M1 tx n q1 b ss) (h' : xdBad M1 M2 k a) : wBad M M2 k a := ⟨h'.1, h'.2.1, h'.2.2.1, h'.2.2.2.2, h.2.2.2.2.2.tr0 (h'.2.2.2.1.w b)⟩
theorem wOk.bad {M M1 M2 : fmM} {tx : tX} {n q1 b k a : Nat} {ss : tS} (h : wOk M M1 tx n q1 b ss) (h' : wBad M1 M2 k a) : wBad M M2 k a := ⟨h'.1, h'.2.1, h'.2.2.1, h'.2.2.2.1, h.2.2.2.2.2.tr0 h'.2.2.2.2⟩
theorem wBad.pre {M0 M M1 : fmM} {k a b : Nat} (h : wFr b M0 M) (h' : wBad M M1 k a) : wBad M0 M1 k a := ⟨h'.1, h'.2.1, h'.2.2.1, h'.2.2.2.1, h.tr0 h'.2.2.2.2⟩
theorem xdBad.wb {M0 M M1 : fmM} {k a b : Nat} (h : wFr b M0 M) (h' : xdBad M M1 k a) : wBad M0 M1 k a := ⟨h'.1, h'.2.1, h'.2.2.1, h'.2.2.2.2, h.tr0 (h'.2.2.2.1.w b)⟩
theorem wPre.xd {M M1 : fmM} {tx : tX} {n p q b : Nat} (h : wPre M tx n p b) (k : xdOk M M1 tx n q) (hq : p ≤ q) : wPre M1 tx n q b := ⟨k.1, k.2.1, k.2.2.2, by rw [(k.2.2.1.1 28 3 (by decide)).1]; exact h.2.2.2.1, by have := h.2.2.2.2.1; omega, h.2.2.2.2.2⟩
theorem wPre.next {M M1 : fmM} {tx : tX} {n p q b : Nat} {ss : tS} (h : wPre M tx n p b) (k : wOk M M1 tx n q b ss) (hq : p + 2 * ss.length ≤ q) : wPre M1 tx n q (b + ss.length) := ⟨k.1, k.2.1, k.2.2.1, k.2.2.2.1, by have := h.2.2.2.2.1; omega, h.2.2.2.2.2⟩
theorem wPre.nil {M : fmM} {tx : tX} {n p b : Nat} (h : wPre M tx n p b) : wOk M M tx n p b [] := ⟨h.1, h.2.1, h.2.2.1, h.2.2.2.1, fun i c hi => (by cases hi), wFr.refl b M⟩
theorem wBad.nz {M M' : fmM} {k a : Nat} (h : wBad M M' k a) : ¬ M'.1 1 4 = 0 := by
  intro e
  have h1 := h.1
  rw [e] at h1
  have e0 : (0 : Int32).toInt = 0 := by decide
  have := h.2.2.1
  omega
theorem stK_of {w : List Int} {j : Nat} (h : wdI wsWork w 0 = some j) : stK w = some j ∧ j < 5 := by
  simp only [wdI, wsWork] at h
  repeat' split at h
  all_goals first | (injection h with h; subst h; rename_i h9; subst h9; exact ⟨by decide, by decide⟩) | cases h
theorem stK_no {w : List Int} (h : wdI wsWork w 0 = none) : stK w = none := by
  simp only [wdI, wsWork] at h
  repeat' split at h
  all_goals first | (cases h; done) | skip
  rename_i h0 h1 h2 h3 h4
  unfold stK
  rw [if_neg h0, if_neg h1, if_neg h2, if_neg h3, if_neg h4]
def sgS (tx : tX) (ss : tS) (q : Nat) : tR tS := spBind (spSign tx 59 q) fun _ q => .inr (ss, q)
def bSi (tx : tX) (l k b q : Nat) : tR tS := spBind (spNum tx 0 ((l : Int) - 1) q) fun v q => .inr ([(k, v, b + 1)], q)
def bAg (tx : tX) (rc : Nat → tR tS) (b q : Nat) : tR tS := spBind (spNum tx 0 20 q) fun v q => spBind (spSign tx 91 q) fun _ q => spBind (rc (sk tx q)) fun ss q => spBind (spSign tx 93 q) fun _ q => .inr ((4, v, b + 1 + ss.length) :: ss, q)
def bOne (tx : tX) (l : Nat) (rc : Nat → tR tS) (o b p : Nat) : tR tS := match stK (wd tx (sk tx p)) with
  | none => .inl (1, sk tx p)
  | some k => if k = 4 then (if o = 6 then .inl (3, sk tx p) else bAg tx rc b (sp tW tx (sk tx p))) else if k = 3 then .inr ([(3, 0, b + 1)], sp tW tx (sk tx p)) else bSi tx l k b (sp tW tx (sk tx p))
theorem one_B (tx : tX) (l : Nat) (rc : Nat → tR tS) (o b p : Nat) : spOneS tx l rc o b p = spBind (bOne tx l rc o b p) (sgS tx) := by
  unfold spOneS bOne
  cases stK (wd tx (sk tx p)) with
  | none => rfl
  | some k =>
    by_cases h4 : k = 4
    · simp only [if_pos h4]
      by_cases h6 : o = 6
      · simp only [if_pos h6]
        rfl
      · simp only [if_neg h6]
        unfold spAg bAg
        simp only [spBind_a]
        rfl
    · simp only [if_neg h4]
      by_cases h3 : k = 3
      · simp only [if_pos h3]
        rfl
      · simp only [if_neg h3]
        unfold spSi bSi
        simp only [spBind_a]
        rfl
theorem bo_n {tx : tX} {l o b p : Nat} {rc : Nat → tR tS} (h : stK (wd tx (sk tx p)) = none) : bOne tx l rc o b p = .inl (1, sk tx p) := by
  unfold bOne
  rw [h]
theorem bo_6 {tx : tX} {l b p : Nat} {rc : Nat → tR tS} (h : stK (wd tx (sk tx p)) = some 4) : bOne tx l rc 6 b p = .inl (3, sk tx p) := by
  unfold bOne
  rw [h]
  rfl
theorem bo_4 {tx : tX} {l o b p : Nat} {rc : Nat → tR tS} (h : stK (wd tx (sk tx p)) = some 4) (ho : ¬ o = 6) : bOne tx l rc o b p = bAg tx rc b (sp tW tx (sk tx p)) := by
  unfold bOne
  rw [h]
  simp only [if_true, if_neg ho]
theorem bo_3 {tx : tX} {l o b p : Nat} {rc : Nat → tR tS} (h : stK (wd tx (sk tx p)) = some 3) : bOne tx l rc o b p = .inr ([(3, 0, b + 1)], sp tW tx (sk tx p)) := by
  unfold bOne
  rw [h]
  rfl
theorem bo_s {tx : tX} {l o b p k : Nat} {rc : Nat → tR tS} (h : stK (wd tx (sk tx p)) = some k) (h4 : ¬ k = 4) (h3 : ¬ k = 3) : bOne tx l rc o b p = bSi tx l k b (sp tW tx (sk tx p)) := by
  unfold bOne
  rw [h]
  simp only [if_neg h4, if_neg h3]
def wE (Q : fmR → fmM → Prop) (M : fmM) (tx : tX) (n b : Nat) (r : tR tS) : Prop := (∀ (M' : fmM) (ss : tS) (q : Nat), r = .inr (ss, q) → wOk M M' tx n q b ss → Q (.inl (some (.int 1))) M') ∧ ∀ (M' : fmM) (k a : Nat), r = .inl (k, a) → wBad M M' k a → Q (.inl (some (.int 0))) M'
/-- steps up to a bracket -/
def wG1 (tx : tX) (n l f : Nat) : Prop := ∀ (o b p : Nat) (M : fmM) (Q : fmR → fmM → Prop) (lv op : Int32), 1 ≤ o → o ≤ 6 → wPre M tx n p b → lv.toInt = (l : Int) → l ≤ 8 → op.toInt = (o : Int) → ¬ spSt tx l f 1 o b (sk tx p) = .inl (9, 0) → wE Q M tx n b (spSt tx l f 1 o b (sk tx p)) → pvGood Tx (8 + 3 * (6 - o)) qX9_readSteps [.ref 28, .ref 1, .int lv, .int op] M Q
/-- one step, without its sign -/
def wG0 (tx : tX) (n l f : Nat) : Prop := ∀ (o b p : Nat) (M : fmM) (Q : fmR → fmM → Prop) (lv op : Int32), o ≤ 6 → wPre M tx n p b → lv.toInt = (l : Int) → l ≤ 8 → op.toInt = (o : Int) → ¬ bOne tx l (fun q => spSt tx l f 1 (o + 1) (b + 1) q) o b p = .inl (9, 0) → wE Q M tx n b (bOne tx l (fun q => spSt tx l f 1 (o + 1) (b + 1) q) o b p) → pvGood Tx (7 + 3 * (6 - o)) qX9_readStep [.ref 28, .ref 1, .int lv, .int op] M Q
theorem st_fr {M0 M : fmM} {w : Int32} {b : Nat} (h : wFr b M0 M) : wFr b M0 (stpM M w b) := (h.put (Or.inl ⟨rfl, rfl⟩)).put (Or.inr ⟨by decide, by decide, Nat.le_refl _⟩)
theorem st_S {M : fmM} {tx : tX} {n q b : Nat} {w : Int32} (h : xS2 M tx n q) : xS2 (stpM M w b) tx n q := h.of rfl rfl rfl
theorem nu_S {M : fmM} {tx : tX} {n q k b : Nat} {w : Int32} (h : xS2 M tx n q) (hk : k = 30 ∨ k = 31) : xS2 (fmI M k b w) tx n q := by
  rcases hk with rfl | rfl <;> exact h.of rfl rfl rfl
/-- one step that is no again -/
theorem w_one {M0 M2 : fmM} {tx : tX} {n q b k v : Nat} {w x : Int32} (hS : xS2 M2 tx n q) (hf : M2.1 1 4 = 0) (hI : scInv Tx invX (fmI M2 30 b x)) (hz : (M2.1 28 3).toInt = ((b + 1 : Nat) : Int)) (hk : (M2.1 29 b).toInt = (k : Int)) (hx : x.toInt = (v : Int)) (h4 : ¬ k = 4) (hF : wFr b M0 M2) : wOk M0 (fmI M2 30 b x) tx n q b [(k, v, b + 1)] := by
  refine ⟨nu_S hS (Or.inl rfl), hf, hI, ?_, fun i c hi => ?_, hF.put (Or.inr ⟨by decide, by decide, Nat.le_refl _⟩)⟩
  · rw [fmI_k _ _ (by decide)]
    exact hz
  · cases i with
    | succ i => cases hi
    | zero =>
      cases hi
      refine ⟨?_, ?_, fun h => absurd h h4⟩
      · rw [fmI_k _ _ (by decide), Nat.add_zero]
        exact hk
      · rw [Nat.add_zero, fmI_s]
        exact hx
/-- an again, closed -/
theorem w_ag {M0 M2 M3 M4 : fmM} {tx : tX} {n q q' b v : Nat} {ss : tS} {x : Int32} (hF : wFr b M0 M2) (hk : (M2.1 29 b).toInt = ((4 : Nat) : Int)) (hv : (M2.1 30 b).toInt = (v : Int)) (h3 : wOk M2 M3 tx n q (b + 1) ss) (h4 : xdOk M3 M4 tx n q') (hI : scInv Tx invX (fmI M4 31 b x)) (hx : x = M4.1 28 3) : wOk M0 (fmI M4 31 b x) tx n q' b ((4, v, b + 1 + ss.length) :: ss) := by
  have h3 := h3.xd h4
  have e28 : (M4.1 28 3).toInt = ((b + 1 + ss.length : Nat) : Int) := h3.2.2.2.1
  refine ⟨nu_S h3.1 (Or.inr rfl), h3.2.1, hI, ?_, fun i c hi => ?_, ?_⟩
  · rw [fmI_k _ _ (by decide), e28, List.length_cons]
    congr 1
    omega
  · cases i with
    | zero =>
      cases hi
      rw [Nat.add_zero, fmI_k _ _ (by decide), fmI_k _ _ (by decide), fmI_s]
      refine ⟨?_, ?_, fun _ => ?_⟩
      · rw [h3.2.2.2.2.2.1 29 b (by decide) (by omega) (by omega)]
        exact hk
      · rw [h3.2.2.2.2.2.1 30 b (by decide) (by omega) (by omega)]
        exact hv
      · rw [hx]
        exact e28
    | succ i =>
      have h9 := h3.2.2.2.2.1 i c hi
      rw [show b + (i + 1) = b + 1 + i by omega, fmI_k _ _ (by decide), fmI_k _ _ (by decide), fmI_at, if_neg (by omega)]
      exact h9
  · exact (hF.trans h3.2.2.2.2.2 (Nat.le_succ _)).put (Or.inr ⟨by decide, by decide, Nat.le_refl _⟩)
theorem wOk.frm {M0 M M1 : fmM} {tx : tX} {n q b : Nat} {ss : tS} (h : wFr b M0 M) (h' : wOk M M1 tx n q b ss) : wOk M0 M1 tx n q b ss := ⟨h'.1, h'.2.1, h'.2.2.1, h'.2.2.2.1, h'.2.2.2.2.1, h.trans h'.2.2.2.2.2 (Nat.le_refl _)⟩
theorem stK_4 {w : List Int} (h : stK w = some 4) : w.length = 5 := by
  unfold stK at h
  repeat' split at h
  all_goals first | (rename_i e; subst e; rfl) | (injection h with h; exact absurd h (by decide)) | cases h
theorem ss_e {tx : tX} {l f o b a : Nat} (ht : tx a = 93) : spSt tx l (f + 1) 1 o b a = .inr ([], a) := if_pos ht
theorem ss_b {tx : tX} {l f o b a : Nat} {e : Nat × Nat} (ht : ¬ tx a = 93) (h : spSt tx l f 0 o b a = .inl e) : spSt tx l (f + 1) 1 o b a = .inl e := by
  show (if tx a = 93 then _ else spBind (spSt tx l f 0 o b a) _) = _
  rw [if_neg ht, h]
  rfl
theorem ss_s {tx : tX} {l f o b a q : Nat} {ss : tS} (ht : ¬ tx a = 93) (h : spSt tx l f 0 o b a = .inr (ss, q)) : spSt tx l (f + 1) 1 o b a = spBind (spSt tx l f 1 o (b + ss.length) (sk tx q)) fun ts q => .inr (ss ++ ts, q) := by
  show (if tx a = 93 then _ else spBind (spSt tx l f 0 o b a) _) = _
  rw [if_neg ht, h]
  rfl
theorem o_ok {tx : tX} {l f o b a q q2 : Nat} {ss : tS} (h : bOne tx l (fun q => spSt tx l f 1 (o + 1) (b + 1) q) o b a = .inr (ss, q)) (h2 : spSign tx 59 q = .inr ((), q2)) : spSt tx l (f + 1) 0 o b a = .inr (ss, q2) := by
  refine (one_B tx l _ o b a).trans ?_
  rw [h]
  show spBind (spSign tx 59 q) _ = _
  rw [h2]
  rfl
theorem o_b1 {tx : tX} {l f o b a : Nat} {e : Nat × Nat} (h : bOne tx l (fun q => spSt tx l f 1 (o + 1) (b + 1) q) o b a = .inl e) : spSt tx l (f + 1) 0 o b a = .inl e := by
  refine (one_B tx l _ o b a).trans ?_
  rw [h]
  rfl
theorem o_b2 {tx : tX} {l f o b a q : Nat} {ss : tS} {e : Nat × Nat} (h : bOne tx l (fun q => spSt tx l f 1 (o + 1) (b + 1) q) o b a = .inr (ss, q)) (h2 : spSign tx 59 q = .inl e) : spSt tx l (f + 1) 0 o b a = .inl e := by
  refine (one_B tx l _ o b a).trans ?_
  rw [h]
  show spBind (spSign tx 59 q) _ = _
  rw [h2]
  rfl
/-- the inside of an again, behind its word -/
def wAg (tx : tX) (n l f : Nat) : Prop := ∀ (o b q : Nat) (M : fmM) (Q : fmR → fmM → Prop) (lv op a : Int32), 1 ≤ o → o ≤ 6 → xS2 M tx n q → M.1 1 4 = 0 → scInv Tx invX M → (M.1 28 3).toInt = ((b + 1 : Nat) : Int) → (M.1 29 b).toInt = ((4 : Nat) : Int) → 2 * (b + 1) ≤ q → n ≤ 150 → lv.toInt = (l : Int) → l ≤ 8 → op.toInt = (o : Int) → a.toInt = (b : Int) → ¬ bAg tx (fun q => spSt tx l f 1 o (b + 1) q) b q = .inl (9, 0) → wE Q M tx n b (bAg tx (fun q => spSt tx l f 1 o (b + 1) q) b q) → pvGood Tx (9 + 3 * (6 - o)) qX9_readAgain [.ref 28, .ref 1, .int lv, .int op, .int a] M Q
set_option maxRecDepth 20000 in
theorem wa_G {tx : tX} {n l f : Nat} (h1 : wG1 tx n l f) : wAg tx n l f := by
  intro o b q M Q lv op a ho1 ho6 hS hf hI hz hk hbq hn hlv hl8 hop ha hne hE
  have hqn := hS.2.2.1
  have hb9 : b < 150 := (by omega)
  refine pvGood_of (Nat.le_of_ble_eq_true rfl) ?_
  show pvEv Tx (9 + 3 * (6 - o)) qX9_readAgain 0 [some (.ref 28), some (.ref 1), some (.int lv), some (.int op), some (.int a)] [] M Q
  refine pv_aloadn (pc := 0) (n := 0) 0 rfl rfl (fm_dec dtX9_readAgain 0 rfl) ?_
  refine pv_getR (k := 28) (j := 1) (ci := 9) (pc := 1) 30 rfl (by decide) pfl_X9_15 (by decide) rfl (by decide) (fm_dec dtX9_readAgain 1 rfl) ?_
  refine pv_iload (pc := 4) (i := 4) rfl (fm_dec dtX9_readAgain 2 rfl) ?_
  refine pv_aloadn (pc := 6) (n := 1) 1 rfl rfl (fm_dec dtX9_readAgain 3 rfl) ?_
  refine pv_iconst (pc := 7) (v := 0) (by decide) (fm_dec dtX9_readAgain 4 rfl) ?_
  refine pv_bipush (pc := 8) (v := 20) (by decide) (fm_dec dtX9_readAgain 5 rfl) ?_
  refine pv_invV2 (k := 1) (d' := 2) (pc := 10) pcv_X9_68 (by decide) rfl (Nat.le_of_ble_eq_true rfl) (by omega) (fm_dec dtX9_readAgain 6 rfl) ?_
  refine x_numC 0 20 (by decide) (by decide) (by decide) hS hf hI (fun M10 v10 q10 w10 e10 hw10 k10 => ?_) (fun M10 kb ab e10 b10 => ?_)
  · refine pv_then1 ?_
    refine pv_iast (k := 30) (n := 150) (pc := 13) (by decide) rfl rfl (ix_in ha hb9) (fm_dec dtX9_readAgain 7 rfl) ?_
    rw [i32_cl ha]
    have n10 := spNum_ok hS.2.2.2.1 hS.2.2.1 e10
    have hI13 : scInv Tx invX (fmI M10 30 b w10) := xInv.put k10.2.2.2 (by rw [xi_30]; omega)
    have FA : wFr b M (fmI M10 30 b w10) := (k10.2.2.1.w b).put (Or.inr ⟨by decide, by decide, Nat.le_refl _⟩)
    refine pv_aloadn (pc := 14) (n := 1) 1 rfl rfl (fm_dec dtX9_readAgain 8 rfl) ?_
    refine pv_invV0 (k := 1) (d' := 0) (pc := 15) pcv_X9_72 (by decide) rfl (Nat.le_of_ble_eq_true rfl) (by omega) (fm_dec dtX9_readAgain 9 rfl) ?_
    refine c_xfailed (fun _ => ?_) (fun h9 => absurd k10.2.1 h9) 
    refine pv_then1 ?_
    refine pv_if_ne (pc := 18) 49 (by decide) (fm_dec dtX9_readAgain 10 rfl) (fun hc18 => by exfalso; revert hc18; decide) (fun _ => ?_)
    refine pv_aloadn (pc := 21) (n := 1) 1 rfl rfl (fm_dec dtX9_readAgain 11 rfl) ?_
    refine pv_bipush (pc := 22) (v := 91) (by decide) (fm_dec dtX9_readAgain 12 rfl) ?_
    refine pv_invV1 (k := 1) (d' := 1) (pc := 24) pcv_X9_47 (by decide) rfl (Nat.le_of_ble_eq_true rfl) (by omega) (fm_dec dtX9_readAgain 13 rfl) ?_
    refine x_signC 91 (by decide) (by decide) (nu_S k10.1 (Or.inl rfl)) k10.2.1 hI13 (fun M24 q24 e24 k24 => ?_) (fun M24 kb ab e24 b24 => ?_)
    · refine pv_then1 ?_
      have n24 := spSign_ok hS.2.2.2.1 k10.1.2.2.1 (by decide) e24
      have FB : wFr b M M24 := FA.trans (k24.2.2.1.w b) (Nat.le_refl _)
      have hP24 : wPre M24 tx n q24 (b + 1) := ⟨k24.1, k24.2.1, k24.2.2.2, (by rw [(k24.2.2.1.1 28 3 (by decide)).1, fmI_k _ _ (by decide), (k10.2.2.1.1 28 3 (by decide)).1]; exact hz), (by omega), hn⟩
      refine pv_if_eq (pc := 27) 49 (by decide) (fm_dec dtX9_readAgain 14 rfl) (fun hc27 => by exfalso; revert hc27; decide) (fun _ => ?_)
      refine pv_aloadn (pc := 30) (n := 0) 0 rfl rfl (fm_dec dtX9_readAgain 15 rfl) ?_
      refine pv_aloadn (pc := 31) (n := 1) 1 rfl rfl (fm_dec dtX9_readAgain 16 rfl) ?_
      refine pv_iloadn (pc := 32) (n := 2) 2 rfl rfl (fm_dec dtX9_readAgain 17 rfl) ?_
      refine pv_iloadn (pc := 33) (n := 3) 3 rfl rfl (fm_dec dtX9_readAgain 18 rfl) ?_
      refine pv_invV3 (k := 28) (d' := (8 + 3 * (6 - o))) (pc := 34) pcv_X9_34 (by decide) rfl (Nat.le_of_ble_eq_true rfl) (by omega) (fm_dec dtX9_readAgain 19 rfl) ?_
      refine h1 o (b + 1) q24 M24 _ lv op ho1 ho6 hP24 hlv hl8 hop (fun h9 => hne (by unfold bAg; simp only [spBind, e10, e24, h9])) ⟨fun M34 s34 q34 e34 k34 => ?_, fun M34 kb ab e34 b34 => ?_⟩  
      · refine pv_then1 ?_
        have FC : wFr b M M34 := FB.trans k34.2.2.2.2.2 (Nat.le_succ _)
        refine pv_if_eq (pc := 37) 49 (by decide) (fm_dec dtX9_readAgain 20 rfl) (fun hc37 => by exfalso; revert hc37; decide) (fun _ => ?_)
        refine pv_aloadn (pc := 40) (n := 1) 1 rfl rfl (fm_dec dtX9_readAgain 21 rfl) ?_
        refine pv_bipush (pc := 41) (v := 93) (by decide) (fm_dec dtX9_readAgain 22 rfl) ?_
        refine pv_invV1 (k := 1) (d' := 1) (pc := 43) pcv_X9_47 (by decide) rfl (Nat.le_of_ble_eq_true rfl) (by omega) (fm_dec dtX9_readAgain 23 rfl) ?_
        refine x_signC 93 (by decide) (by decide) k34.1 k34.2.1 k34.2.2.1 (fun M43 q43 e43 k43 => ?_) (fun M43 kb ab e43 b43 => ?_)
        · refine pv_then1 ?_
          refine pv_if_ne (pc := 46) 51 (by decide) (fm_dec dtX9_readAgain 24 rfl) (fun _ => ?_) (fun hc46 => by exfalso; revert hc46; decide)
          refine pv_aloadn (pc := 51) (n := 0) 0 rfl rfl (fm_dec dtX9_readAgain 27 rfl) ?_
          refine pv_getR (k := 28) (j := 2) (ci := 9) (pc := 52) 31 rfl (by decide) pfl_X9_18 (by decide) rfl (by decide) (fm_dec dtX9_readAgain 28 rfl) ?_
          refine pv_iload (pc := 55) (i := 4) rfl (fm_dec dtX9_readAgain 29 rfl) ?_
          refine pv_aloadn (pc := 57) (n := 0) 0 rfl rfl (fm_dec dtX9_readAgain 30 rfl) ?_
          refine pv_getI (k := 28) (j := 3) (ci := 9) (pc := 58) pfl_X9_21 (by decide) rfl (by decide) (fm_dec dtX9_readAgain 31 rfl) ?_
          refine pv_iast (k := 31) (n := 150) (pc := 61) (by decide) rfl rfl (ix_in ha hb9) (fm_dec dtX9_readAgain 32 rfl) ?_
          rw [i32_cl ha]
          refine pv_iconst (pc := 62) (v := 1) (by decide) (fm_dec dtX9_readAgain 33 rfl) ?_
          exact pv_zreturn (pc := 63) rfl (by first | exact Or.inr rfl | exact Or.inl rfl) (fm_dec dtX9_readAgain 34 rfl) (hE.1 _ ((4, v10, b + 1 + s34.length) :: s34) q43 (by unfold bAg; simp only [spBind, e10, e24, e34, e43]) (w_ag FB (by rw [(k24.2.2.1.1 29 b (by decide)).1, fmI_k _ _ (by decide), (k10.2.2.1.1 29 b (by decide)).1]; exact hk) (by rw [(k24.2.2.1.1 30 b (by decide)).1, fmI_s]; exact hw10) k34 k43 (xInv.put k43.2.2.2 (by rw [xi_31]; exact k43.2.2.2.1 28 3 (by decide))) rfl))
        · refine pv_then1 ?_
          refine pv_if_ne (pc := 46) 51 (by decide) (fm_dec dtX9_readAgain 24 rfl) (fun hc46 => by exfalso; revert hc46; decide) (fun _ => ?_)
          refine pv_iconst (pc := 49) (v := 0) (by decide) (fm_dec dtX9_readAgain 25 rfl) ?_
          exact pv_zreturn (pc := 50) rfl (by first | exact Or.inr rfl | exact Or.inl rfl) (fm_dec dtX9_readAgain 26 rfl) (hE.2 M43 kb ab (by unfold bAg; simp only [spBind, e10, e24, e34, e43]) (xdBad.wb FC b43))
      · refine pv_then1 ?_
        refine pv_if_eq (pc := 37) 49 (by decide) (fm_dec dtX9_readAgain 20 rfl) (fun _ => ?_) (fun hc37 => by exfalso; revert hc37; decide)
        refine pv_iconst (pc := 49) (v := 0) (by decide) (fm_dec dtX9_readAgain 25 rfl) ?_
        exact pv_zreturn (pc := 50) rfl (by first | exact Or.inr rfl | exact Or.inl rfl) (fm_dec dtX9_readAgain 26 rfl) (hE.2 M34 kb ab (by unfold bAg; simp only [spBind, e10, e24, e34]) (wBad.pre FB b34))
    · refine pv_then1 ?_
      refine pv_if_eq (pc := 27) 49 (by decide) (fm_dec dtX9_readAgain 14 rfl) (fun _ => ?_) (fun hc27 => by exfalso; revert hc27; decide)
      refine pv_iconst (pc := 49) (v := 0) (by decide) (fm_dec dtX9_readAgain 25 rfl) ?_
      exact pv_zreturn (pc := 50) rfl (by first | exact Or.inr rfl | exact Or.inl rfl) (fm_dec dtX9_readAgain 26 rfl) (hE.2 M24 kb ab (by unfold bAg; simp only [spBind, e10, e24]) (xdBad.wb FA b24))
  · refine pv_then1 ?_
    refine pv_iast (k := 30) (n := 150) (pc := 13) (by decide) rfl rfl (ix_in ha hb9) (fm_dec dtX9_readAgain 7 rfl) ?_
    rw [i32_cl ha]
    refine pv_aloadn (pc := 14) (n := 1) 1 rfl rfl (fm_dec dtX9_readAgain 8 rfl) ?_
    refine pv_invV0 (k := 1) (d' := 0) (pc := 15) pcv_X9_72 (by decide) rfl (Nat.le_of_ble_eq_true rfl) (by omega) (fm_dec dtX9_readAgain 9 rfl) ?_
    refine c_xfailed (fun h9 => absurd h9 b10.nz) (fun _ => ?_) 
    refine pv_then1 ?_
    refine pv_if_ne (pc := 18) 49 (by decide) (fm_dec dtX9_readAgain 10 rfl) (fun _ => ?_) (fun hc18 => by exfalso; revert hc18; decide)
    refine pv_iconst (pc := 49) (v := 0) (by decide) (fm_dec dtX9_readAgain 25 rfl) ?_
    exact pv_zreturn (pc := 50) rfl (by first | exact Or.inr rfl | exact Or.inl rfl) (fm_dec dtX9_readAgain 26 rfl) (hE.2 _ kb ab (by unfold bAg; simp only [spBind, e10]) ⟨b10.1, b10.2.1, b10.2.2.1, xInv.put b10.2.2.2.2 (by rw [xi_30]; decide), (b10.2.2.2.1.w 0).put (Or.inr ⟨by decide, by decide, Nat.zero_le _⟩)⟩)
set_option maxRecDepth 20000 in
theorem w0_G {tx : tX} {n l f : Nat} (hA : wAg tx n l f) : wG0 tx n l f := by
  intro o b p M Q lv op ho6 hP hlv hl8 hop hne hE
  have hpn := hP.1.2.2.1
  have hbp := hP.2.2.2.2.1
  have hn := hP.2.2.2.2.2
  have hb9 : b < 150 := (by omega)
  refine pvGood_of (Nat.le_of_ble_eq_true rfl) ?_
  show pvEv Tx (7 + 3 * (6 - o)) qX9_readStep 0 [some (.ref 28), some (.ref 1), some (.int lv), some (.int op), none, none, none] [] M Q
  refine pv_aloadn (pc := 0) (n := 1) 1 rfl rfl (fm_dec dtX9_readStep 0 rfl) ?_
  refine pv_invV0 (k := 1) (d' := 1) (pc := 1) pcv_X9_51 (by decide) rfl (Nat.le_of_ble_eq_true rfl) (by omega) (fm_dec dtX9_readStep 1 rfl) ?_
  refine x_next hP.1 hP.2.1 hP.2.2.1 (fun M1 x1 hx1 k1 => ?_)
  refine pv_then1 ?_
  refine pv_istore (pc := 4) (i := 4) (by decide) rfl (fm_dec dtX9_readStep 2 rfl) ?_
  dsimp only [List.set_cons_zero, List.set_cons_succ]
  refine pv_aloadn (pc := 6) (n := 1) 1 rfl rfl (fm_dec dtX9_readStep 3 rfl) ?_
  refine pv_ldcT (i := 4) (pc := 7) pkn_X9_54 ptx_X9_54 (fm_dec dtX9_readStep 4 rfl) ?_
  refine pv_invV1 (k := 1) (d' := 5) (pc := 9) pcv_X9_56 (by decide) rfl (Nat.le_of_ble_eq_true rfl) (by omega) (fm_dec dtX9_readStep 5 rfl) ?_
  refine x_word (i5 := 4) (by decide) chs_4 wsWork_ok (by decide) k1.1 k1.2.1 k1.2.2.2 (fun M9 j9 w9 e9 hw9 k9 => ?_) (fun e9 M9 b9 => ?_)  
  · refine pv_then1 ?_
    refine pv_istore (pc := 12) (i := 5) (by decide) rfl (fm_dec dtX9_readStep 6 rfl) ?_
    dsimp only [List.set_cons_zero, List.set_cons_succ]
    rw [sk_sk hP.1.2.2.2.1 hP.1.2.2.1] at e9
    rw [sk_sk hP.1.2.2.2.1 hP.1.2.2.1] at k9
    have hst := stK_of e9
    have hz9 : (M9.1 28 3).toInt = (b : Int) := (by rw [(k9.2.2.1.1 28 3 (by decide)).1, (k1.2.2.1.1 28 3 (by decide)).1]; exact hP.2.2.2.1)
    refine pv_iload (pc := 14) (i := 5) rfl (fm_dec dtX9_readStep 7 rfl) ?_
    refine pv_iconst (pc := 16) (v := (-1)) (by decide) (fm_dec dtX9_readStep 8 rfl) ?_
    refine pv_icmp_eq (pc := 17) 30 (by decide) (fm_dec dtX9_readStep 9 rfl) (fun hc17 => by exfalso; have h9 := congrArg Int32.toInt hc17; have h8 : (-1 : Int32).toInt = -1 := (by decide); omega) (fun _ => ?_)
    refine pv_aloadn (pc := 20) (n := 0) 0 rfl rfl (fm_dec dtX9_readStep 10 rfl) ?_
    refine pv_getI (k := 28) (j := 3) (ci := 9) (pc := 21) pfl_X9_21 (by decide) rfl (by decide) (fm_dec dtX9_readStep 11 rfl) ?_
    refine pv_sipush (pc := 24) (v := 150) (by decide) (fm_dec dtX9_readStep 12 rfl) ?_
    refine pv_icmp_lt (pc := 27) 32 (by decide) (fm_dec dtX9_readStep 13 rfl) (fun _ => ?_) (fun hc27 => by exfalso; apply hc27; rw [sc_lt]; have h9 : (150 : Int32).toInt = 150 := (by decide); omega)
    refine pv_aloadn (pc := 32) (n := 0) 0 rfl rfl (fm_dec dtX9_readStep 16 rfl) ?_
    refine pv_getI (k := 28) (j := 3) (ci := 9) (pc := 33) pfl_X9_21 (by decide) rfl (by decide) (fm_dec dtX9_readStep 17 rfl) ?_
    refine pv_istore (pc := 36) (i := 6) (by decide) rfl (fm_dec dtX9_readStep 18 rfl) ?_
    dsimp only [List.set_cons_zero, List.set_cons_succ]
    refine pv_aloadn (pc := 38) (n := 0) 0 rfl rfl (fm_dec dtX9_readStep 19 rfl) ?_
    refine pv_dup (pc := 39) rfl (fm_dec dtX9_readStep 20 rfl) ?_
    refine pv_getI (k := 28) (j := 3) (ci := 9) (pc := 40) pfl_X9_21 (by decide) rfl (by decide) (fm_dec dtX9_readStep 21 rfl) ?_
    refine pv_iconst (pc := 43) (v := 1) (by decide) (fm_dec dtX9_readStep 22 rfl) ?_
    refine pv_iadd (pc := 44) (fm_dec dtX9_readStep 23 rfl) ?_
    refine pv_putI (k := 28) (j := 3) (ci := 9) (pc := 45) pfl_X9_21 (by decide) rfl (by decide) (fm_dec dtX9_readStep 24 rfl) ?_
    refine pv_aloadn (pc := 48) (n := 0) 0 rfl rfl (fm_dec dtX9_readStep 25 rfl) ?_
    refine pv_getR (k := 28) (j := 0) (ci := 9) (pc := 49) 29 rfl (by decide) pfl_X9_9 (by decide) rfl (by decide) (fm_dec dtX9_readStep 26 rfl) ?_
    refine pv_iload (pc := 52) (i := 6) rfl (fm_dec dtX9_readStep 27 rfl) ?_
    refine pv_iload (pc := 54) (i := 5) rfl (fm_dec dtX9_readStep 28 rfl) ?_
    refine pv_iast (k := 29) (n := 150) (pc := 56) (by decide) rfl rfl (ix_in hz9 hb9) (fm_dec dtX9_readStep 29 rfl) ?_
    rw [i32_cl hz9]
    have hIS : scInv Tx invX (stpM M9 w9 b) := stpM_inv k9.2.2.2 hz9 hb9 ⟨by omega, by have := hst.2; omega⟩
    have FS : wFr b M (stpM M9 w9 b) := st_fr ((k1.2.2.1.trans k9.2.2.1).w b)
    refine pv_iload (pc := 57) (i := 5) rfl (fm_dec dtX9_readStep 30 rfl) ?_
    refine pv_iconst (pc := 59) (v := 4) (by decide) (fm_dec dtX9_readStep 31 rfl) ?_
    refine pv_icmp_ne (pc := 60) 91 (by decide) (fm_dec dtX9_readStep 32 rfl) (fun hc60 => ?_) (fun hc60 => ?_)
    · refine pv_aloadn (pc := 91) (n := 0) 0 rfl rfl (fm_dec dtX9_readStep 50 rfl) ?_
      refine pv_getR (k := 28) (j := 1) (ci := 9) (pc := 92) 30 rfl (by decide) pfl_X9_15 (by decide) rfl (by decide) (fm_dec dtX9_readStep 51 rfl) ?_
      refine pv_iload (pc := 95) (i := 6) rfl (fm_dec dtX9_readStep 52 rfl) ?_
      refine pv_iload (pc := 97) (i := 5) rfl (fm_dec dtX9_readStep 53 rfl) ?_
      refine pv_iconst (pc := 99) (v := 3) (by decide) (fm_dec dtX9_readStep 54 rfl) ?_
      refine pv_icmp_ne (pc := 100) 107 (by decide) (fm_dec dtX9_readStep 55 rfl) (fun hc100 => ?_) (fun hc100 => ?_)
      · refine pv_aloadn (pc := 107) (n := 1) 1 rfl rfl (fm_dec dtX9_readStep 58 rfl) ?_
        refine pv_iconst (pc := 108) (v := 0) (by decide) (fm_dec dtX9_readStep 59 rfl) ?_
        refine pv_iloadn (pc := 109) (n := 2) 2 rfl rfl (fm_dec dtX9_readStep 60 rfl) ?_
        refine pv_iconst (pc := 110) (v := 1) (by decide) (fm_dec dtX9_readStep 61 rfl) ?_
        refine pv_isub (pc := 111) (fm_dec dtX9_readStep 62 rfl) ?_
        refine pv_invV2 (k := 1) (d' := 2) (pc := 112) pcv_X9_68 (by decide) rfl (Nat.le_of_ble_eq_true rfl) (by omega) (fm_dec dtX9_readStep 63 rfl) ?_
        refine x_numC 0 ((l : Int) - 1) (by decide) (by have z1 : (1 : Int32).toInt = 1 := (by decide); rw [sc_sub (by omega) (by omega)]; omega) (by omega) (st_S k9.1) k9.2.1 hIS (fun M112 v112 q112 w112 e112 hw112 k112 => ?_) (fun M112 kb ab e112 b112 => ?_)
        · refine pv_then1 ?_
          refine pv_iast (k := 30) (n := 150) (pc := 115) (by decide) rfl rfl (ix_in hz9 hb9) (fm_dec dtX9_readStep 64 rfl) ?_
          rw [i32_cl hz9]
          have n112 := spNum_ok hP.1.2.2.2.1 k9.1.2.2.1 e112
          have hI115 : scInv Tx invX (fmI M112 30 b w112) := xInv.put k112.2.2.2 (by rw [xi_30]; omega)
          refine pv_aloadn (pc := 116) (n := 1) 1 rfl rfl (fm_dec dtX9_readStep 65 rfl) ?_
          refine pv_invV0 (k := 1) (d' := 0) (pc := 117) pcv_X9_72 (by decide) rfl (Nat.le_of_ble_eq_true rfl) (by omega) (fm_dec dtX9_readStep 66 rfl) ?_
          refine c_xfailed (fun _ => ?_) (fun h9 => absurd k112.2.1 h9) 
          refine pv_then1 ?_
          refine pv_if_ne (pc := 120) 127 (by decide) (fm_dec dtX9_readStep 67 rfl) (fun hc120 => by exfalso; revert hc120; decide) (fun _ => ?_)
          refine pv_iconst (pc := 123) (v := 1) (by decide) (fm_dec dtX9_readStep 68 rfl) ?_
          refine pv_goto (pc := 124) 128 (by decide) (fm_dec dtX9_readStep 69 rfl) ?_
          exact pv_zreturn (pc := 128) rfl (by first | exact Or.inr rfl | exact Or.inl rfl) (fm_dec dtX9_readStep 71 rfl) (hE.1 _ [(j9, v112, b + 1)] q112 (by rw [bo_s hst.1 (by intro h9; apply hc60; exact i32_ext (by have z4 : (4 : Int32).toInt = 4 := (by decide); omega)) (by intro h9; apply hc100; exact i32_ext (by have z3 : (3 : Int32).toInt = 3 := (by decide); omega))]; unfold bSi; simp only [spBind, e112]) (w_one (w := w9) k112.1 k112.2.1 hI115 (by rw [(k112.2.2.1.1 28 3 (by decide)).1]; show (M9.1 28 3 + 1).toInt = _; exact i32_p1 hz9 (by omega)) (by rw [(k112.2.2.1.1 29 b (by decide)).1]; (try unfold stpM); rw [fmI_s]; exact hw9) hw112 (by intro h9; apply hc60; exact i32_ext (by have z4 : (4 : Int32).toInt = 4 := (by decide); omega)) (FS.trans (k112.2.2.1.w b) (Nat.le_refl _))))
        · refine pv_then1 ?_
          refine pv_iast (k := 30) (n := 150) (pc := 115) (by decide) rfl rfl (ix_in hz9 hb9) (fm_dec dtX9_readStep 64 rfl) ?_
          rw [i32_cl hz9]
          refine pv_aloadn (pc := 116) (n := 1) 1 rfl rfl (fm_dec dtX9_readStep 65 rfl) ?_
          refine pv_invV0 (k := 1) (d' := 0) (pc := 117) pcv_X9_72 (by decide) rfl (Nat.le_of_ble_eq_true rfl) (by omega) (fm_dec dtX9_readStep 66 rfl) ?_
          refine c_xfailed (fun h9 => absurd h9 b112.nz) (fun _ => ?_) 
          refine pv_then1 ?_
          refine pv_if_ne (pc := 120) 127 (by decide) (fm_dec dtX9_readStep 67 rfl) (fun _ => ?_) (fun hc120 => by exfalso; revert hc120; decide)
          refine pv_iconst (pc := 127) (v := 0) (by decide) (fm_dec dtX9_readStep 70 rfl) ?_
          exact pv_zreturn (pc := 128) rfl (by first | exact Or.inr rfl | exact Or.inl rfl) (fm_dec dtX9_readStep 71 rfl) (hE.2 _ kb ab (by rw [bo_s hst.1 (by intro h9; apply hc60; exact i32_ext (by have z4 : (4 : Int32).toInt = 4 := (by decide); omega)) (by intro h9; apply hc100; exact i32_ext (by have z3 : (3 : Int32).toInt = 3 := (by decide); omega))]; unfold bSi; simp only [spBind, e112]) ⟨b112.1, b112.2.1, b112.2.2.1, xInv.put b112.2.2.2.2 (by rw [xi_30]; decide), (FS.tr0 (b112.2.2.2.1.w b)).put (Or.inr ⟨by decide, by decide, Nat.zero_le _⟩)⟩)
      · refine pv_iconst (pc := 103) (v := 0) (by decide) (fm_dec dtX9_readStep 56 rfl) ?_
        refine pv_goto (pc := 104) 115 (by decide) (fm_dec dtX9_readStep 57 rfl) ?_
        refine pv_iast (k := 30) (n := 150) (pc := 115) (by decide) rfl rfl (ix_in hz9 hb9) (fm_dec dtX9_readStep 64 rfl) ?_
        rw [i32_cl hz9]
        have hj3 : j9 = 3 := (by have h9 := congrArg Int32.toInt hc100; have z3 : (3 : Int32).toInt = 3 := (by decide); omega)
        refine pv_aloadn (pc := 116) (n := 1) 1 rfl rfl (fm_dec dtX9_readStep 65 rfl) ?_
        refine pv_invV0 (k := 1) (d' := 0) (pc := 117) pcv_X9_72 (by decide) rfl (Nat.le_of_ble_eq_true rfl) (by omega) (fm_dec dtX9_readStep 66 rfl) ?_
        refine c_xfailed (fun _ => ?_) (fun h9 => absurd k9.2.1 h9) 
        refine pv_then1 ?_
        refine pv_if_ne (pc := 120) 127 (by decide) (fm_dec dtX9_readStep 67 rfl) (fun hc120 => by exfalso; revert hc120; decide) (fun _ => ?_)
        refine pv_iconst (pc := 123) (v := 1) (by decide) (fm_dec dtX9_readStep 68 rfl) ?_
        refine pv_goto (pc := 124) 128 (by decide) (fm_dec dtX9_readStep 69 rfl) ?_
        exact pv_zreturn (pc := 128) rfl (by first | exact Or.inr rfl | exact Or.inl rfl) (fm_dec dtX9_readStep 71 rfl) (hE.1 _ [(3, 0, b + 1)] _ (bo_3 (by rw [hst.1, hj3])) (w_one (w := w9) (st_S k9.1) k9.2.1 (xInv.put hIS (by rw [xi_30]; decide)) (by show (M9.1 28 3 + 1).toInt = _; exact i32_p1 hz9 (by omega)) (by (try unfold stpM); rw [fmI_s, hw9, hj3]) (show (0 : Int32).toInt = ((0 : Nat) : Int) by decide) (by decide) FS))
    · have hj4 : j9 = 4 := (by have h9 := congrArg Int32.toInt hc60; have z4 : (4 : Int32).toInt = 4 := (by decide); omega)
      have hst4 : stK (wd tx (sk tx p)) = some 4 := (by rw [hst.1, hj4])
      refine pv_iloadn (pc := 63) (n := 3) 3 rfl rfl (fm_dec dtX9_readStep 33 rfl) ?_
      refine pv_bipush (pc := 64) (v := 6) (by decide) (fm_dec dtX9_readStep 34 rfl) ?_
      refine pv_icmp_lt (pc := 66) 79 (by decide) (fm_dec dtX9_readStep 35 rfl) (fun hc66 => ?_) (fun hc66 => ?_)
      · have ho9 : ¬ o = 6 := (by rw [sc_lt] at hc66; have z6 : (6 : Int32).toInt = 6 := (by decide); omega)
        refine pv_aloadn (pc := 79) (n := 0) 0 rfl rfl (fm_dec dtX9_readStep 41 rfl) ?_
        refine pv_aloadn (pc := 80) (n := 1) 1 rfl rfl (fm_dec dtX9_readStep 42 rfl) ?_
        refine pv_iloadn (pc := 81) (n := 2) 2 rfl rfl (fm_dec dtX9_readStep 43 rfl) ?_
        refine pv_iloadn (pc := 82) (n := 3) 3 rfl rfl (fm_dec dtX9_readStep 44 rfl) ?_
        refine pv_iconst (pc := 83) (v := 1) (by decide) (fm_dec dtX9_readStep 45 rfl) ?_
        refine pv_iadd (pc := 84) (fm_dec dtX9_readStep 46 rfl) ?_
        refine pv_iload (pc := 85) (i := 6) rfl (fm_dec dtX9_readStep 47 rfl) ?_
        refine pv_invV4 (k := 28) (d' := (9 + 3 * (6 - (o + 1)))) (pc := 87) pcv_X9_64 (by decide) rfl (Nat.le_of_ble_eq_true rfl) (by omega) (fm_dec dtX9_readStep 48 rfl) ?_
        refine hA (o + 1) b (sp tW tx (sk tx p)) (stpM M9 w9 b) _ lv (op + 1) _ (by omega) (by omega) (st_S k9.1) k9.2.1 hIS (by show (M9.1 28 3 + 1).toInt = _; exact i32_p1 hz9 (by omega)) (by (try unfold stpM); rw [fmI_s, hw9, hj4]) (by have h5 := stK_4 hst4; rw [wd_len] at h5; have h6 := hP.2.2.2.2.1; have h7 : p ≤ sk tx p := sp_ge p; omega) hP.2.2.2.2.2 hlv hl8 (i32_p1 hop (by omega)) hz9 (fun h9 => hne (by rw [bo_4 hst4 ho9]; exact h9)) ⟨fun M87 s87 q87 e87 k87 => ?_, fun M87 kb ab e87 b87 => ?_⟩  
        · refine pv_then1 ?_
          exact pv_zreturn (pc := 90) rfl (by first | exact Or.inr rfl | exact Or.inl rfl) (fm_dec dtX9_readStep 49 rfl) (hE.1 M87 s87 q87 (by rw [bo_4 hst4 ho9]; exact e87) (wOk.frm FS k87))
        · refine pv_then1 ?_
          exact pv_zreturn (pc := 90) rfl (by first | exact Or.inr rfl | exact Or.inl rfl) (fm_dec dtX9_readStep 49 rfl) (hE.2 M87 kb ab (by rw [bo_4 hst4 ho9]; exact e87) (wBad.pre FS b87))
      · refine pv_aloadn (pc := 69) (n := 1) 1 rfl rfl (fm_dec dtX9_readStep 36 rfl) ?_
        refine pv_iconst (pc := 70) (v := 3) (by decide) (fm_dec dtX9_readStep 37 rfl) ?_
        refine pv_iload (pc := 71) (i := 4) rfl (fm_dec dtX9_readStep 38 rfl) ?_
        refine pv_invV2 (k := 1) (d' := 0) (pc := 73) pcv_X9_60 (by decide) rfl (Nat.le_of_ble_eq_true rfl) (by omega) (fm_dec dtX9_readStep 39 rfl) ?_
        refine c_xfail0 k9.2.1 ?_
        refine pv_then1 ?_
        refine pv_goto (pc := 76) 90 (by decide) (fm_dec dtX9_readStep 40 rfl) ?_
        exact pv_zreturn (pc := 90) rfl (by first | exact Or.inr rfl | exact Or.inl rfl) (fm_dec dtX9_readStep 49 rfl) (by have ho9 : o = 6 := (by rw [sc_lt] at hc66; have z6 : (6 : Int32).toInt = 6 := (by decide); omega); subst ho9; exact hE.2 _ 3 (sk tx p) (bo_6 hst4) (xdBad.wb FS (xdBad.of3 (M := stpM M9 w9 b) ⟨st_S k9.1, k9.2.1, xdFr.refl _, hIS⟩ hx1 (sp_le tB_1 hP.1.2.2.2.1 hP.1.2.2.1))))
  · refine pv_then1 ?_
    refine pv_istore (pc := 12) (i := 5) (by decide) rfl (fm_dec dtX9_readStep 6 rfl) ?_
    dsimp only [List.set_cons_zero, List.set_cons_succ]
    rw [sk_sk hP.1.2.2.2.1 hP.1.2.2.1] at e9 b9
    refine pv_iload (pc := 14) (i := 5) rfl (fm_dec dtX9_readStep 7 rfl) ?_
    refine pv_iconst (pc := 16) (v := (-1)) (by decide) (fm_dec dtX9_readStep 8 rfl) ?_
    refine pv_icmp_eq (pc := 17) 30 (by decide) (fm_dec dtX9_readStep 9 rfl) (fun _ => ?_) (fun hc17 => by exfalso; revert hc17; decide)
    refine pv_iconst (pc := 30) (v := 0) (by decide) (fm_dec dtX9_readStep 14 rfl) ?_
    exact pv_zreturn (pc := 31) rfl (by first | exact Or.inr rfl | exact Or.inl rfl) (fm_dec dtX9_readStep 15 rfl) (hE.2 M9 1 (sk tx p) (bo_n (stK_no e9)) (xdBad.wb (k1.2.2.1.w b) b9))
set_option maxRecDepth 20000 in
theorem ws_loop {tx : tX} {n l F o : Nat} {lv op : Int32} (h0 : ∀ g, g + 1 < F → wG0 tx n l g) (ho6 : o ≤ 6) (hlv : lv.toInt = (l : Int)) (hl8 : l ≤ 8) (hop : op.toInt = (o : Int)) : ∀ (m i b p : Nat) (M : fmM) (Q : fmR → fmM → Prop) (ii : Int32), m ≤ F → ii.toInt = (i : Int) → 2 * i ≤ p → wPre M tx n p b → ¬ spSt tx l m 1 o b (sk tx p) = .inl (9, 0) → wE Q M tx n b (spSt tx l m 1 o b (sk tx p)) → pvEv Tx (8 + 3 * (6 - o)) qX9_readSteps 15 [some (.ref 28), some (.ref 1), some (.int lv), some (.int op), some (.int 93), some (.int ii)] [] M Q := by
  intro m
  induction m using Nat.strongRecOn with
  | _ m ih =>
    intro i b p M Q ii hmF hi hip hP hne hE
    have hpn := hP.1.2.2.1
    have hn := hP.2.2.2.2.2
    obtain ⟨f, rfl⟩ : ∃ f, m = f + 1 := (by cases m with | zero => exact absurd rfl hne | succ f => exact ⟨f, rfl⟩)
    refine pv_iload (pc := 15) (i := 5) rfl (fm_dec dtX9_readSteps 8 rfl) ?_
    refine pv_sipush (pc := 17) (v := 150) (by decide) (fm_dec dtX9_readSteps 9 rfl) ?_
    refine pv_icmp_ge (pc := 20) 61 (by decide) (fm_dec dtX9_readSteps 10 rfl) (fun hc20 => by exfalso; rw [sc_le] at hc20; have h9 : (150 : Int32).toInt = 150 := (by decide); omega) (fun _ => ?_)
    refine pv_aloadn (pc := 23) (n := 1) 1 rfl rfl (fm_dec dtX9_readSteps 11 rfl) ?_
    refine pv_invV0 (k := 1) (d' := 0) (pc := 24) pcv_X9_38 (by decide) rfl (Nat.le_of_ble_eq_true rfl) (by omega) (fm_dec dtX9_readSteps 12 rfl) ?_
    refine x_peek hP.1 hP.2.1 hP.2.2.1 (fun M24 v24 hv24 k24 => ?_)
    refine pv_then1 ?_
    refine pv_iload (pc := 27) (i := 4) rfl (fm_dec dtX9_readSteps 13 rfl) ?_
    refine pv_icmp_ne (pc := 29) 34 (by decide) (fm_dec dtX9_readSteps 14 rfl) (fun hc29 => ?_) (fun hc29 => ?_)
    · have ht : ¬ tx (sk tx p) = 93 := (fun h9 => hc29 (i32_ext (hv24.trans (h9.trans (by decide)))))
      obtain ⟨g, rfl⟩ : ∃ g, f = g + 1 := (by cases f with | zero => exact absurd (ss_b ht rfl) hne | succ g => exact ⟨g, rfl⟩)
      have ne38 : ¬ bOne tx l (fun q => spSt tx l g 1 (o + 1) (b + 1) q) o b (sk tx p) = .inl (9, 0) := (fun h9 => hne (ss_b ht (o_b1 h9)))
      refine pv_aloadn (pc := 34) (n := 0) 0 rfl rfl (fm_dec dtX9_readSteps 17 rfl) ?_
      refine pv_aloadn (pc := 35) (n := 1) 1 rfl rfl (fm_dec dtX9_readSteps 18 rfl) ?_
      refine pv_iloadn (pc := 36) (n := 2) 2 rfl rfl (fm_dec dtX9_readSteps 19 rfl) ?_
      refine pv_iloadn (pc := 37) (n := 3) 3 rfl rfl (fm_dec dtX9_readSteps 20 rfl) ?_
      refine pv_invV3 (k := 28) (d' := (7 + 3 * (6 - o))) (pc := 38) pcv_X9_44 (by decide) rfl (Nat.le_of_ble_eq_true rfl) (by omega) (fm_dec dtX9_readSteps 21 rfl) ?_
      refine h0 g (by omega) o b (sk tx p) M24 _ lv op ho6 (hP.xd k24 (sp_ge p)) hlv hl8 hop ne38 ⟨fun M38 s38 q38 e38 k38 => ?_, fun M38 kb ab e38 b38 => ?_⟩  
      · refine pv_then1 ?_
        refine pv_if_eq (pc := 41) 53 (by decide) (fm_dec dtX9_readSteps 22 rfl) (fun hc41 => by exfalso; revert hc41; decide) (fun _ => ?_)
        refine pv_aloadn (pc := 44) (n := 1) 1 rfl rfl (fm_dec dtX9_readSteps 23 rfl) ?_
        refine pv_bipush (pc := 45) (v := 59) (by decide) (fm_dec dtX9_readSteps 24 rfl) ?_
        refine pv_invV1 (k := 1) (d' := 1) (pc := 47) pcv_X9_47 (by decide) rfl (Nat.le_of_ble_eq_true rfl) (by omega) (fm_dec dtX9_readSteps 25 rfl) ?_
        refine x_signC 59 (by decide) (by decide) k38.1 k38.2.1 k38.2.2.1 (fun M47 q47 e47 k47 => ?_) (fun M47 kb ab e47 b47 => ?_)
        · refine pv_then1 ?_
          refine pv_if_ne (pc := 50) 55 (by decide) (fm_dec dtX9_readSteps 26 rfl) (fun _ => ?_) (fun hc50 => by exfalso; revert hc50; decide)
          refine pv_iincc (pc := 55) 5 1 (by decide) rfl (by decide) rfl (fm_dec dtX9_readSteps 29 rfl) ?_
          dsimp only [List.set_cons_zero, List.set_cons_succ]
          refine pv_goto (pc := 58) 15 (by decide) (fm_dec dtX9_readSteps 30 rfl) ?_
          have e0 := o_ok e38 e47
          have hsp : sk tx p ≤ n := sp_le tB_1 hP.1.2.2.2.1 hP.1.2.2.1
          have hge : p ≤ sk tx p := sp_ge p
          have l38 := spSt_len hP.1.2.2.2.1 _ _ _ _ _ _ _ hsp e0
          have l1 := l38.2.2 rfl
          have kS : wOk M M47 tx n q47 b s38 := (k38.pre k24.2.2.1).xd k47
          have eS := ss_s ht e0
          rw [eS] at hne
          exact ih (g + 1) (by omega) (i + 1) (b + s38.length) q47 M47 Q _ (by omega) (i32_p1 hi (by omega)) (by omega) (hP.next kS (by omega)) (spBind_ne hne) ⟨fun M2 ts q2 e2 k2 => hE.1 M2 _ q2 (by rw [eS, e2]; rfl) (kS.trans k2), fun M2 k a e2 k2 => hE.2 M2 k a (by rw [eS, e2]; rfl) (kS.bad k2)⟩
        · refine pv_then1 ?_
          refine pv_if_ne (pc := 50) 55 (by decide) (fm_dec dtX9_readSteps 26 rfl) (fun hc50 => by exfalso; revert hc50; decide) (fun _ => ?_)
          refine pv_iconst (pc := 53) (v := 0) (by decide) (fm_dec dtX9_readSteps 27 rfl) ?_
          exact pv_zreturn (pc := 54) rfl (by first | exact Or.inr rfl | exact Or.inl rfl) (fm_dec dtX9_readSteps 28 rfl) (hE.2 M47 kb ab (ss_b ht (o_b2 e38 e47)) ((k38.pre k24.2.2.1).xdb b47))
      · refine pv_then1 ?_
        refine pv_if_eq (pc := 41) 53 (by decide) (fm_dec dtX9_readSteps 22 rfl) (fun _ => ?_) (fun hc41 => by exfalso; revert hc41; decide)
        refine pv_iconst (pc := 53) (v := 0) (by decide) (fm_dec dtX9_readSteps 27 rfl) ?_
        exact pv_zreturn (pc := 54) rfl (by first | exact Or.inr rfl | exact Or.inl rfl) (fm_dec dtX9_readSteps 28 rfl) (hE.2 M38 kb ab (ss_b ht (o_b1 e38)) (wBad.pre (k24.2.2.1.w b) b38))
    · refine pv_iconst (pc := 32) (v := 1) (by decide) (fm_dec dtX9_readSteps 15 rfl) ?_
      exact pv_zreturn (pc := 33) rfl (by first | exact Or.inr rfl | exact Or.inl rfl) (fm_dec dtX9_readSteps 16 rfl) (hE.1 M24 [] (sk tx p) (ss_e (by rw [← hv24, hc29]; decide)) (hP.nil.xd k24))
set_option maxRecDepth 20000 in
theorem w1_G {tx : tX} {n l f : Nat} (h0 : ∀ g, g + 1 < f → wG0 tx n l g) : wG1 tx n l f := by
  intro o b p M Q lv op ho1 ho6 hP hlv hl8 hop hne hE
  refine pvGood_of (Nat.le_of_ble_eq_true rfl) ?_
  show pvEv Tx (8 + 3 * (6 - o)) qX9_readSteps 0 [some (.ref 28), some (.ref 1), some (.int lv), some (.int op), none, none] [] M Q
  refine pv_iloadn (pc := 0) (n := 3) 3 rfl rfl (fm_dec dtX9_readSteps 0 rfl) ?_
  refine pv_if_ne (pc := 1) 8 (by decide) (fm_dec dtX9_readSteps 1 rfl) (fun _ => ?_) (fun hc1 => by exfalso; have h9 := congrArg Int32.toInt hc1; have z0 : (0 : Int32).toInt = 0 := (by decide); omega)
  refine pv_bipush (pc := 8) (v := 93) (by decide) (fm_dec dtX9_readSteps 4 rfl) ?_
  refine pv_istore (pc := 10) (i := 4) (by decide) rfl (fm_dec dtX9_readSteps 5 rfl) ?_
  dsimp only [List.set_cons_zero, List.set_cons_succ]
  refine pv_iconst (pc := 12) (v := 0) (by decide) (fm_dec dtX9_readSteps 6 rfl) ?_
  refine pv_istore (pc := 13) (i := 5) (by decide) rfl (fm_dec dtX9_readSteps 7 rfl) ?_
  dsimp only [List.set_cons_zero, List.set_cons_succ]
  exact ws_loop h0 ho6 hlv hl8 hop f 0 b p M Q 0 (Nat.le_refl _) (by decide) (Nat.zero_le _) hP hne hE
theorem w_all {tx : tX} {n l : Nat} : ∀ f, wG0 tx n l f := by
  intro f
  induction f using Nat.strongRecOn with
  | _ f ih => exact w0_G (wa_G (w1_G (fun g hg => ih g (by omega))))
theorem wkl_0 {tx : tX} {n l f b p : Nat} (h : n ≤ p) : wkL tx n l (f + 1) b p = .inr [] := if_pos h
theorem wkl_b {tx : tX} {n l f b p : Nat} {e : Nat × Nat} (h : ¬ n ≤ p) (h1 : spSt tx l 400 0 0 b p = .inl e) : wkL tx n l (f + 1) b p = .inl e := by
  simp only [wkL]
  rw [if_neg h, h1]
theorem wkl_s {tx : tX} {n l f b p q : Nat} {ss ts : tS} (h : ¬ n ≤ p) (h1 : spSt tx l 400 0 0 b p = .inr (ss, q)) (h2 : wkL tx n l f (b + ss.length) (sk tx q) = .inr ts) : wkL tx n l (f + 1) b p = .inr (ss ++ ts) := by
  simp only [wkL]
  rw [if_neg h, h1]
  simp only
  rw [h2]
theorem wkl_t {tx : tX} {n l f b p q : Nat} {ss : tS} {e : Nat × Nat} (h : ¬ n ≤ p) (h1 : spSt tx l 400 0 0 b p = .inr (ss, q)) (h2 : wkL tx n l f (b + ss.length) (sk tx q) = .inl e) : wkL tx n l (f + 1) b p = .inl e := by
  simp only [wkL]
  rw [if_neg h, h1]
  simp only
  rw [h2]
def wEL (Q : fmR → fmM → Prop) (M : fmM) (tx : tX) (n b : Nat) (r : (Nat × Nat) ⊕ tS) : Prop := (∀ (M' : fmM) (ss : tS) (q : Nat), r = .inr ss → wOk M M' tx n q b ss → Q (.inl (some (.int 1))) M') ∧ ∀ (M' : fmM) (k a : Nat), r = .inl (k, a) → wBad M M' k a → Q (.inl (some (.int 0))) M'
set_option maxRecDepth 20000 in
theorem wt_loop {tx : tX} {n l : Nat} {lv : Int32} (hlv : lv.toInt = (l : Int)) (hl8 : l ≤ 8) : ∀ (m i b p : Nat) (M : fmM) (Q : fmR → fmM → Prop) (ii : Int32), ii.toInt = (i : Int) → 2 * i ≤ p → wPre M tx n p b → ¬ wkL tx n l m b (sk tx p) = .inl (9, 0) → wEL Q M tx n b (wkL tx n l m b (sk tx p)) → pvEv Tx (8 + 3 * (6 - 0)) qX9_readSteps 15 [some (.ref 28), some (.ref 1), some (.int lv), some (.int 0), some (.int (-1)), some (.int ii)] [] M Q := by
  intro m
  induction m with
  | zero => intro i b p M Q ii hi hip hP hne hE; exact absurd rfl hne
  | succ m ih =>
    intro i b p M Q ii hi hip hP hne hE
    have hpn := hP.1.2.2.1
    have hn := hP.2.2.2.2.2
    refine pv_iload (pc := 15) (i := 5) rfl (fm_dec dtX9_readSteps 8 rfl) ?_
    refine pv_sipush (pc := 17) (v := 150) (by decide) (fm_dec dtX9_readSteps 9 rfl) ?_
    refine pv_icmp_ge (pc := 20) 61 (by decide) (fm_dec dtX9_readSteps 10 rfl) (fun hc20 => by exfalso; rw [sc_le] at hc20; have h9 : (150 : Int32).toInt = 150 := (by decide); omega) (fun _ => ?_)
    refine pv_aloadn (pc := 23) (n := 1) 1 rfl rfl (fm_dec dtX9_readSteps 11 rfl) ?_
    refine pv_invV0 (k := 1) (d' := 0) (pc := 24) pcv_X9_38 (by decide) rfl (Nat.le_of_ble_eq_true rfl) (by decide) (fm_dec dtX9_readSteps 12 rfl) ?_
    refine x_peek hP.1 hP.2.1 hP.2.2.1 (fun M24 v24 hv24 k24 => ?_)
    refine pv_then1 ?_
    refine pv_iload (pc := 27) (i := 4) rfl (fm_dec dtX9_readSteps 13 rfl) ?_
    refine pv_icmp_ne (pc := 29) 34 (by decide) (fm_dec dtX9_readSteps 14 rfl) (fun hc29 => ?_) (fun hc29 => ?_)
    · have hnp : ¬ n ≤ sk tx p := (fun h9 => hc29 (i32_ext (by rw [hv24, hP.1.2.2.2.1.2.1 _ h9]; decide)))
      have ne38 : ¬ bOne tx l (fun q => spSt tx l 399 1 (0 + 1) (b + 1) q) 0 b (sk tx p) = .inl (9, 0) := (fun h9 => hne (wkl_b hnp (o_b1 h9)))
      refine pv_aloadn (pc := 34) (n := 0) 0 rfl rfl (fm_dec dtX9_readSteps 17 rfl) ?_
      refine pv_aloadn (pc := 35) (n := 1) 1 rfl rfl (fm_dec dtX9_readSteps 18 rfl) ?_
      refine pv_iloadn (pc := 36) (n := 2) 2 rfl rfl (fm_dec dtX9_readSteps 19 rfl) ?_
      refine pv_iloadn (pc := 37) (n := 3) 3 rfl rfl (fm_dec dtX9_readSteps 20 rfl) ?_
      refine pv_invV3 (k := 28) (d' := (7 + 3 * (6 - 0))) (pc := 38) pcv_X9_44 (by decide) rfl (Nat.le_of_ble_eq_true rfl) (by decide) (fm_dec dtX9_readSteps 21 rfl) ?_
      refine w_all 399 0 b (sk tx p) M24 _ lv 0 (by decide) (hP.xd k24 (sp_ge p)) hlv hl8 (by decide) ne38 ⟨fun M38 s38 q38 e38 k38 => ?_, fun M38 kb ab e38 b38 => ?_⟩  
      · refine pv_then1 ?_
        refine pv_if_eq (pc := 41) 53 (by decide) (fm_dec dtX9_readSteps 22 rfl) (fun hc41 => by exfalso; revert hc41; decide) (fun _ => ?_)
        refine pv_aloadn (pc := 44) (n := 1) 1 rfl rfl (fm_dec dtX9_readSteps 23 rfl) ?_
        refine pv_bipush (pc := 45) (v := 59) (by decide) (fm_dec dtX9_readSteps 24 rfl) ?_
        refine pv_invV1 (k := 1) (d' := 1) (pc := 47) pcv_X9_47 (by decide) rfl (Nat.le_of_ble_eq_true rfl) (by decide) (fm_dec dtX9_readSteps 25 rfl) ?_
        refine x_signC 59 (by decide) (by decide) k38.1 k38.2.1 k38.2.2.1 (fun M47 q47 e47 k47 => ?_) (fun M47 kb ab e47 b47 => ?_)
        · refine pv_then1 ?_
          refine pv_if_ne (pc := 50) 55 (by decide) (fm_dec dtX9_readSteps 26 rfl) (fun _ => ?_) (fun hc50 => by exfalso; revert hc50; decide)
          refine pv_iincc (pc := 55) 5 1 (by decide) rfl (by decide) rfl (fm_dec dtX9_readSteps 29 rfl) ?_
          dsimp only [List.set_cons_zero, List.set_cons_succ]
          refine pv_goto (pc := 58) 15 (by decide) (fm_dec dtX9_readSteps 30 rfl) ?_
          have e0 := o_ok e38 e47
          have hsp : sk tx p ≤ n := sp_le tB_1 hP.1.2.2.2.1 hP.1.2.2.1
          have hge : p ≤ sk tx p := sp_ge p
          have l38 := spSt_len hP.1.2.2.2.1 _ _ _ _ _ _ _ hsp e0
          have l1 := l38.2.2 rfl
          have kS : wOk M M47 tx n q47 b s38 := (k38.pre k24.2.2.1).xd k47
          exact ih (i + 1) (b + s38.length) q47 M47 Q _ (i32_p1 hi (by omega)) (by omega) (hP.next kS (by omega)) (fun h9 => hne (wkl_t hnp e0 h9)) ⟨fun M2 ts q2 e2 k2 => hE.1 M2 _ q2 (wkl_s hnp e0 e2) (kS.trans k2), fun M2 k a e2 k2 => hE.2 M2 k a (wkl_t hnp e0 e2) (kS.bad k2)⟩
        · refine pv_then1 ?_
          refine pv_if_ne (pc := 50) 55 (by decide) (fm_dec dtX9_readSteps 26 rfl) (fun hc50 => by exfalso; revert hc50; decide) (fun _ => ?_)
          refine pv_iconst (pc := 53) (v := 0) (by decide) (fm_dec dtX9_readSteps 27 rfl) ?_
          exact pv_zreturn (pc := 54) rfl (by first | exact Or.inr rfl | exact Or.inl rfl) (fm_dec dtX9_readSteps 28 rfl) (hE.2 M47 kb ab (wkl_b hnp (o_b2 e38 e47)) ((k38.pre k24.2.2.1).xdb b47))
      · refine pv_then1 ?_
        refine pv_if_eq (pc := 41) 53 (by decide) (fm_dec dtX9_readSteps 22 rfl) (fun _ => ?_) (fun hc41 => by exfalso; revert hc41; decide)
        refine pv_iconst (pc := 53) (v := 0) (by decide) (fm_dec dtX9_readSteps 27 rfl) ?_
        exact pv_zreturn (pc := 54) rfl (by first | exact Or.inr rfl | exact Or.inl rfl) (fm_dec dtX9_readSteps 28 rfl) (hE.2 M38 kb ab (wkl_b hnp (o_b1 e38)) (wBad.pre (k24.2.2.1.w b) b38))
    · refine pv_iconst (pc := 32) (v := 1) (by decide) (fm_dec dtX9_readSteps 15 rfl) ?_
      exact pv_zreturn (pc := 33) rfl (by first | exact Or.inr rfl | exact Or.inl rfl) (fm_dec dtX9_readSteps 16 rfl) (hE.1 M24 [] (sk tx p) (wkl_0 (by by_cases h9 : n ≤ sk tx p; exact h9; exfalso; have h8 := hP.1.2.2.2.1.2.2 (sk tx p) (by omega); rw [hc29] at hv24; have h7 : (-1 : Int32).toInt = -1 := (by decide); omega)) (hP.nil.xd k24))
set_option maxRecDepth 20000 in
theorem c_wsteps {M : fmM} {Q : fmR → fmM → Prop} {tx : tX} {n l : Nat} {lv : Int32} (hlv : lv.toInt = (l : Int)) (hl8 : l ≤ 8) (hP : wPre M tx n 0 0) (hE : wEL Q M tx n 0 (spWork tx n l)) : pvGood Tx (8 + 3 * (6 - 0)) qX9_readSteps [.ref 28, .ref 1, .int lv, .int 0] M Q := by
  refine pvGood_of (Nat.le_of_ble_eq_true rfl) ?_
  show pvEv Tx (8 + 3 * (6 - 0)) qX9_readSteps 0 [some (.ref 28), some (.ref 1), some (.int lv), some (.int 0), none, none] [] M Q
  refine pv_iloadn (pc := 0) (n := 3) 3 rfl rfl (fm_dec dtX9_readSteps 0 rfl) ?_
  refine pv_if_ne (pc := 1) 8 (by decide) (fm_dec dtX9_readSteps 1 rfl) (fun hc1 => by exfalso; revert hc1; decide) (fun _ => ?_)
  refine pv_iconst (pc := 4) (v := (-1)) (by decide) (fm_dec dtX9_readSteps 2 rfl) ?_
  refine pv_goto (pc := 5) 10 (by decide) (fm_dec dtX9_readSteps 3 rfl) ?_
  refine pv_istore (pc := 10) (i := 4) (by decide) rfl (fm_dec dtX9_readSteps 5 rfl) ?_
  dsimp only [List.set_cons_zero, List.set_cons_succ]
  refine pv_iconst (pc := 12) (v := 0) (by decide) (fm_dec dtX9_readSteps 6 rfl) ?_
  refine pv_istore (pc := 13) (i := 5) (by decide) rfl (fm_dec dtX9_readSteps 7 rfl) ?_
  dsimp only [List.set_cons_zero, List.set_cons_succ]
  have hs0 : sk tx 0 ≤ n := sp_le tB_1 hP.1.2.2.2.1 (Nat.zero_le _)
  exact wt_loop hlv hl8 700 0 0 0 M Q 0 (by decide) (Nat.zero_le _) hP (fun h9 => by have h8 := (wkL_bad (l := l) hP.1.2.2.2.1 hP.2.2.2.2.2 700 0 (sk tx 0) (9, 0) hs0 (by have := hP.2.2.2.2.2; omega) h9).1.2; exact absurd h8 (show ¬ 9 ≤ 3 by decide)) hE
set_option maxRecDepth 20000 in
theorem c_wread {M : fmM} {Q : fmR → fmM → Prop} {tx : tX} {n l : Nat} {lv : Int32} (hlv : lv.toInt = (l : Int)) (hl8 : l ≤ 8) (hS : xS2 M tx n 0) (hf : M.1 1 4 = 0) (hI : scInv Tx invX M) (hn : n ≤ 150) (hok : ∀ (M' : fmM) (ss : tS) (q : Nat), spWork tx n l = .inr ss → wOk (rdM M) M' tx n q 0 ss → Q (.inl (some (.int 1))) M') (hbad : ∀ (M' : fmM) (k a : Nat), spWork tx n l = .inl (k, a) → wBad (rdM M) M' k a → Q (.inl (some (.int 0))) M') : pvGood Tx 27 qX9_read [.ref 28, .ref 1, .int lv] M Q := by
  refine pvGood_of (Nat.le_of_ble_eq_true rfl) ?_
  show pvEv Tx 27 qX9_read 0 [some (.ref 28), some (.ref 1), some (.int lv)] [] M Q
  refine pv_aloadn (pc := 0) (n := 0) 0 rfl rfl (fm_dec dtX9_read 0 rfl) ?_
  refine pv_iconst (pc := 1) (v := 0) (by decide) (fm_dec dtX9_read 1 rfl) ?_
  refine pv_putI (k := 28) (j := 3) (ci := 9) (pc := 2) pfl_X9_21 (by decide) rfl (by decide) (fm_dec dtX9_read 2 rfl) ?_
  refine pv_aloadn (pc := 5) (n := 0) 0 rfl rfl (fm_dec dtX9_read 3 rfl) ?_
  refine pv_iconst (pc := 6) (v := 0) (by decide) (fm_dec dtX9_read 4 rfl) ?_
  refine pv_putI (k := 28) (j := 4) (ci := 9) (pc := 7) pfl_X9_25 (by decide) rfl (by decide) (fm_dec dtX9_read 5 rfl) ?_
  refine pv_aloadn (pc := 10) (n := 0) 0 rfl rfl (fm_dec dtX9_read 6 rfl) ?_
  refine pv_iconst (pc := 11) (v := 0) (by decide) (fm_dec dtX9_read 7 rfl) ?_
  refine pv_putI (k := 28) (j := 5) (ci := 9) (pc := 12) pfl_X9_28 (by decide) rfl (by decide) (fm_dec dtX9_read 8 rfl) ?_
  refine pv_aloadn (pc := 15) (n := 0) 0 rfl rfl (fm_dec dtX9_read 9 rfl) ?_
  refine pv_iconst (pc := 16) (v := 0) (by decide) (fm_dec dtX9_read 10 rfl) ?_
  refine pv_putI (k := 28) (j := 6) (ci := 9) (pc := 17) pfl_X9_31 (by decide) rfl (by decide) (fm_dec dtX9_read 11 rfl) ?_
  have hI2 : scInv Tx invX (rdM M) := inv_28 (inv_28 (xInv.put (xInv.put hI (by decide)) (by decide)) (Or.inl rfl)) (Or.inr rfl)
  have hP2 : wPre (rdM M) tx n 0 0 := ⟨hS.of rfl rfl rfl, hf, hI2, (show (0 : Int32).toInt = ((0 : Nat) : Int) by decide), Nat.le_refl _, hn⟩
  refine pv_aloadn (pc := 20) (n := 0) 0 rfl rfl (fm_dec dtX9_read 12 rfl) ?_
  refine pv_aloadn (pc := 21) (n := 1) 1 rfl rfl (fm_dec dtX9_read 13 rfl) ?_
  refine pv_iloadn (pc := 22) (n := 2) 2 rfl rfl (fm_dec dtX9_read 14 rfl) ?_
  refine pv_iconst (pc := 23) (v := 0) (by decide) (fm_dec dtX9_read 15 rfl) ?_
  refine pv_invV3 (k := 28) (d' := (8 + 3 * (6 - 0))) (pc := 24) pcv_X9_34 (by decide) rfl (Nat.le_of_ble_eq_true rfl) (by decide) (fm_dec dtX9_read 16 rfl) ?_
  refine c_wsteps (M := rdM M) hlv hl8 hP2 ⟨fun M24 s24 q24 e24 k24 => ?_, fun M24 kb ab e24 b24 => ?_⟩  
  · refine pv_then1 ?_
    exact pv_zreturn (pc := 27) rfl (by first | exact Or.inr rfl | exact Or.inl rfl) (fm_dec dtX9_read 17 rfl) (hok M24 s24 q24 e24 k24)
  · refine pv_then1 ?_
    exact pv_zreturn (pc := 27) rfl (by first | exact Or.inr rfl | exact Or.inl rfl) (fm_dec dtX9_read 17 rfl) (hbad M24 kb ab e24 b24)
end
-- P 18x
section
-- THE STATE, step after step
-- WORKS DONE, as they should be
/-- a state: week, hours, the dead as bits, lacked, ran, lost in 64ths; and how old each piece is, -1 for none -/
abbrev aS : Type := (Nat × Nat × Nat × Nat × Nat × Int) × (Nat → Int)
def cgS (D : dD) (li a b : Int) : Nat → Nat
  | 0 => 0
  | n + 1 => if D.2.2.2.1 n 0 = li ∧ a < D.2.2.2.1 n 2 ∧ D.2.2.2.1 n 2 ≤ b then cgS D li a b n + 1 else cgS D li a b n
theorem cg_le {D : dD} {li a b : Int} : ∀ n, cgS D li a b n ≤ n := by
  intro n
  induction n with
  | zero => exact Nat.le_refl _
  | succ n ih =>
    show (if D.2.2.2.1 n 0 = li ∧ a < D.2.2.2.1 n 2 ∧ D.2.2.2.1 n 2 ≤ b then cgS D li a b n + 1 else cgS D li a b n) ≤ n + 1
    split <;> omega
/-- how many facts of a life changed behind week a, up to week b -/
def cgA (D : dD) (li a b : Int) : Nat := cgS D li a b D.2.2.1
/-- 1 if who wrote it is dead -/
def sdA (D : dD) (dead i : Nat) : Nat := if D.2.1 i 5 < 0 then 0 else if dead.testBit (D.2.1 i 5).toNat then 1 else 0
/-- how wrong a piece of life i is that is so old in week w -/
def wrS (D : dD) (cs : tC) (dead w i age : Nat) : Int := (lwV cs (nI age) (nI ((D.2.1 i 0).toNat + w / 52)) (nI (D.2.1 i 2).toNat) (nI (sdA D dead i)) (nI (cgA D i ((w : Int) - age) w))).toInt
/-- what its death would lose now, in 64ths -/
def coS (D : dD) (cs : tC) (S : aS) (i : Nat) : Int := if S.2 i = -1 then 64 * D.2.2.2.2 3 * D.2.1 i 2 else D.2.2.2.2 4 * D.2.1 i 2 * wrS D cs S.1.2.2.1 S.1.1 i (S.2 i).toNat
def hoS (D : dD) (S : aS) (i : Nat) : Nat := if S.2 i = -1 then (D.2.1 i 3).toNat else max 1 ((D.2.1 i 3).toNat / (D.2.2.2.2 5).toNat)
/-- a piece is put now -/
def puS (D : dD) (S : aS) (i : Nat) : Option aS := if S.1.2.2.1.testBit i ∨ S.2 i = 0 ∨ S.1.2.1 < hoS D S i then none else some ((S.1.1, S.1.2.1 - hoS D S i, S.1.2.2), fun j => if j = i then 0 else S.2 j)
def diS (D : dD) (cs : tC) (S : aS) (i : Nat) : Option aS := if S.1.2.2.1.testBit i then none else if S.2 i = -1 then some ((S.1.1, S.1.2.1 - 2, S.1.2.2.1 ||| 1 <<< i, S.1.2.2.2.1 + 1, S.1.2.2.2.2.1, S.1.2.2.2.2.2 + coS D cs S i), S.2) else some ((S.1.1, S.1.2.1, S.1.2.2.1 ||| 1 <<< i, S.1.2.2.2.1, S.1.2.2.2.2.1 + 1, S.1.2.2.2.2.2 + coS D cs S i), fun j => if j = i then -1 else S.2 j)
def weS (D : dD) (S : aS) : Option aS := if S.1.1 = 200 then none else some ((S.1.1 + 1, (D.2.2.2.2 2).toNat, S.1.2.2), fun j => if S.2 j = -1 then -1 else S.2 j + 1)
def doS (D : dD) (cs : tC) (S : aS) (k i : Nat) : Option aS := match k with
  | 0 => if S.2 i = -1 then puS D S i else none
  | 1 => if S.2 i = -1 then none else puS D S i
  | 2 => diS D cs S i
  | _ => weS D S
/-- a state under way: begun, done, refused -/
abbrev gR : Type := aS × Nat × Nat × Nat
def oneR (D : dD) (cs : tC) (R : gR) (k i : Nat) : gR := match doS D cs R.1 k i with
  | some S => (S, R.2.1 + 1, R.2.2.1 + 1, R.2.2.2)
  | none => (R.1, R.2.1 + 1, R.2.2.1, R.2.2.2 + 1)
def loR (F : gR → gR) : Nat → gR → gR
  | 0, R => R
  | n + 1, R => if R.2.1 < 200 then loR F n (F R) else R
/-- the steps l, that stand from place a on, are done -/
def goL (D : dD) (cs : tC) : Nat → Nat → tS → gR → gR
  | 0, _, _, R => R
  | _ + 1, _, [], R => R
  | f + 1, a, s :: r, R => if R.2.1 < 200 then (if s.1 = 4 then goL D cs f s.2.2 (r.drop (s.2.2 - (a + 1))) (loR (goL D cs f (a + 1) (r.take (s.2.2 - (a + 1)))) s.2.1 (R.1, R.2.1 + 1, R.2.2)) else goL D cs f (a + 1) r (oneR D cs R s.1 s.2.1)) else R
/-- well nested: d more brackets may be begun -/
def wnL : Nat → Nat → Nat → tS → Prop
  | _, _, _, [] => True
  | 0, _, _, _ :: _ => False
  | f + 1, d, a, s :: r => if s.1 = 4 then 0 < d ∧ a + 1 ≤ s.2.2 ∧ s.2.2 ≤ a + 1 + r.length ∧ wnL f (d - 1) (a + 1) (r.take (s.2.2 - (a + 1))) ∧ wnL f d s.2.2 (r.drop (s.2.2 - (a + 1))) else s.1 < 4 ∧ s.2.2 = a + 1 ∧ wnL f d (a + 1) r
theorem wn_up : ∀ (f g d a : Nat) (l : tS), f ≤ g → wnL f d a l → wnL g d a l := by
  intro f
  induction f with
  | zero =>
    intro g d a l hg h
    cases l with
    | nil => cases g <;> trivial
    | cons s r => exact absurd h (by intro h; exact h)
  | succ f ih =>
    intro g d a l hg h
    obtain ⟨g, rfl⟩ : ∃ g', g = g' + 1 := ⟨g - 1, by omega⟩
    cases l with
    | nil => trivial
    | cons s r =>
      unfold wnL at h ⊢
      split at h
      · rename_i h4
        rw [if_pos h4]
        exact ⟨h.1, h.2.1, h.2.2.1, ih g _ _ _ (by omega) h.2.2.2.1, ih g _ _ _ (by omega) h.2.2.2.2⟩
      · rename_i h4
        rw [if_neg h4]
        exact ⟨h.1, h.2.1, ih g _ _ _ (by omega) h.2.2⟩
theorem wn_app : ∀ (f g d a : Nat) (l m : tS), wnL f d a l → wnL g d (a + l.length) m → wnL (f + g) d a (l ++ m) := by
  intro f
  induction f with
  | zero =>
    intro g d a l m hl hm
    cases l with
    | nil => exact wn_up _ _ _ _ _ (by omega) hm
    | cons s r => exact absurd hl (by intro h; exact h)
  | succ f ih =>
    intro g d a l m hl hm
    cases l with
    | nil => exact wn_up _ _ _ _ _ (by omega) hm
    | cons s r =>
      rw [show f + 1 + g = (f + g) + 1 by omega]
      show wnL ((f + g) + 1) d a (s :: (r ++ m))
      rw [List.length_cons] at hm
      unfold wnL at hl ⊢
      split at hl
      · rename_i h4
        rw [if_pos h4]
        obtain ⟨h0, h1, h2, h3, h5⟩ := hl
        have hn : s.2.2 - (a + 1) ≤ r.length := by omega
        refine ⟨h0, h1, by rw [List.length_append]; omega, ?_, ?_⟩
        · rw [List.take_append_of_le_length hn]
          exact wn_up _ _ _ _ _ (by omega) h3
        · rw [List.drop_append_of_le_length hn]
          exact ih g d s.2.2 _ m h5 (by rw [List.length_drop, show s.2.2 + (r.length - (s.2.2 - (a + 1))) = a + (r.length + 1) by omega]; exact hm)
      · rename_i h4
        rw [if_neg h4]
        exact ⟨hl.1, hl.2.1, ih g d (a + 1) r m hl.2.2 (by rw [show a + 1 + r.length = a + (r.length + 1) by omega]; exact hm)⟩
/-- what is read is well nested -/
theorem spSt_wn {tx : tX} {l : Nat} : ∀ (f md o b p : Nat) (ss : tS) (q : Nat), o ≤ 6 → spSt tx l f md o b p = .inr (ss, q) → ∃ g, wnL g (6 - o) b ss := by
  intro f
  induction f with
  | zero => intro md o b p ss q _ h; cases md <;> cases h
  | succ f ih =>
    intro md o b p ss q ho h
    cases md with
    | zero =>
      have h : spOneS tx l (fun q => spSt tx l f 1 (o + 1) (b + 1) q) o b p = .inr (ss, q) := h
      unfold spOneS at h
      split at h
      · cases h
      · rename_i k hk
        have hk4 := (stK_ne hk).2
        split at h
        · split at h
          · cases h
          · rename_i h6
            obtain ⟨v, q1, e1, h⟩ := spBind_ok h
            obtain ⟨u2, q2, e2, h⟩ := spBind_ok h
            obtain ⟨s3, q3, e3, h⟩ := spBind_ok h
            obtain ⟨u4, q4, e4, h⟩ := spBind_ok h
            obtain ⟨u5, q5, e5, h⟩ := spBind_ok h
            cases h
            obtain ⟨g, hg⟩ := ih _ _ _ _ _ _ (by omega) e3
            refine ⟨g + 1, ?_⟩
            unfold wnL
            rw [if_pos rfl]
            show 0 < 6 - o ∧ b + 1 ≤ b + 1 + s3.length ∧ b + 1 + s3.length ≤ b + 1 + s3.length ∧ wnL g (6 - o - 1) (b + 1) (s3.take (b + 1 + s3.length - (b + 1))) ∧ wnL g (6 - o) (b + 1 + s3.length) (s3.drop (b + 1 + s3.length - (b + 1)))
            rw [show b + 1 + s3.length - (b + 1) = s3.length by omega, List.take_length, List.drop_length, show 6 - o - 1 = 6 - (o + 1) by omega]
            exact ⟨by omega, by omega, Nat.le_refl _, hg, by cases g <;> trivial⟩
        · split at h
          · unfold spWk at h
            obtain ⟨u2, q2, e2, h⟩ := spBind_ok h
            cases h
            refine ⟨1, ?_⟩
            unfold wnL
            rw [if_neg (show ¬ (3 : Nat) = 4 by decide)]
            exact ⟨(by show (3 : Nat) < 4; decide), rfl, trivial⟩
          · rename_i h4 h3
            unfold spSi at h
            obtain ⟨v, q1, e1, h⟩ := spBind_ok h
            obtain ⟨u2, q2, e2, h⟩ := spBind_ok h
            cases h
            refine ⟨1, ?_⟩
            unfold wnL
            rw [if_neg (show ¬ k = 4 from h4)]
            exact ⟨by omega, rfl, trivial⟩
    | succ md =>
      have h : (if tx p = 93 then .inr ([], p) else spBind (spSt tx l f 0 o b p) fun ss q => spBind (spSt tx l f 1 o (b + ss.length) (sk tx q)) fun ts q => .inr (ss ++ ts, q)) = (.inr (ss, q) : tR tS) := h
      split at h
      · cases h
        exact ⟨0, trivial⟩
      · obtain ⟨s1, q1, e1, h⟩ := spBind_ok h
        obtain ⟨s2, q2, e2, h⟩ := spBind_ok h
        cases h
        obtain ⟨g1, hg1⟩ := ih _ _ _ _ _ _ ho e1
        obtain ⟨g2, hg2⟩ := ih _ _ _ _ _ _ ho e2
        exact ⟨g1 + g2, wn_app _ _ _ _ _ _ hg1 hg2⟩
theorem wkL_wn {tx : tX} {n l : Nat} : ∀ (f b p : Nat) (ss : tS), wkL tx n l f b p = .inr ss → ∃ g, wnL g 6 b ss := by
  intro f
  induction f with
  | zero => intro b p ss h; cases h
  | succ f ih =>
    intro b p ss h
    simp only [wkL] at h
    split at h
    · cases h
      exact ⟨0, trivial⟩
    · split at h
      · cases h
      · rename_i s1 q1 e1
        split at h
        · cases h
        · rename_i s2 e2
          cases h
          obtain ⟨g1, hg1⟩ := spSt_wn 400 0 0 b p s1 q1 (by decide) e1
          obtain ⟨g2, hg2⟩ := ih _ _ _ e2
          exact ⟨g1 + g2, wn_app _ _ _ _ _ _ hg1 hg2⟩
theorem spWork_wn {tx : tX} {n l : Nat} {ss : tS} (h : spWork tx n l = .inr ss) : ∃ g, wnL g 6 0 ss := wkL_wn 700 0 (sk tx 0) ss h
/-- a state as it stands here -/
def xst (M : fmM) (D : dD) (S : aS) : Prop := (M.1 47 1).toInt = (S.1.2.2.1 : Int) ∧ (M.1 47 2).toInt = (S.1.1 : Int) ∧ (M.1 47 3).toInt = (S.1.2.1 : Int) ∧ (M.1 47 4).toInt = (S.1.2.2.2.1 : Int) ∧ (M.1 47 5).toInt = (S.1.2.2.2.2.1 : Int) ∧ (M.2 47 6).toInt = S.1.2.2.2.2.2 ∧ ∀ i, i < D.1 → (M.1 48 i).toInt = S.2 i
/-- how a state can be -/
def stO (D : dD) (S : aS) : Prop := S.1.1 ≤ 200 ∧ S.1.2.1 ≤ 12 ∧ S.1.2.2.1 < 256 ∧ S.1.2.2.2.1 + S.1.2.2.2.2.1 = pop8 S.1.2.2.1 ∧ 0 ≤ S.1.2.2.2.2.2 ∧ S.1.2.2.2.2.2 ≤ 57024 * (pop8 S.1.2.2.1 : Int) ∧ (∀ i, i < D.1 → -1 ≤ S.2 i ∧ S.2 i ≤ (S.1.1 : Int) + 40) ∧ S.1.2.2.1 < 2 ^ D.1
theorem xst.of {M M' : fmM} {D : dD} {S : aS} (h : xst M D S) (hk : ∀ k j, k = 47 ∨ k = 48 → M'.1 k j = M.1 k j) (h2 : M'.2 47 6 = M.2 47 6) : xst M' D S := by
  obtain ⟨a, b, c, d, e, f, g⟩ := h
  exact ⟨by rw [hk _ _ (Or.inl rfl)]; exact a, by rw [hk _ _ (Or.inl rfl)]; exact b, by rw [hk _ _ (Or.inl rfl)]; exact c, by rw [hk _ _ (Or.inl rfl)]; exact d, by rw [hk _ _ (Or.inl rfl)]; exact e, by rw [h2]; exact f, fun i hi => by rw [hk _ _ (Or.inr rfl)]; exact g i hi⟩
theorem has8b : ∀ w, w < 256 → ∀ k, k < 8 → (nI w >>> (nI k &&& 31) &&& 1) = bI (w.testBit k) := by decide +kernel
set_option maxRecDepth 20000 in
theorem c_xaliv {M : fmM} {Q : fmR → fmM → Prop} {D : dD} {S : aS} {i : Nat} (hs : xst M D S) (ho : stO D S) (hi8 : i < 8) (hq : Q (.inl (some (.int (bI (!S.1.2.2.1.testBit i))))) M) : pvGood Tx 0 qX6_isAlive [.ref 47, .int (nI i)] M Q := by
  refine pvGood_of (Nat.le_of_ble_eq_true rfl) ?_
  show pvEv Tx 0 qX6_isAlive 0 [some (.ref 47), some (.int (nI i))] [] M Q
  have e1 : M.1 47 1 = nI S.1.2.2.1 := nI_is hs.1 (by have := ho.2.2.1; omega)
  have eb := has8b S.1.2.2.1 ho.2.2.1 i hi8
  rw [← e1] at eb
  refine pv_aloadn (pc := 0) (n := 0) 0 rfl rfl (fm_dec dtX6_isAlive 0 rfl) ?_
  refine pv_getI (k := 47) (j := 1) (ci := 6) (pc := 1) pfl_X6_26 (by decide) rfl (by decide) (fm_dec dtX6_isAlive 1 rfl) ?_
  refine pv_iloadn (pc := 4) (n := 1) 1 rfl rfl (fm_dec dtX6_isAlive 2 rfl) ?_
  refine pv_ishr (pc := 5) (fm_dec dtX6_isAlive 3 rfl) ?_
  refine pv_iconst (pc := 6) (v := 1) (by decide) (fm_dec dtX6_isAlive 4 rfl) ?_
  refine pv_iand (pc := 7) (fm_dec dtX6_isAlive 5 rfl) ?_
  refine pv_if_ne (pc := 8) 15 (by decide) (fm_dec dtX6_isAlive 6 rfl) (fun hc8 => ?_) (fun hc8 => ?_)
  · refine pv_iconst (pc := 15) (v := 0) (by decide) (fm_dec dtX6_isAlive 9 rfl) ?_
    exact pv_zreturn (pc := 16) rfl (by first | exact Or.inr rfl | exact Or.inl rfl) (fm_dec dtX6_isAlive 10 rfl) (by have h9 := hq; cases ht : S.1.2.2.1.testBit i with | true => (rw [ht] at eb h9; first | exact h9 | exact absurd hc8 (by rw [eb]; decide) | exact absurd (show (M.1 47 1 >>> (nI i &&& 31) &&& 1) = 0 from hc8) (by rw [eb]; decide)) | false => (rw [ht] at eb h9; first | exact h9 | exact absurd hc8 (by rw [eb]; decide) | exact absurd eb hc8))
  · refine pv_iconst (pc := 11) (v := 1) (by decide) (fm_dec dtX6_isAlive 7 rfl) ?_
    refine pv_goto (pc := 12) 16 (by decide) (fm_dec dtX6_isAlive 8 rfl) ?_
    exact pv_zreturn (pc := 16) rfl (by first | exact Or.inr rfl | exact Or.inl rfl) (fm_dec dtX6_isAlive 10 rfl) (by have h9 := hq; cases ht : S.1.2.2.1.testBit i with | true => (rw [ht] at eb h9; first | exact h9 | exact absurd hc8 (by rw [eb]; decide) | exact absurd (show (M.1 47 1 >>> (nI i &&& 31) &&& 1) = 0 from hc8) (by rw [eb]; decide)) | false => (rw [ht] at eb h9; first | exact h9 | exact absurd hc8 (by rw [eb]; decide) | exact absurd eb hc8))
theorem dv_n {x z : Int32} {a b : Nat} (hx : x.toInt = (a : Int)) (hz : z.toInt = (b : Int)) (hb : 0 < b) (ha : a < 1000) : (x / z).toInt = ((a / b : Nat) : Int) := by
  rw [Int32.toInt_div, hx, hz, ← Int.ofNat_tdiv]
  refine Int.bmod_eq_of_le ?_ ?_
  · have : (0 : Int) ≤ ((a / b : Nat) : Int) := Int.natCast_nonneg _
    omega
  · have : a / b ≤ a := Nat.div_le_self a b
    omega
theorem mx_1 {x : Int32} {a : Nat} (hx : x.toInt = (a : Int)) : (pvMx true 1 x).toInt = ((max 1 a : Nat) : Int) := by
  have h1 : (1 : Int32).toInt = 1 := by decide
  show (if (1 : Int32).toInt ≤ x.toInt then x else 1).toInt = _
  split <;> omega
set_option maxRecDepth 20000 in
theorem c_xrenew {M : fmM} {Q : fmR → fmM → Prop} {D : dD} {i : Nat} (hD : dOk D) (hX : xdw 3 M D) (hi : i < D.1) (hq : ∀ r : Int32, r.toInt = ((max 1 ((D.2.1 i 3).toNat / (D.2.2.2.2 5).toNat) : Nat) : Int) → Q (.inl (some (.int r))) M) : pvGood Tx 1 qX8_renewHours [.ref 3, .int (nI i)] M Q := by
  refine pvGood_of (Nat.le_of_ble_eq_true rfl) ?_
  show pvEv Tx 1 qX8_renewHours 0 [some (.ref 3), some (.int (nI i)), none] [] M Q
  have d8 := hD.1
  have hi9 : (nI i).toInt = (i : Int) := nI_toInt (by omega)
  have b3 := (hD.2.2.1 i hi).2.2.2.1
  have b5 := hD.2.2.2.2.2.2.2
  have g5 : (M.1 3 14).toInt = D.2.2.2.2 5 := hX.1.2.2.2.2.2
  have g3 : (M.1 7 i).toInt = D.2.1 i 3 := hX.2.1 i hi 3 (by decide)
  have z0 : (0 : Int32).toInt = 0 := (by decide)
  refine pv_aloadn (pc := 0) (n := 0) 0 rfl rfl (fm_dec dtX8_renewHours 0 rfl) ?_
  refine pv_getI (k := 3) (j := 14) (ci := 8) (pc := 1) pfl_X8_58 (by decide) rfl (by decide) (fm_dec dtX8_renewHours 1 rfl) ?_
  refine pv_if_le (pc := 4) 14 (by decide) (fm_dec dtX8_renewHours 2 rfl) (fun hc4 => by exfalso; rw [sc_le] at hc4; omega) (fun _ => ?_)
  refine pv_aloadn (pc := 7) (n := 0) 0 rfl rfl (fm_dec dtX8_renewHours 3 rfl) ?_
  refine pv_getI (k := 3) (j := 14) (ci := 8) (pc := 8) pfl_X8_58 (by decide) rfl (by decide) (fm_dec dtX8_renewHours 4 rfl) ?_
  refine pv_goto (pc := 11) 15 (by decide) (fm_dec dtX8_renewHours 5 rfl) ?_
  refine pv_istoren (pc := 15) (n := 2) 2 rfl (by decide) rfl (fm_dec dtX8_renewHours 7 rfl) ?_
  dsimp only [List.set_cons_zero, List.set_cons_succ]
  refine pv_iconst (pc := 16) (v := 1) (by decide) (fm_dec dtX8_renewHours 8 rfl) ?_
  refine pv_aloadn (pc := 17) (n := 0) 0 rfl rfl (fm_dec dtX8_renewHours 9 rfl) ?_
  refine pv_getR (k := 3) (j := 3) (ci := 8) (pc := 18) 7 rfl (by decide) pfl_X8_21 (by decide) rfl (by decide) (fm_dec dtX8_renewHours 10 rfl) ?_
  refine pv_iloadn (pc := 21) (n := 1) 1 rfl rfl (fm_dec dtX8_renewHours 11 rfl) ?_
  refine pv_iald (k := 7) (n := 8) (pc := 22) (by decide) rfl rfl (ix_in hi9 (by omega)) (fm_dec dtX8_renewHours 12 rfl) ?_
  rw [i32_cl hi9]
  refine pv_iloadn (pc := 23) (n := 2) 2 rfl rfl (fm_dec dtX8_renewHours 13 rfl) ?_
  refine pv_idiv (pc := 24) (fun h9 => by have h8 := congrArg Int32.toInt h9; omega) (fm_dec dtX8_renewHours 14 rfl) ?_
  refine pv_mm (pc := 25) pmm_X8_121 (by decide) (Nat.le_of_ble_eq_true rfl) (fm_dec dtX8_renewHours 15 rfl) ?_
  exact pv_ireturn (pc := 28) rfl (fm_dec dtX8_renewHours 16 rfl) (hq _ (mx_1 (dv_n (by omega) (by omega) (by omega) (by omega))))
set_option maxRecDepth 20000 in
theorem c_xhours {M : fmM} {Q : fmR → fmM → Prop} {D : dD} {S : aS} {i : Nat} (hD : dOk D) (hX : xdw 3 M D) (hs : xst M D S) (hi : i < D.1) (hq : ∀ r : Int32, r.toInt = ((hoS D S i : Nat) : Int) → Q (.inl (some (.int r))) M) : pvGood Tx 2 qX0_hoursFor [.ref 32, .ref 47, .int (nI i)] M Q := by
  refine pvGood_of (Nat.le_of_ble_eq_true rfl) ?_
  show pvEv Tx 2 qX0_hoursFor 0 [some (.ref 32), some (.ref 47), some (.int (nI i))] [] M Q
  have d8 := hD.1
  have hi9 : (nI i).toInt = (i : Int) := nI_toInt (by omega)
  have g48 := hs.2.2.2.2.2.2 i hi
  have zm : (-1 : Int32).toInt = -1 := (by decide)
  have b3 := (hD.2.2.1 i hi).2.2.2.1
  have g3 : (M.1 7 i).toInt = D.2.1 i 3 := hX.2.1 i hi 3 (by decide)
  refine pv_aloadn (pc := 0) (n := 1) 1 rfl rfl (fm_dec dtX0_hoursFor 0 rfl) ?_
  refine pv_getR (k := 47) (j := 0) (ci := 6) (pc := 1) 48 rfl (by decide) pfl_X0_78 (by decide) rfl (by decide) (fm_dec dtX0_hoursFor 1 rfl) ?_
  refine pv_iloadn (pc := 4) (n := 2) 2 rfl rfl (fm_dec dtX0_hoursFor 2 rfl) ?_
  refine pv_iald (k := 48) (n := 8) (pc := 5) (by decide) rfl rfl (ix_in hi9 (by omega)) (fm_dec dtX0_hoursFor 3 rfl) ?_
  rw [i32_cl hi9]
  refine pv_iconst (pc := 6) (v := (-1)) (by decide) (fm_dec dtX0_hoursFor 4 rfl) ?_
  refine pv_icmp_ne (pc := 7) 22 (by decide) (fm_dec dtX0_hoursFor 5 rfl) (fun hc7 => ?_) (fun hc7 => ?_)
  · refine pv_aloadn (pc := 22) (n := 0) 0 rfl rfl (fm_dec dtX0_hoursFor 12 rfl) ?_
    refine pv_getR (k := 32) (j := 0) (ci := 0) (pc := 23) 3 rfl (by decide) pfl_X0_15 (by decide) rfl (by decide) (fm_dec dtX0_hoursFor 13 rfl) ?_
    refine pv_iloadn (pc := 26) (n := 2) 2 rfl rfl (fm_dec dtX0_hoursFor 14 rfl) ?_
    refine pv_invV1 (k := 3) (d' := 1) (pc := 27) pcv_X0_91 (by decide) rfl (Nat.le_of_ble_eq_true rfl) (by decide) (fm_dec dtX0_hoursFor 15 rfl) ?_
    refine c_xrenew hD hX hi (fun r27 h27 => ?_)
    refine pv_then1 ?_
    exact pv_ireturn (pc := 30) rfl (fm_dec dtX0_hoursFor 16 rfl) (hq r27 (by unfold hoS; rw [if_neg (by intro h9; apply hc7; exact i32_ext (by omega))]; exact h27))
  · refine pv_aloadn (pc := 10) (n := 0) 0 rfl rfl (fm_dec dtX0_hoursFor 6 rfl) ?_
    refine pv_getR (k := 32) (j := 0) (ci := 0) (pc := 11) 3 rfl (by decide) pfl_X0_15 (by decide) rfl (by decide) (fm_dec dtX0_hoursFor 7 rfl) ?_
    refine pv_getR (k := 3) (j := 3) (ci := 8) (pc := 14) 7 rfl (by decide) pfl_X0_88 (by decide) rfl (by decide) (fm_dec dtX0_hoursFor 8 rfl) ?_
    refine pv_iloadn (pc := 17) (n := 2) 2 rfl rfl (fm_dec dtX0_hoursFor 9 rfl) ?_
    refine pv_iald (k := 7) (n := 8) (pc := 18) (by decide) rfl rfl (ix_in hi9 (by omega)) (fm_dec dtX0_hoursFor 10 rfl) ?_
    rw [i32_cl hi9]
    refine pv_goto (pc := 19) 30 (by decide) (fm_dec dtX0_hoursFor 11 rfl) ?_
    exact pv_ireturn (pc := 30) rfl (fm_dec dtX0_hoursFor 16 rfl) (hq _ (by unfold hoS; rw [if_pos (by have h9 := congrArg Int32.toInt hc7; omega)]; omega))
set_option maxRecDepth 20000 in
theorem c_xcan {M : fmM} {Q : fmR → fmM → Prop} {D : dD} {S : aS} {i : Nat} (hD : dOk D) (hs : xst M D S) (ho : stO D S) (hi : i < D.1) (ht : ¬ S.1.2.2.1.testBit i = true → ¬ S.2 i = 0 → Q (.inl (some (.int 1))) M) (hf : (S.1.2.2.1.testBit i = true ∨ S.2 i = 0) → Q (.inl (some (.int 0))) M) : pvGood Tx 1 qX0_canBePut [.ref 32, .ref 47, .int (nI i)] M Q := by
  refine pvGood_of (Nat.le_of_ble_eq_true rfl) ?_
  show pvEv Tx 1 qX0_canBePut 0 [some (.ref 32), some (.ref 47), some (.int (nI i))] [] M Q
  have d8 := hD.1
  have hi9 : (nI i).toInt = (i : Int) := nI_toInt (by omega)
  have g48 := hs.2.2.2.2.2.2 i hi
  have z0 : (0 : Int32).toInt = 0 := (by decide)
  refine pv_aloadn (pc := 0) (n := 1) 1 rfl rfl (fm_dec dtX0_canBePut 0 rfl) ?_
  refine pv_iloadn (pc := 1) (n := 2) 2 rfl rfl (fm_dec dtX0_canBePut 1 rfl) ?_
  refine pv_invV1 (k := 47) (d' := 0) (pc := 2) pcv_X0_38 (by decide) rfl (Nat.le_of_ble_eq_true rfl) (by decide) (fm_dec dtX0_canBePut 2 rfl) ?_
  refine c_xaliv hs ho (by omega) ?_
  refine pv_then1 ?_
  have e2 : bI (!S.1.2.2.1.testBit i) = 0 ↔ S.1.2.2.1.testBit i = true := (by rw [bI_0]; cases S.1.2.2.1.testBit i <;> decide)
  refine pv_if_eq (pc := 5) 21 (by decide) (fm_dec dtX0_canBePut 3 rfl) (fun hc5 => ?_) (fun hc5 => ?_)
  · refine pv_iconst (pc := 21) (v := 0) (by decide) (fm_dec dtX0_canBePut 11 rfl) ?_
    exact pv_zreturn (pc := 22) rfl (by first | exact Or.inr rfl | exact Or.inl rfl) (fm_dec dtX0_canBePut 12 rfl) (hf (Or.inl (e2.mp hc5)))
  · refine pv_aloadn (pc := 8) (n := 1) 1 rfl rfl (fm_dec dtX0_canBePut 4 rfl) ?_
    refine pv_getR (k := 47) (j := 0) (ci := 6) (pc := 9) 48 rfl (by decide) pfl_X0_78 (by decide) rfl (by decide) (fm_dec dtX0_canBePut 5 rfl) ?_
    refine pv_iloadn (pc := 12) (n := 2) 2 rfl rfl (fm_dec dtX0_canBePut 6 rfl) ?_
    refine pv_iald (k := 48) (n := 8) (pc := 13) (by decide) rfl rfl (ix_in hi9 (by omega)) (fm_dec dtX0_canBePut 7 rfl) ?_
    rw [i32_cl hi9]
    refine pv_if_eq (pc := 14) 21 (by decide) (fm_dec dtX0_canBePut 8 rfl) (fun hc14 => ?_) (fun hc14 => ?_)
    · refine pv_iconst (pc := 21) (v := 0) (by decide) (fm_dec dtX0_canBePut 11 rfl) ?_
      exact pv_zreturn (pc := 22) rfl (by first | exact Or.inr rfl | exact Or.inl rfl) (fm_dec dtX0_canBePut 12 rfl) (hf (Or.inr (by have h9 := congrArg Int32.toInt hc14; omega)))
    · refine pv_iconst (pc := 17) (v := 1) (by decide) (fm_dec dtX0_canBePut 9 rfl) ?_
      refine pv_goto (pc := 18) 22 (by decide) (fm_dec dtX0_canBePut 10 rfl) ?_
      exact pv_zreturn (pc := 22) rfl (by first | exact Or.inr rfl | exact Or.inl rfl) (fm_dec dtX0_canBePut 12 rfl) (ht (fun h9 => hc5 (e2.mpr h9)) (fun h9 => hc14 (i32_ext (by omega))))
def puM2 (M : fmM) (i : Nat) (h : Int32) : fmM := fmI (fmI M 47 3 (M.1 47 3 - h)) 48 i 0
theorem pu_st {M : fmM} {D : dD} {S : aS} {i : Nat} {h : Int32} (hs : xst M D S) (hi : i < D.1) (hh : h.toInt = ((hoS D S i : Nat) : Int)) (hle : hoS D S i ≤ S.1.2.1) (h12 : S.1.2.1 ≤ 12) : xst (puM2 M i h) D ((S.1.1, S.1.2.1 - hoS D S i, S.1.2.2), fun j => if j = i then 0 else S.2 j) := by
  obtain ⟨a, b, c, d, e, f, g⟩ := hs
  refine ⟨a, b, ?_, d, e, f, fun j hj => ?_⟩
  · show (M.1 47 3 - h).toInt = _
    rw [sc_sub (by omega) (by omega)]
    show _ = ((S.1.2.1 - hoS D S i : Nat) : Int)
    omega
  · unfold puM2
    rw [fmI_at]
    by_cases e0 : j = i
    · subst e0
      rw [if_pos ⟨rfl, rfl⟩]
      show (0 : Int32).toInt = if j = j then 0 else S.2 j
      rw [if_pos rfl]
      decide
    · rw [if_neg (by omega), fmI_k _ _ (by decide)]
      show _ = if j = i then 0 else S.2 j
      rw [if_neg e0]
      exact g j hj
set_option maxRecDepth 20000 in
theorem c_xput {M : fmM} {Q : fmR → fmM → Prop} {D : dD} {S : aS} {i : Nat} (hD : dOk D) (hX : xdw 3 M D) (hs : xst M D S) (ho : stO D S) (hi : i < D.1) (hn : puS D S i = none → Q (.inl (some (.int 0))) M) (hq : ∀ (S' : aS) (h : Int32), puS D S i = some S' → xst (puM2 M i h) D S' → Q (.inl (some (.int 1))) (puM2 M i h)) : pvGood Tx 3 qX0_putPiece [.ref 32, .ref 47, .int (nI i)] M Q := by
  refine pvGood_of (Nat.le_of_ble_eq_true rfl) ?_
  show pvEv Tx 3 qX0_putPiece 0 [some (.ref 32), some (.ref 47), some (.int (nI i)), none] [] M Q
  have d8 := hD.1
  have hi9 : (nI i).toInt = (i : Int) := nI_toInt (by omega)
  have h12 := ho.2.1
  have g3 := hs.2.2.1
  refine pv_aloadn (pc := 0) (n := 0) 0 rfl rfl (fm_dec dtX0_putPiece 0 rfl) ?_
  refine pv_aloadn (pc := 1) (n := 1) 1 rfl rfl (fm_dec dtX0_putPiece 1 rfl) ?_
  refine pv_iloadn (pc := 2) (n := 2) 2 rfl rfl (fm_dec dtX0_putPiece 2 rfl) ?_
  refine pv_invV2 (k := 32) (d' := 2) (pc := 3) pcv_X0_113 (by decide) rfl (Nat.le_of_ble_eq_true rfl) (by decide) (fm_dec dtX0_putPiece 3 rfl) ?_
  refine c_xhours hD hX hs hi (fun r3 h3 => ?_)
  refine pv_then1 ?_
  refine pv_istoren (pc := 6) (n := 3) 3 rfl (by decide) rfl (fm_dec dtX0_putPiece 4 rfl) ?_
  dsimp only [List.set_cons_zero, List.set_cons_succ]
  refine pv_aloadn (pc := 7) (n := 0) 0 rfl rfl (fm_dec dtX0_putPiece 5 rfl) ?_
  refine pv_aloadn (pc := 8) (n := 1) 1 rfl rfl (fm_dec dtX0_putPiece 6 rfl) ?_
  refine pv_iloadn (pc := 9) (n := 2) 2 rfl rfl (fm_dec dtX0_putPiece 7 rfl) ?_
  refine pv_invV2 (k := 32) (d' := 1) (pc := 10) pcv_X0_95 (by decide) rfl (Nat.le_of_ble_eq_true rfl) (by decide) (fm_dec dtX0_putPiece 8 rfl) ?_
  refine c_xcan hD hs ho hi (fun h10a h10b => ?_) (fun h10 => ?_)
  · refine pv_then1 ?_
    refine pv_if_eq (pc := 13) 24 (by decide) (fm_dec dtX0_putPiece 9 rfl) (fun hc13 => by exfalso; revert hc13; decide) (fun _ => ?_)
    refine pv_iloadn (pc := 16) (n := 3) 3 rfl rfl (fm_dec dtX0_putPiece 10 rfl) ?_
    refine pv_aloadn (pc := 17) (n := 1) 1 rfl rfl (fm_dec dtX0_putPiece 11 rfl) ?_
    refine pv_getI (k := 47) (j := 3) (ci := 6) (pc := 18) pfl_X0_116 (by decide) rfl (by decide) (fm_dec dtX0_putPiece 12 rfl) ?_
    refine pv_icmp_le (pc := 21) 26 (by decide) (fm_dec dtX0_putPiece 13 rfl) (fun hc21 => ?_) (fun hc21 => ?_)
    · refine pv_aloadn (pc := 26) (n := 1) 1 rfl rfl (fm_dec dtX0_putPiece 16 rfl) ?_
      refine pv_dup (pc := 27) rfl (fm_dec dtX0_putPiece 17 rfl) ?_
      refine pv_getI (k := 47) (j := 3) (ci := 6) (pc := 28) pfl_X0_116 (by decide) rfl (by decide) (fm_dec dtX0_putPiece 18 rfl) ?_
      refine pv_iloadn (pc := 31) (n := 3) 3 rfl rfl (fm_dec dtX0_putPiece 19 rfl) ?_
      refine pv_isub (pc := 32) (fm_dec dtX0_putPiece 20 rfl) ?_
      refine pv_putI (k := 47) (j := 3) (ci := 6) (pc := 33) pfl_X0_116 (by decide) rfl (by decide) (fm_dec dtX0_putPiece 21 rfl) ?_
      refine pv_aloadn (pc := 36) (n := 1) 1 rfl rfl (fm_dec dtX0_putPiece 22 rfl) ?_
      refine pv_getR (k := 47) (j := 0) (ci := 6) (pc := 37) 48 rfl (by decide) pfl_X0_78 (by decide) rfl (by decide) (fm_dec dtX0_putPiece 23 rfl) ?_
      refine pv_iloadn (pc := 40) (n := 2) 2 rfl rfl (fm_dec dtX0_putPiece 24 rfl) ?_
      refine pv_iconst (pc := 41) (v := 0) (by decide) (fm_dec dtX0_putPiece 25 rfl) ?_
      refine pv_iast (k := 48) (n := 8) (pc := 42) (by decide) rfl rfl (ix_in hi9 (by omega)) (fm_dec dtX0_putPiece 26 rfl) ?_
      rw [i32_cl hi9]
      refine pv_iconst (pc := 43) (v := 1) (by decide) (fm_dec dtX0_putPiece 27 rfl) ?_
      exact pv_zreturn (pc := 44) rfl (by first | exact Or.inr rfl | exact Or.inl rfl) (fm_dec dtX0_putPiece 28 rfl) (hq _ r3 (if_neg (by rw [sc_le] at hc21; intro h9; rcases h9 with h | h | h; exact h10a h; exact h10b h; omega)) (pu_st hs hi h3 (by rw [sc_le] at hc21; omega) h12))
    · refine pv_iconst (pc := 24) (v := 0) (by decide) (fm_dec dtX0_putPiece 14 rfl) ?_
      exact pv_zreturn (pc := 25) rfl (by first | exact Or.inr rfl | exact Or.inl rfl) (fm_dec dtX0_putPiece 15 rfl) (hn (if_pos (Or.inr (Or.inr (by rw [sc_le] at hc21; omega)))))
  · refine pv_then1 ?_
    refine pv_if_eq (pc := 13) 24 (by decide) (fm_dec dtX0_putPiece 9 rfl) (fun _ => ?_) (fun hc13 => by exfalso; revert hc13; decide)
    refine pv_iconst (pc := 24) (v := 0) (by decide) (fm_dec dtX0_putPiece 14 rfl) ?_
    exact pv_zreturn (pc := 25) rfl (by first | exact Or.inr rfl | exact Or.inl rfl) (fm_dec dtX0_putPiece 15 rfl) (hn (if_pos (by rcases h10 with h | h; exact Or.inl h; exact Or.inr (Or.inl h))))
set_option maxRecDepth 20000 in
theorem xcg_loop {Q : fmR → fmM → Prop} {M : fmM} {li a b : Int32} {D : dD} (hD : dOk D) (hX : xdw 3 M D) : ∀ (m : Nat) (n : Nat) (i : Int32), i.toInt = (n : Int) → n ≤ D.2.2.1 → D.2.2.1 - n = m → Q (.inl (some (.int (nI (cgA D li.toInt a.toInt b.toInt))))) M → pvEv Tx 0 qX8_changesBetween 6 [some (.ref 3), some (.int li), some (.int a), some (.int b), some (.int (nI (cgS D li.toInt a.toInt b.toInt n))), some (.int i)] [] M Q := by
  intro m
  induction m using Nat.strongRecOn with
  | _ m ih =>
    intro n i hi hnD hm hq
    have c10 : (M.1 3 10).toInt = (D.2.2.1 : Int) := hX.1.2.1
    have d24 := hD.2.1
    refine pv_iload (pc := 6) (i := 5) rfl (fm_dec dtX8_changesBetween 4 rfl) ?_
    refine pv_aloadn (pc := 8) (n := 0) 0 rfl rfl (fm_dec dtX8_changesBetween 5 rfl) ?_
    refine pv_getI (k := 3) (j := 10) (ci := 8) (pc := 9) pfl_X8_46 (by decide) rfl (by decide) (fm_dec dtX8_changesBetween 6 rfl) ?_
    refine pv_icmp_ge (pc := 12) 57 (by decide) (fm_dec dtX8_changesBetween 7 rfl) (fun hc12 => ?_) (fun hc12 => ?_)
    · refine pv_iload (pc := 57) (i := 4) rfl (fm_dec dtX8_changesBetween 29 rfl) ?_
      exact pv_ireturn (pc := 59) rfl (fm_dec dtX8_changesBetween 30 rfl) (by have e9 : n = D.2.2.1 := (by rw [sc_le] at hc12; omega); subst e9; exact hq)
    · have hn : n < D.2.2.1 := (by rw [sc_le] at hc12; omega)
      have f0 : (M.1 10 n).toInt = D.2.2.2.1 n 0 := hX.2.2 n hn 0 (by decide)
      have f2 : (M.1 12 n).toInt = D.2.2.2.1 n 2 := hX.2.2 n hn 2 (by decide)
      refine pv_aloadn (pc := 15) (n := 0) 0 rfl rfl (fm_dec dtX8_changesBetween 8 rfl) ?_
      refine pv_getR (k := 3) (j := 6) (ci := 8) (pc := 16) 10 rfl (by decide) pfl_X8_30 (by decide) rfl (by decide) (fm_dec dtX8_changesBetween 9 rfl) ?_
      refine pv_iload (pc := 19) (i := 5) rfl (fm_dec dtX8_changesBetween 10 rfl) ?_
      refine pv_iald (k := 10) (n := 24) (pc := 21) (by decide) rfl rfl (ix_in hi (by omega)) (fm_dec dtX8_changesBetween 11 rfl) ?_
      rw [i32_cl hi]
      refine pv_iloadn (pc := 22) (n := 1) 1 rfl rfl (fm_dec dtX8_changesBetween 12 rfl) ?_
      refine pv_icmp_ne (pc := 23) 51 (by decide) (fm_dec dtX8_changesBetween 13 rfl) (fun hc23 => ?_) (fun hc23 => ?_)
      · refine pv_iincc (pc := 51) 5 1 (by decide) rfl (by decide) rfl (fm_dec dtX8_changesBetween 27 rfl) ?_
        dsimp only [List.set_cons_zero, List.set_cons_succ]
        refine pv_goto (pc := 54) 6 (by decide) (fm_dec dtX8_changesBetween 28 rfl) ?_
        have e9 : cgS D li.toInt a.toInt b.toInt (n + 1) = cgS D li.toInt a.toInt b.toInt n := if_neg (by intro h9; apply hc23; apply i32_ext; omega)
        rw [← e9]
        exact ih (D.2.2.1 - (n + 1)) (by omega) (n + 1) (i + 1) (i32_p1 hi (by omega)) (by omega) rfl hq
      · refine pv_aloadn (pc := 26) (n := 0) 0 rfl rfl (fm_dec dtX8_changesBetween 14 rfl) ?_
        refine pv_getR (k := 3) (j := 8) (ci := 8) (pc := 27) 12 rfl (by decide) pfl_X8_36 (by decide) rfl (by decide) (fm_dec dtX8_changesBetween 15 rfl) ?_
        refine pv_iload (pc := 30) (i := 5) rfl (fm_dec dtX8_changesBetween 16 rfl) ?_
        refine pv_iald (k := 12) (n := 24) (pc := 32) (by decide) rfl rfl (ix_in hi (by omega)) (fm_dec dtX8_changesBetween 17 rfl) ?_
        rw [i32_cl hi]
        refine pv_iloadn (pc := 33) (n := 2) 2 rfl rfl (fm_dec dtX8_changesBetween 18 rfl) ?_
        refine pv_icmp_le (pc := 34) 51 (by decide) (fm_dec dtX8_changesBetween 19 rfl) (fun hc34 => ?_) (fun hc34 => ?_)
        · refine pv_iincc (pc := 51) 5 1 (by decide) rfl (by decide) rfl (fm_dec dtX8_changesBetween 27 rfl) ?_
          dsimp only [List.set_cons_zero, List.set_cons_succ]
          refine pv_goto (pc := 54) 6 (by decide) (fm_dec dtX8_changesBetween 28 rfl) ?_
          have e9 : cgS D li.toInt a.toInt b.toInt (n + 1) = cgS D li.toInt a.toInt b.toInt n := if_neg (by intro h9; rw [sc_le] at hc34; omega)
          rw [← e9]
          exact ih (D.2.2.1 - (n + 1)) (by omega) (n + 1) (i + 1) (i32_p1 hi (by omega)) (by omega) rfl hq
        · refine pv_aloadn (pc := 37) (n := 0) 0 rfl rfl (fm_dec dtX8_changesBetween 20 rfl) ?_
          refine pv_getR (k := 3) (j := 8) (ci := 8) (pc := 38) 12 rfl (by decide) pfl_X8_36 (by decide) rfl (by decide) (fm_dec dtX8_changesBetween 21 rfl) ?_
          refine pv_iload (pc := 41) (i := 5) rfl (fm_dec dtX8_changesBetween 22 rfl) ?_
          refine pv_iald (k := 12) (n := 24) (pc := 43) (by decide) rfl rfl (ix_in hi (by omega)) (fm_dec dtX8_changesBetween 23 rfl) ?_
          rw [i32_cl hi]
          refine pv_iloadn (pc := 44) (n := 3) 3 rfl rfl (fm_dec dtX8_changesBetween 24 rfl) ?_
          refine pv_icmp_gt (pc := 45) 51 (by decide) (fm_dec dtX8_changesBetween 25 rfl) (fun hc45 => ?_) (fun hc45 => ?_)
          · refine pv_iincc (pc := 51) 5 1 (by decide) rfl (by decide) rfl (fm_dec dtX8_changesBetween 27 rfl) ?_
            dsimp only [List.set_cons_zero, List.set_cons_succ]
            refine pv_goto (pc := 54) 6 (by decide) (fm_dec dtX8_changesBetween 28 rfl) ?_
            have e9 : cgS D li.toInt a.toInt b.toInt (n + 1) = cgS D li.toInt a.toInt b.toInt n := if_neg (by intro h9; rw [sc_lt] at hc45; omega)
            rw [← e9]
            exact ih (D.2.2.1 - (n + 1)) (by omega) (n + 1) (i + 1) (i32_p1 hi (by omega)) (by omega) rfl hq
          · refine pv_iincc (pc := 48) 4 1 (by decide) rfl (by decide) rfl (fm_dec dtX8_changesBetween 26 rfl) ?_
            dsimp only [List.set_cons_zero, List.set_cons_succ]
            refine pv_iincc (pc := 51) 5 1 (by decide) rfl (by decide) rfl (fm_dec dtX8_changesBetween 27 rfl) ?_
            dsimp only [List.set_cons_zero, List.set_cons_succ]
            refine pv_goto (pc := 54) 6 (by decide) (fm_dec dtX8_changesBetween 28 rfl) ?_
            have e9 : cgS D li.toInt a.toInt b.toInt (n + 1) = cgS D li.toInt a.toInt b.toInt n + 1 := if_pos ⟨by rw [← f0, hc23], by rw [sc_le] at hc34; omega, by rw [sc_lt] at hc45; omega⟩
            rw [nI_succ1, ← e9]
            exact ih (D.2.2.1 - (n + 1)) (by omega) (n + 1) (i + 1) (i32_p1 hi (by omega)) (by omega) rfl hq
set_option maxRecDepth 20000 in
theorem c_xcg {M : fmM} {Q : fmR → fmM → Prop} {li a b : Int32} {D : dD} (hD : dOk D) (hX : xdw 3 M D) (hq : Q (.inl (some (.int (nI (cgA D li.toInt a.toInt b.toInt))))) M) : pvGood Tx 0 qX8_changesBetween [.ref 3, .int li, .int a, .int b] M Q := by
  refine pvGood_of (Nat.le_of_ble_eq_true rfl) ?_
  show pvEv Tx 0 qX8_changesBetween 0 [some (.ref 3), some (.int li), some (.int a), some (.int b), none, none] [] M Q
  refine pv_iconst (pc := 0) (v := 0) (by decide) (fm_dec dtX8_changesBetween 0 rfl) ?_
  refine pv_istore (pc := 1) (i := 4) (by decide) rfl (fm_dec dtX8_changesBetween 1 rfl) ?_
  dsimp only [List.set_cons_zero, List.set_cons_succ]
  refine pv_iconst (pc := 3) (v := 0) (by decide) (fm_dec dtX8_changesBetween 2 rfl) ?_
  refine pv_istore (pc := 4) (i := 5) (by decide) rfl (fm_dec dtX8_changesBetween 3 rfl) ?_
  dsimp only [List.set_cons_zero, List.set_cons_succ]
  exact xcg_loop hD hX D.2.2.1 0 0 (by decide) (by omega) (by omega) hq
set_option maxRecDepth 20000 in
theorem c_xyrG {M : fmM} {Q : fmR → fmM → Prop} {D : dD} {i w : Nat} {z : Int32} (hD : dOk D) (hX : xdw 3 M D) (hi : i < D.1) (hz : (M.1 47 2 + z).toInt = (w : Int)) (hw : w ≤ 300) (hq : Q (.inl (some (.int (nI ((D.2.1 i 0).toNat + w / 52))))) M) : pvGood Tx 0 qX0_yearsWhen [.ref 32, .ref 47, .int (nI i), .int z] M Q := by
  refine pvGood_of (Nat.le_of_ble_eq_true rfl) ?_
  show pvEv Tx 0 qX0_yearsWhen 0 [some (.ref 32), some (.ref 47), some (.int (nI i)), some (.int z)] [] M Q
  have d8 := hD.1
  have hi9 : (nI i).toInt = (i : Int) := nI_toInt (by omega)
  have b0 := (hD.2.2.1 i hi).1
  have g0 : (M.1 4 i).toInt = D.2.1 i 0 := hX.2.1 i hi 0 (by decide)
  have z52 : (52 : Int32).toInt = ((52 : Nat) : Int) := (by decide)
  refine pv_aloadn (pc := 0) (n := 0) 0 rfl rfl (fm_dec dtX0_yearsWhen 0 rfl) ?_
  refine pv_getR (k := 32) (j := 0) (ci := 0) (pc := 1) 3 rfl (by decide) pfl_X0_15 (by decide) rfl (by decide) (fm_dec dtX0_yearsWhen 1 rfl) ?_
  refine pv_getR (k := 3) (j := 0) (ci := 8) (pc := 4) 4 rfl (by decide) pfl_X0_23 (by decide) rfl (by decide) (fm_dec dtX0_yearsWhen 2 rfl) ?_
  refine pv_iloadn (pc := 7) (n := 2) 2 rfl rfl (fm_dec dtX0_yearsWhen 3 rfl) ?_
  refine pv_iald (k := 4) (n := 8) (pc := 8) (by decide) rfl rfl (ix_in hi9 (by omega)) (fm_dec dtX0_yearsWhen 4 rfl) ?_
  rw [i32_cl hi9]
  refine pv_aloadn (pc := 9) (n := 1) 1 rfl rfl (fm_dec dtX0_yearsWhen 5 rfl) ?_
  refine pv_getI (k := 47) (j := 2) (ci := 6) (pc := 10) pfl_X0_29 (by decide) rfl (by decide) (fm_dec dtX0_yearsWhen 6 rfl) ?_
  refine pv_iloadn (pc := 13) (n := 3) 3 rfl rfl (fm_dec dtX0_yearsWhen 7 rfl) ?_
  refine pv_iadd (pc := 14) (fm_dec dtX0_yearsWhen 8 rfl) ?_
  refine pv_bipush (pc := 15) (v := 52) (by decide) (fm_dec dtX0_yearsWhen 9 rfl) ?_
  refine pv_idiv (pc := 17) (by decide) (fm_dec dtX0_yearsWhen 10 rfl) ?_
  refine pv_iadd (pc := 18) (fm_dec dtX0_yearsWhen 11 rfl) ?_
  exact pv_ireturn (pc := 19) rfl (fm_dec dtX0_yearsWhen 12 rfl) (by have e8 := dv_n hz z52 (by decide) (by omega); have h8 : w / 52 ≤ w := Nat.div_le_self _ _; have e7 : (M.1 4 i + (M.1 47 2 + z) / 52).toInt = (((D.2.1 i 0).toNat + w / 52 : Nat) : Int) := (by rw [sc_add (by omega) (by omega)]; omega); rw [nI_is e7 (by omega)]; exact hq)
theorem wk_z0 {M : fmM} {D : dD} {S : aS} (hs : xst M D S) (ho : stO D S) : (M.1 47 2 + 0).toInt = (S.1.1 : Int) := by
  have w2 := ho.1
  have g2 := hs.2.1
  have z0 : (0 : Int32).toInt = 0 := by decide
  rw [sc_add (by omega) (by omega)]
  omega
theorem c_xyr {M : fmM} {Q : fmR → fmM → Prop} {D : dD} {S : aS} {i : Nat} (hD : dOk D) (hX : xdw 3 M D) (hs : xst M D S) (ho : stO D S) (hi : i < D.1) (hq : Q (.inl (some (.int (nI ((D.2.1 i 0).toNat + S.1.1 / 52))))) M) : pvGood Tx 0 qX0_yearsWhen [.ref 32, .ref 47, .int (nI i), .int 0] M Q := c_xyrG hD hX hi (wk_z0 hs ho) (by have := ho.1; omega) hq
set_option maxRecDepth 20000 in
theorem c_xsd {M : fmM} {Q : fmR → fmM → Prop} {D : dD} {S : aS} {i : Nat} (hD : dOk D) (hX : xdw 3 M D) (hs : xst M D S) (ho : stO D S) (hi : i < D.1) (hq : Q (.inl (some (.int (nI (sdA D S.1.2.2.1 i))))) M) : pvGood Tx 1 qX0_signerDead [.ref 32, .ref 47, .int (nI i)] M Q := by
  refine pvGood_of (Nat.le_of_ble_eq_true rfl) ?_
  show pvEv Tx 1 qX0_signerDead 0 [some (.ref 32), some (.ref 47), some (.int (nI i)), none] [] M Q
  have d8 := hD.1
  have hi9 : (nI i).toInt = (i : Int) := nI_toInt (by omega)
  have g5 : (M.1 9 i).toInt = chB D i := hX.2.1 i hi 5 (by decide)
  have z0 : (0 : Int32).toInt = 0 := (by decide)
  have ec : D.2.1 i 5 = chB D i := rfl
  refine pv_aloadn (pc := 0) (n := 0) 0 rfl rfl (fm_dec dtX0_signerDead 0 rfl) ?_
  refine pv_getR (k := 32) (j := 0) (ci := 0) (pc := 1) 3 rfl (by decide) pfl_X0_15 (by decide) rfl (by decide) (fm_dec dtX0_signerDead 1 rfl) ?_
  refine pv_getR (k := 3) (j := 5) (ci := 8) (pc := 4) 9 rfl (by decide) pfl_X0_35 (by decide) rfl (by decide) (fm_dec dtX0_signerDead 2 rfl) ?_
  refine pv_iloadn (pc := 7) (n := 2) 2 rfl rfl (fm_dec dtX0_signerDead 3 rfl) ?_
  refine pv_iald (k := 9) (n := 8) (pc := 8) (by decide) rfl rfl (ix_in hi9 (by omega)) (fm_dec dtX0_signerDead 4 rfl) ?_
  rw [i32_cl hi9]
  refine pv_istoren (pc := 9) (n := 3) 3 rfl (by decide) rfl (fm_dec dtX0_signerDead 5 rfl) ?_
  dsimp only [List.set_cons_zero, List.set_cons_succ]
  refine pv_iloadn (pc := 10) (n := 3) 3 rfl rfl (fm_dec dtX0_signerDead 6 rfl) ?_
  refine pv_if_lt (pc := 11) 26 (by decide) (fm_dec dtX0_signerDead 7 rfl) (fun hc11 => ?_) (fun hc11 => ?_)
  · refine pv_iconst (pc := 26) (v := 0) (by decide) (fm_dec dtX0_signerDead 14 rfl) ?_
    exact pv_ireturn (pc := 27) rfl (fm_dec dtX0_signerDead 15 rfl) (by have h9 := hq; unfold sdA at h9; rw [if_pos (by rw [sc_lt] at hc11; omega)] at h9; exact h9)
  · obtain ⟨k, hk, hk8, hkb, hkx⟩ := by_d hD hi g5 (by rw [sc_lt] at hc11; omega)
    rw [hkx]
    refine pv_aloadn (pc := 14) (n := 1) 1 rfl rfl (fm_dec dtX0_signerDead 8 rfl) ?_
    refine pv_iloadn (pc := 15) (n := 3) 3 rfl rfl (fm_dec dtX0_signerDead 9 rfl) ?_
    refine pv_invV1 (k := 47) (d' := 0) (pc := 16) pcv_X0_38 (by decide) rfl (Nat.le_of_ble_eq_true rfl) (by decide) (fm_dec dtX0_signerDead 10 rfl) ?_
    refine c_xaliv hs ho hk8 ?_
    refine pv_then1 ?_
    refine pv_if_ne (pc := 19) 26 (by decide) (fm_dec dtX0_signerDead 11 rfl) (fun hc19 => ?_) (fun hc19 => ?_)
    · refine pv_iconst (pc := 26) (v := 0) (by decide) (fm_dec dtX0_signerDead 14 rfl) ?_
      exact pv_ireturn (pc := 27) rfl (fm_dec dtX0_signerDead 15 rfl) (by have h9 := hq; unfold sdA at h9; rw [if_neg (by omega), ec, hkb, Int.toNat_natCast] at h9; cases ht : S.1.2.2.1.testBit k with | true => exact absurd (show bI (!S.1.2.2.1.testBit k) = 0 by rw [ht]; decide) hc19 | false => (rw [ht] at h9; exact h9))
    · refine pv_iconst (pc := 22) (v := 1) (by decide) (fm_dec dtX0_signerDead 12 rfl) ?_
      refine pv_goto (pc := 23) 27 (by decide) (fm_dec dtX0_signerDead 13 rfl) ?_
      exact pv_ireturn (pc := 27) rfl (fm_dec dtX0_signerDead 15 rfl) (by have h9 := hq; unfold sdA at h9; rw [if_neg (by omega), ec, hkb, Int.toNat_natCast] at h9; cases ht : S.1.2.2.1.testBit k with | true => (rw [ht] at h9; exact h9) | false => (rw [ht] at hc19; exact absurd hc19 (by decide)))
theorem mxt {x z : Int32} : (pvMx true x z).toInt = max x.toInt z.toInt := by
  show (if x.toInt ≤ z.toInt then z else x).toInt = _
  split <;> omega
theorem mxf {x z : Int32} : (pvMx false x z).toInt = min x.toInt z.toInt := by
  show (if x.toInt ≤ z.toInt then x else z).toInt = _
  split <;> omega
theorem outV_b {x : Int32} : 0 ≤ (outV x).toInt ∧ (outV x).toInt ≤ 64 := by
  unfold outV
  have z0 : (0 : Int32).toInt = 0 := by decide
  have z64 : (64 : Int32).toInt = 64 := by decide
  rw [mxt, mxf, z0, z64]
  omega
theorem wrS_b {D : dD} {cs : tC} {dead w i age : Nat} : 0 ≤ wrS D cs dead w i age ∧ wrS D cs dead w i age ≤ 64 := outV_b
theorem cg_24 {D : dD} {li a b : Int} (hD : dOk D) : cgA D li a b ≤ 24 := Nat.le_trans (cg_le _) hD.2.1
set_option maxRecDepth 20000 in
theorem c_xwrgG {M : fmM} {Q : fmR → fmM → Prop} {D : dD} {cs : tC} {S : aS} {i a w : Nat} {z : Int32} (hD : dOk D) (hX : xdw 3 M D) (hL : lwX M cs) (hs : xst M D S) (ho : stO D S) (hi : i < D.1) (hz : (M.1 47 2 + z).toInt = (w : Int)) (hw : w ≤ 300) (ha : a ≤ 400) (hq : ∀ (M' : fmM) (r : Int32), (∀ k j, k ≠ 26 → M'.1 k j = M.1 k j) → M'.2 = M.2 → r.toInt = wrS D cs S.1.2.2.1 w i a → Q (.inl (some (.int r))) M') : pvGood Tx 2 qX0_wrongWhen [.ref 32, .ref 47, .int (nI i), .int z, .int (nI a)] M Q := by
  refine pvGood_of (Nat.le_of_ble_eq_true rfl) ?_
  show pvEv Tx 2 qX0_wrongWhen 0 [some (.ref 32), some (.ref 47), some (.int (nI i)), some (.int z), some (.int (nI a)), none, none] [] M Q
  have d8 := hD.1
  have hi9 : (nI i).toInt = (i : Int) := nI_toInt (by omega)
  have ha9 : (nI a).toInt = (a : Int) := nI_toInt (by omega)
  have ea : (M.1 47 2 + z - nI a).toInt = (w : Int) - a := (by rw [sc_sub (by omega) (by omega)]; omega)
  have b2 := (hD.2.2.1 i hi).2.2.1
  have g2 : M.1 6 i = nI (D.2.1 i 2).toNat := nI_is (by have h9 : (M.1 6 i).toInt = D.2.1 i 2 := hX.2.1 i hi 2 (by decide); omega) (by omega)
  refine pv_aloadn (pc := 0) (n := 1) 1 rfl rfl (fm_dec dtX0_wrongWhen 0 rfl) ?_
  refine pv_getI (k := 47) (j := 2) (ci := 6) (pc := 1) pfl_X0_29 (by decide) rfl (by decide) (fm_dec dtX0_wrongWhen 1 rfl) ?_
  refine pv_iloadn (pc := 4) (n := 3) 3 rfl rfl (fm_dec dtX0_wrongWhen 2 rfl) ?_
  refine pv_iadd (pc := 5) (fm_dec dtX0_wrongWhen 3 rfl) ?_
  refine pv_istore (pc := 6) (i := 5) (by decide) rfl (fm_dec dtX0_wrongWhen 4 rfl) ?_
  dsimp only [List.set_cons_zero, List.set_cons_succ]
  refine pv_aloadn (pc := 8) (n := 0) 0 rfl rfl (fm_dec dtX0_wrongWhen 5 rfl) ?_
  refine pv_getR (k := 32) (j := 0) (ci := 0) (pc := 9) 3 rfl (by decide) pfl_X0_15 (by decide) rfl (by decide) (fm_dec dtX0_wrongWhen 6 rfl) ?_
  refine pv_iloadn (pc := 12) (n := 2) 2 rfl rfl (fm_dec dtX0_wrongWhen 7 rfl) ?_
  refine pv_iload (pc := 13) (i := 5) rfl (fm_dec dtX0_wrongWhen 8 rfl) ?_
  refine pv_iload (pc := 15) (i := 4) rfl (fm_dec dtX0_wrongWhen 9 rfl) ?_
  refine pv_isub (pc := 17) (fm_dec dtX0_wrongWhen 10 rfl) ?_
  refine pv_iload (pc := 18) (i := 5) rfl (fm_dec dtX0_wrongWhen 11 rfl) ?_
  refine pv_invV3 (k := 3) (d' := 0) (pc := 20) pcv_X0_42 (by decide) rfl (Nat.le_of_ble_eq_true rfl) (by decide) (fm_dec dtX0_wrongWhen 12 rfl) ?_
  refine c_xcg hD hX ?_
  refine pv_then1 ?_
  refine pv_istore (pc := 23) (i := 6) (by decide) rfl (fm_dec dtX0_wrongWhen 13 rfl) ?_
  dsimp only [List.set_cons_zero, List.set_cons_succ]
  refine pv_aloadn (pc := 25) (n := 0) 0 rfl rfl (fm_dec dtX0_wrongWhen 14 rfl) ?_
  refine pv_getR (k := 32) (j := 1) (ci := 0) (pc := 26) 23 rfl (by decide) pfl_X0_19 (by decide) rfl (by decide) (fm_dec dtX0_wrongWhen 15 rfl) ?_
  refine pv_iload (pc := 29) (i := 4) rfl (fm_dec dtX0_wrongWhen 16 rfl) ?_
  refine pv_aloadn (pc := 31) (n := 0) 0 rfl rfl (fm_dec dtX0_wrongWhen 17 rfl) ?_
  refine pv_aloadn (pc := 32) (n := 1) 1 rfl rfl (fm_dec dtX0_wrongWhen 18 rfl) ?_
  refine pv_iloadn (pc := 33) (n := 2) 2 rfl rfl (fm_dec dtX0_wrongWhen 19 rfl) ?_
  refine pv_iloadn (pc := 34) (n := 3) 3 rfl rfl (fm_dec dtX0_wrongWhen 20 rfl) ?_
  refine pv_invV3 (k := 32) (d' := 0) (pc := 35) pcv_X0_46 (by decide) rfl (Nat.le_of_ble_eq_true rfl) (by decide) (fm_dec dtX0_wrongWhen 21 rfl) ?_
  refine c_xyrG hD hX hi hz hw ?_
  refine pv_then1 ?_
  refine pv_aloadn (pc := 38) (n := 0) 0 rfl rfl (fm_dec dtX0_wrongWhen 22 rfl) ?_
  refine pv_getR (k := 32) (j := 0) (ci := 0) (pc := 39) 3 rfl (by decide) pfl_X0_15 (by decide) rfl (by decide) (fm_dec dtX0_wrongWhen 23 rfl) ?_
  refine pv_getR (k := 3) (j := 2) (ci := 8) (pc := 42) 6 rfl (by decide) pfl_X0_50 (by decide) rfl (by decide) (fm_dec dtX0_wrongWhen 24 rfl) ?_
  refine pv_iloadn (pc := 45) (n := 2) 2 rfl rfl (fm_dec dtX0_wrongWhen 25 rfl) ?_
  refine pv_iald (k := 6) (n := 8) (pc := 46) (by decide) rfl rfl (ix_in hi9 (by omega)) (fm_dec dtX0_wrongWhen 26 rfl) ?_
  rw [i32_cl hi9, g2]
  refine pv_aloadn (pc := 47) (n := 0) 0 rfl rfl (fm_dec dtX0_wrongWhen 27 rfl) ?_
  refine pv_aloadn (pc := 48) (n := 1) 1 rfl rfl (fm_dec dtX0_wrongWhen 28 rfl) ?_
  refine pv_iloadn (pc := 49) (n := 2) 2 rfl rfl (fm_dec dtX0_wrongWhen 29 rfl) ?_
  refine pv_invV2 (k := 32) (d' := 1) (pc := 50) pcv_X0_53 (by decide) rfl (Nat.le_of_ble_eq_true rfl) (by decide) (fm_dec dtX0_wrongWhen 30 rfl) ?_
  refine c_xsd hD hX hs ho hi ?_
  refine pv_then1 ?_
  refine pv_iload (pc := 53) (i := 6) rfl (fm_dec dtX0_wrongWhen 31 rfl) ?_
  refine pv_invV5 (k := 23) (d' := 1) (pc := 55) pcv_X0_57 (by decide) rfl (Nat.le_of_ble_eq_true rfl) (by decide) (fm_dec dtX0_wrongWhen 32 rfl) ?_
  refine c_xlw hL (fun M55 g55 h55 => ?_)
  refine pv_then1 ?_
  exact pv_ireturn (pc := 58) rfl (fm_dec dtX0_wrongWhen 33 rfl) (hq M55 _ g55 h55 (by unfold wrS; rw [hi9, hz, ea]))
theorem c_xwrg {M : fmM} {Q : fmR → fmM → Prop} {D : dD} {cs : tC} {S : aS} {i a : Nat} (hD : dOk D) (hX : xdw 3 M D) (hL : lwX M cs) (hs : xst M D S) (ho : stO D S) (hi : i < D.1) (ha : a ≤ 240) (hq : ∀ (M' : fmM) (r : Int32), (∀ k j, k ≠ 26 → M'.1 k j = M.1 k j) → M'.2 = M.2 → r.toInt = wrS D cs S.1.2.2.1 S.1.1 i a → Q (.inl (some (.int r))) M') : pvGood Tx 2 qX0_wrongWhen [.ref 32, .ref 47, .int (nI i), .int 0, .int (nI a)] M Q := c_xwrgG hD hX hL hs ho hi (wk_z0 hs ho) (by have := ho.1; omega) (by omega) hq
theorem j64 {x : Int64} {z : Int32} {a b : Int} (hx : x.toInt = a) (hz : z.toInt = b) (h1 : -1000000000 ≤ a * b) (h2 : a * b ≤ 1000000000) : (x * z.toInt64).toInt = a * b := by
  rw [Int64.toInt_mul, Int32.toInt_toInt64, hx, hz]
  exact Int.bmod_eq_of_le (by omega) (by omega)
theorem mul_b {a b m n : Int} (ha : 0 ≤ a) (ha2 : a ≤ m) (hb : 0 ≤ b) (hb2 : b ≤ n) : 0 ≤ a * b ∧ a * b ≤ m * n := ⟨Int.mul_nonneg ha hb, Int.mul_le_mul ha2 hb2 hb (by omega)⟩
/-- what a death would lose in week w, the piece being so old then, or -1 -/
def coA (D : dD) (cs : tC) (dead w i : Nat) (age : Int) : Int := if age = -1 then 64 * D.2.2.2.2 3 * D.2.1 i 2 else D.2.2.2.2 4 * D.2.1 i 2 * wrS D cs dead w i age.toNat
theorem coS_A {D : dD} {cs : tC} {S : aS} {i : Nat} : coS D cs S i = coA D cs S.1.2.2.1 S.1.1 i (S.2 i) := rfl
theorem coA_b {D : dD} {cs : tC} {dead w i : Nat} {age : Int} (hD : dOk D) (hi : i < D.1) : 0 ≤ coA D cs dead w i age ∧ coA D cs dead w i age ≤ 57024 := by
  have b2 := (hD.2.2.1 i hi).2.2.1
  have b3 := hD.2.2.2.2.2.1
  have b4 := hD.2.2.2.2.2.2.1
  unfold coA
  split
  · have h1 := mul_b (a := 64 * D.2.2.2.2 3) (b := D.2.1 i 2) (m := 576) (n := 99) (by omega) (by omega) (by omega) (by omega)
    omega
  · have h1 := mul_b (a := D.2.2.2.2 4) (b := D.2.1 i 2) (m := 9) (n := 99) (by omega) (by omega) (by omega) (by omega)
    have hw := wrS_b (D := D) (cs := cs) (dead := dead) (w := w) (i := i) (age := age.toNat)
    have h2 := mul_b (a := D.2.2.2.2 4 * D.2.1 i 2) (b := wrS D cs dead w i age.toNat) (m := 891) (n := 64) (by omega) (by omega) hw.1 hw.2
    omega
theorem coS_b {D : dD} {cs : tC} {S : aS} {i : Nat} (hD : dOk D) (hi : i < D.1) : 0 ≤ coS D cs S i ∧ coS D cs S i ≤ 57024 := by
  have b2 := (hD.2.2.1 i hi).2.2.1
  have b3 := hD.2.2.2.2.2.1
  have b4 := hD.2.2.2.2.2.2.1
  unfold coS
  split
  · have h1 := mul_b (a := 64 * D.2.2.2.2 3) (b := D.2.1 i 2) (m := 576) (n := 99) (by omega) (by omega) (by omega) (by omega)
    omega
  · have h1 := mul_b (a := D.2.2.2.2 4) (b := D.2.1 i 2) (m := 9) (n := 99) (by omega) (by omega) (by omega) (by omega)
    have hw := wrS_b (D := D) (cs := cs) (dead := S.1.2.2.1) (w := S.1.1) (i := i) (age := (S.2 i).toNat)
    have h2 := mul_b (a := D.2.2.2.2 4 * D.2.1 i 2) (b := wrS D cs S.1.2.2.1 S.1.1 i (S.2 i).toNat) (m := 891) (n := 64) (by omega) (by omega) hw.1 hw.2
    omega
set_option maxRecDepth 20000 in
theorem c_xcostG {M : fmM} {Q : fmR → fmM → Prop} {D : dD} {cs : tC} {S : aS} {i w : Nat} {ag : Int} {z x : Int32} (hD : dOk D) (hX : xdw 3 M D) (hL : lwX M cs) (hs : xst M D S) (ho : stO D S) (hi : i < D.1) (hz : (M.1 47 2 + z).toInt = (w : Int)) (hw : w ≤ 300) (hx : x.toInt = ag) (ha : -1 ≤ ag ∧ ag ≤ 400) (hq : ∀ (M' : fmM) (r : Int64), (∀ k j, k ≠ 26 → M'.1 k j = M.1 k j) → M'.2 = M.2 → r.toInt = coA D cs S.1.2.2.1 w i ag → Q (.inl (some (.long r))) M') : pvGood Tx 3 qX0_costWhen [.ref 32, .ref 47, .int (nI i), .int z, .int x] M Q := by
  refine pvGood_of (Nat.le_of_ble_eq_true rfl) ?_
  show pvEv Tx 3 qX0_costWhen 0 [some (.ref 32), some (.ref 47), some (.int (nI i)), some (.int z), some (.int x)] [] M Q
  have d8 := hD.1
  have hi9 : (nI i).toInt = (i : Int) := nI_toInt (by omega)
  have zm : (-1 : Int32).toInt = -1 := (by decide)
  have b2 := (hD.2.2.1 i hi).2.2.1
  have b3 := hD.2.2.2.2.2.1
  have b4 := hD.2.2.2.2.2.2.1
  have g2 : (M.1 6 i).toInt = D.2.1 i 2 := hX.2.1 i hi 2 (by decide)
  have g3 : (M.1 3 12).toInt = D.2.2.2.2 3 := hX.1.2.2.2.1
  have g4 : (M.1 3 13).toInt = D.2.2.2.2 4 := hX.1.2.2.2.2.1
  refine pv_iload (pc := 0) (i := 4) rfl (fm_dec dtX0_costWhen 0 rfl) ?_
  refine pv_iconst (pc := 2) (v := (-1)) (by decide) (fm_dec dtX0_costWhen 1 rfl) ?_
  refine pv_icmp_ne (pc := 3) 30 (by decide) (fm_dec dtX0_costWhen 2 rfl) (fun hc3 => ?_) (fun hc3 => ?_)
  · have hne : ¬ ag = -1 := (fun h9 => hc3 (i32_ext (by omega)))
    have hxa : x = nI ag.toNat := nI_is (by omega) (by omega)
    subst hxa
    refine pv_aloadn (pc := 30) (n := 0) 0 rfl rfl (fm_dec dtX0_costWhen 17 rfl) ?_
    refine pv_getR (k := 32) (j := 0) (ci := 0) (pc := 31) 3 rfl (by decide) pfl_X0_15 (by decide) rfl (by decide) (fm_dec dtX0_costWhen 18 rfl) ?_
    refine pv_getI (k := 3) (j := 13) (ci := 8) (pc := 34) pfl_X0_68 (by decide) rfl (by decide) (fm_dec dtX0_costWhen 19 rfl) ?_
    refine pv_i2l (pc := 37) (fm_dec dtX0_costWhen 20 rfl) ?_
    refine pv_aloadn (pc := 38) (n := 0) 0 rfl rfl (fm_dec dtX0_costWhen 21 rfl) ?_
    refine pv_getR (k := 32) (j := 0) (ci := 0) (pc := 39) 3 rfl (by decide) pfl_X0_15 (by decide) rfl (by decide) (fm_dec dtX0_costWhen 22 rfl) ?_
    refine pv_getR (k := 3) (j := 2) (ci := 8) (pc := 42) 6 rfl (by decide) pfl_X0_50 (by decide) rfl (by decide) (fm_dec dtX0_costWhen 23 rfl) ?_
    refine pv_iloadn (pc := 45) (n := 2) 2 rfl rfl (fm_dec dtX0_costWhen 24 rfl) ?_
    refine pv_iald (k := 6) (n := 8) (pc := 46) (by decide) rfl rfl (ix_in hi9 (by omega)) (fm_dec dtX0_costWhen 25 rfl) ?_
    rw [i32_cl hi9]
    refine pv_i2l (pc := 47) (fm_dec dtX0_costWhen 26 rfl) ?_
    refine pv_lmul (pc := 48) (fm_dec dtX0_costWhen 27 rfl) ?_
    refine pv_aloadn (pc := 49) (n := 0) 0 rfl rfl (fm_dec dtX0_costWhen 28 rfl) ?_
    refine pv_aloadn (pc := 50) (n := 1) 1 rfl rfl (fm_dec dtX0_costWhen 29 rfl) ?_
    refine pv_iloadn (pc := 51) (n := 2) 2 rfl rfl (fm_dec dtX0_costWhen 30 rfl) ?_
    refine pv_iloadn (pc := 52) (n := 3) 3 rfl rfl (fm_dec dtX0_costWhen 31 rfl) ?_
    refine pv_iload (pc := 53) (i := 4) rfl (fm_dec dtX0_costWhen 32 rfl) ?_
    refine pv_invV4 (k := 32) (d' := 2) (pc := 55) pcv_X0_71 (by decide) rfl (Nat.le_of_ble_eq_true rfl) (by decide) (fm_dec dtX0_costWhen 33 rfl) ?_
    refine c_xwrgG hD hX hL hs ho hi hz hw (by omega) (fun M55 r55 g55 h55 e55 => ?_)
    refine pv_then1 ?_
    refine pv_i2l (pc := 58) (fm_dec dtX0_costWhen 34 rfl) ?_
    refine pv_lmul (pc := 59) (fm_dec dtX0_costWhen 35 rfl) ?_
    exact pv_lreturn (pc := 60) rfl (fm_dec dtX0_costWhen 36 rfl) (hq M55 _ g55 h55 (by have h1 := mul_b (a := D.2.2.2.2 4) (b := D.2.1 i 2) (m := 9) (n := 99) (by omega) (by omega) (by omega) (by omega); have e1 := j64 (x := (M.1 3 13).toInt64) (a := D.2.2.2.2 4) (by rw [Int32.toInt_toInt64]; exact g4) g2 (by omega) (by omega); have hw9 := wrS_b (D := D) (cs := cs) (dead := S.1.2.2.1) (w := w) (i := i) (age := ag.toNat); have h2 := mul_b (a := D.2.2.2.2 4 * D.2.1 i 2) (b := wrS D cs S.1.2.2.1 w i ag.toNat) (m := 891) (n := 64) (by omega) (by omega) hw9.1 hw9.2; rw [j64 e1 e55 (by omega) (by omega)]; unfold coA; rw [if_neg hne]))
  · refine pv_ldc2 (pc := 6) pkc_X0_63 (fm_dec dtX0_costWhen 3 rfl) ?_
    refine pv_aloadn (pc := 9) (n := 0) 0 rfl rfl (fm_dec dtX0_costWhen 4 rfl) ?_
    refine pv_getR (k := 32) (j := 0) (ci := 0) (pc := 10) 3 rfl (by decide) pfl_X0_15 (by decide) rfl (by decide) (fm_dec dtX0_costWhen 5 rfl) ?_
    refine pv_getI (k := 3) (j := 12) (ci := 8) (pc := 13) pfl_X0_65 (by decide) rfl (by decide) (fm_dec dtX0_costWhen 6 rfl) ?_
    refine pv_i2l (pc := 16) (fm_dec dtX0_costWhen 7 rfl) ?_
    refine pv_lmul (pc := 17) (fm_dec dtX0_costWhen 8 rfl) ?_
    refine pv_aloadn (pc := 18) (n := 0) 0 rfl rfl (fm_dec dtX0_costWhen 9 rfl) ?_
    refine pv_getR (k := 32) (j := 0) (ci := 0) (pc := 19) 3 rfl (by decide) pfl_X0_15 (by decide) rfl (by decide) (fm_dec dtX0_costWhen 10 rfl) ?_
    refine pv_getR (k := 3) (j := 2) (ci := 8) (pc := 22) 6 rfl (by decide) pfl_X0_50 (by decide) rfl (by decide) (fm_dec dtX0_costWhen 11 rfl) ?_
    refine pv_iloadn (pc := 25) (n := 2) 2 rfl rfl (fm_dec dtX0_costWhen 12 rfl) ?_
    refine pv_iald (k := 6) (n := 8) (pc := 26) (by decide) rfl rfl (ix_in hi9 (by omega)) (fm_dec dtX0_costWhen 13 rfl) ?_
    rw [i32_cl hi9]
    refine pv_i2l (pc := 27) (fm_dec dtX0_costWhen 14 rfl) ?_
    refine pv_lmul (pc := 28) (fm_dec dtX0_costWhen 15 rfl) ?_
    exact pv_lreturn (pc := 29) rfl (fm_dec dtX0_costWhen 16 rfl) (hq M _ (fun _ _ _ => rfl) rfl (by have h1 := mul_b (a := 64) (b := D.2.2.2.2 3) (m := 64) (n := 9) (by omega) (by omega) (by omega) (by omega); have e1 := j64 (x := 64) (a := 64) (by decide) g3 (by omega) (by omega); have h2 := mul_b (a := 64 * D.2.2.2.2 3) (b := D.2.1 i 2) (m := 576) (n := 99) (by omega) (by omega) (by omega) (by omega); rw [j64 e1 g2 (by omega) (by omega)]; unfold coA; rw [if_pos (by have h9 := congrArg Int32.toInt hc3; omega)]))
theorem c_xcost {M : fmM} {Q : fmR → fmM → Prop} {D : dD} {cs : tC} {S : aS} {i : Nat} {x : Int32} (hD : dOk D) (hX : xdw 3 M D) (hL : lwX M cs) (hs : xst M D S) (ho : stO D S) (hi : i < D.1) (hx : x.toInt = S.2 i) (hq : ∀ (M' : fmM) (r : Int64), (∀ k j, k ≠ 26 → M'.1 k j = M.1 k j) → M'.2 = M.2 → r.toInt = coS D cs S i → Q (.inl (some (.long r))) M') : pvGood Tx 3 qX0_costWhen [.ref 32, .ref 47, .int (nI i), .int 0, .int x] M Q := c_xcostG hD hX hL hs ho hi (wk_z0 hs ho) (by have := ho.1; omega) hx (by have h1 := ho.2.2.2.2.2.2.1 i hi; have h2 := ho.1; omega) hq
/-- nothing but the state and the law's own stack has changed -/
def sFr (M M' : fmM) : Prop := (∀ k j, k ≠ 26 → k ≠ 47 → k ≠ 48 → M'.1 k j = M.1 k j) ∧ (∀ k j, k ≠ 47 → M'.2 k j = M.2 k j)
theorem sFr.refl (M : fmM) : sFr M M := ⟨fun _ _ _ _ _ => rfl, fun _ _ _ => rfl⟩
theorem sFr.trans {M M1 M2 : fmM} (h : sFr M M1) (h' : sFr M1 M2) : sFr M M2 := ⟨fun k j a b c => (h'.1 k j a b c).trans (h.1 k j a b c), fun k j a => (h'.2 k j a).trans (h.2 k j a)⟩
theorem sFr.put {M M1 : fmM} {k j : Nat} {x : Int32} (h : sFr M M1) (hk : k = 47 ∨ k = 48) : sFr M (fmI M1 k j x) := ⟨fun k' j' a b c => by rw [fmI_k _ _ (by omega)]; exact h.1 k' j' a b c, h.2⟩
theorem fmJ_k2 {M : fmM} {k k' j : Nat} {x : Int64} (h : k' ≠ k) : (fmJ M k j x).2 k' = M.2 k' := by
  show (if k' = k then _ else M.2 k') = _
  rw [if_neg h]
theorem fmJ_s2 {M : fmM} {k j : Nat} {x : Int64} : (fmJ M k j x).2 k j = x := by
  show (if k = k then vp_updL (M.2 k) j x else M.2 k) j = x
  rw [if_pos rfl]
  simp [vp_updL]
theorem sFr.putJ {M M1 : fmM} {j : Nat} {x : Int64} (h : sFr M M1) : sFr M (fmJ M1 47 j x) := ⟨h.1, fun k' j' a => by rw [fmJ_k2 a]; exact h.2 k' j' a⟩
theorem xst.low {M M' : fmM} {D : dD} {S : aS} (h : xst M D S) (hk : ∀ k j, k ≠ 26 → M'.1 k j = M.1 k j) (h2 : M'.2 = M.2) : xst M' D S := h.of (fun k j a => hk k j (by omega)) (by rw [h2])
theorem or8n : ∀ w, w < 256 → ∀ k, k < 8 → (nI w ||| (1 : Int32) <<< (nI k &&& 31)).toInt = ((w ||| 1 <<< k : Nat) : Int) := by decide +kernel
def diM (M : fmM) (L : Int64) (i : Nat) (no : Bool) : fmM := if no then fmI (fmI (fmI (fmJ M 47 6 L) 47 4 (M.1 47 4 + 1)) 47 3 (pvMx true 0 (M.1 47 3 - 2))) 47 1 (M.1 47 1 ||| 1 <<< (nI i &&& 31)) else fmI (fmI (fmI (fmJ M 47 6 L) 47 5 (M.1 47 5 + 1)) 48 i (-1)) 47 1 (M.1 47 1 ||| 1 <<< (nI i &&& 31))
theorem di_st {M : fmM} {D : dD} {cs : tC} {S : aS} {i : Nat} {L : Int64} (hD : dOk D) (hs : xst M D S) (ho : stO D S) (hi : i < D.1) (ht : S.1.2.2.1.testBit i = false) (hL : L.toInt = S.1.2.2.2.2.2 + coS D cs S i) : ∃ S', diS D cs S i = some S' ∧ xst (diM M L i (decide (S.2 i = -1))) D S' := by
  obtain ⟨a, b, c, d, e, f, g⟩ := hs
  have d8 := hD.1
  have p8 := pop8_le _ ho.2.2.1
  have hp := ho.2.2.2.1
  have h12 := ho.2.1
  have z0 : (0 : Int32).toInt = 0 := by decide
  have z1 : (1 : Int32).toInt = 1 := by decide
  have z2 : (2 : Int32).toInt = 2 := by decide
  have e1 : M.1 47 1 = nI S.1.2.2.1 := nI_is a (by have := ho.2.2.1; omega)
  have eo : (M.1 47 1 ||| 1 <<< (nI i &&& 31)).toInt = ((S.1.2.2.1 ||| 1 <<< i : Nat) : Int) := by rw [e1]; exact or8n _ ho.2.2.1 i (by omega)
  unfold diS
  rw [if_neg (by rw [ht]; decide)]
  by_cases hm : S.2 i = -1
  · rw [if_pos hm]
    refine ⟨_, rfl, ?_⟩
    have e9 : diM M L i (decide (S.2 i = -1)) = fmI (fmI (fmI (fmJ M 47 6 L) 47 4 (M.1 47 4 + 1)) 47 3 (pvMx true 0 (M.1 47 3 - 2))) 47 1 (M.1 47 1 ||| 1 <<< (nI i &&& 31)) := by
      unfold diM
      rw [if_pos (decide_eq_true hm)]
    rw [e9]
    refine ⟨eo, b, ?_, ?_, e, ?_, fun j hj => g j hj⟩
    · show (pvMx true 0 (M.1 47 3 - 2)).toInt = ((S.1.2.1 - 2 : Nat) : Int)
      rw [mxt, sc_sub (by omega) (by omega), z0, z2, c]
      omega
    · show (M.1 47 4 + 1).toInt = ((S.1.2.2.2.1 + 1 : Nat) : Int)
      rw [sc_add (by omega) (by omega)]
      omega
    · show ((fmJ M 47 6 L).2 47 6).toInt = _
      rw [fmJ_s2]
      exact hL
  · rw [if_neg hm]
    refine ⟨_, rfl, ?_⟩
    have e9 : diM M L i (decide (S.2 i = -1)) = fmI (fmI (fmI (fmJ M 47 6 L) 47 5 (M.1 47 5 + 1)) 48 i (-1)) 47 1 (M.1 47 1 ||| 1 <<< (nI i &&& 31)) := by
      unfold diM
      rw [if_neg (by rw [decide_eq_true_eq]; exact hm)]
    rw [e9]
    refine ⟨eo, b, c, d, ?_, ?_, fun j hj => ?_⟩
    · show (M.1 47 5 + 1).toInt = ((S.1.2.2.2.2.1 + 1 : Nat) : Int)
      rw [sc_add (by omega) (by omega)]
      omega
    · show ((fmJ M 47 6 L).2 47 6).toInt = _
      rw [fmJ_s2]
      exact hL
    · rw [fmI_k _ _ (by decide), fmI_at]
      by_cases e0 : j = i
      · subst e0
        rw [if_pos ⟨rfl, rfl⟩]
        show (-1 : Int32).toInt = if j = j then -1 else S.2 j
        rw [if_pos rfl]
        decide
      · rw [if_neg (by omega), fmI_k _ _ (by decide)]
        show _ = if j = i then -1 else S.2 j
        rw [if_neg e0]
        exact g j hj
theorem di_fr {M0 M : fmM} {L : Int64} {i : Nat} {no : Bool} (h : sFr M0 M) : sFr M0 (diM M L i no) := by
  unfold diM
  split
  · exact ((h.putJ.put (Or.inl rfl)).put (Or.inl rfl)).put (Or.inl rfl)
  · exact ((h.putJ.put (Or.inl rfl)).put (Or.inr rfl)).put (Or.inl rfl)
set_option maxRecDepth 20000 in
theorem c_xdie {M : fmM} {Q : fmR → fmM → Prop} {D : dD} {cs : tC} {S : aS} {i : Nat} (hD : dOk D) (hX : xdw 3 M D) (hL : lwX M cs) (hs : xst M D S) (ho : stO D S) (hi : i < D.1) (hn : diS D cs S i = none → Q (.inl (some (.int 0))) M) (hq : ∀ (M' : fmM) (S' : aS), diS D cs S i = some S' → xst M' D S' → sFr M M' → Q (.inl (some (.int 1))) M') : pvGood Tx 4 qX0_letDie [.ref 32, .ref 47, .int (nI i)] M Q := by
  refine pvGood_of (Nat.le_of_ble_eq_true rfl) ?_
  show pvEv Tx 4 qX0_letDie 0 [some (.ref 32), some (.ref 47), some (.int (nI i))] [] M Q
  have d8 := hD.1
  have hi9 : (nI i).toInt = (i : Int) := nI_toInt (by omega)
  have g48 := hs.2.2.2.2.2.2 i hi
  have zm : (-1 : Int32).toInt = -1 := (by decide)
  refine pv_aloadn (pc := 0) (n := 1) 1 rfl rfl (fm_dec dtX0_letDie 0 rfl) ?_
  refine pv_iloadn (pc := 1) (n := 2) 2 rfl rfl (fm_dec dtX0_letDie 1 rfl) ?_
  refine pv_invV1 (k := 47) (d' := 0) (pc := 2) pcv_X0_38 (by decide) rfl (Nat.le_of_ble_eq_true rfl) (by decide) (fm_dec dtX0_letDie 2 rfl) ?_
  refine c_xaliv hs ho (by omega) ?_
  refine pv_then1 ?_
  refine pv_if_ne (pc := 5) 10 (by decide) (fm_dec dtX0_letDie 3 rfl) (fun hc5 => ?_) (fun hc5 => ?_)
  · refine pv_aloadn (pc := 10) (n := 1) 1 rfl rfl (fm_dec dtX0_letDie 6 rfl) ?_
    refine pv_dup (pc := 11) rfl (fm_dec dtX0_letDie 7 rfl) ?_
    refine pv_getJ (k := 47) (j := 6) (ci := 6) (pc := 12) pfl_X0_118 (by decide) rfl (by decide) (fm_dec dtX0_letDie 8 rfl) ?_
    refine pv_aloadn (pc := 15) (n := 0) 0 rfl rfl (fm_dec dtX0_letDie 9 rfl) ?_
    refine pv_aloadn (pc := 16) (n := 1) 1 rfl rfl (fm_dec dtX0_letDie 10 rfl) ?_
    refine pv_iloadn (pc := 17) (n := 2) 2 rfl rfl (fm_dec dtX0_letDie 11 rfl) ?_
    refine pv_iconst (pc := 18) (v := 0) (by decide) (fm_dec dtX0_letDie 12 rfl) ?_
    refine pv_aloadn (pc := 19) (n := 1) 1 rfl rfl (fm_dec dtX0_letDie 13 rfl) ?_
    refine pv_getR (k := 47) (j := 0) (ci := 6) (pc := 20) 48 rfl (by decide) pfl_X0_78 (by decide) rfl (by decide) (fm_dec dtX0_letDie 14 rfl) ?_
    refine pv_iloadn (pc := 23) (n := 2) 2 rfl rfl (fm_dec dtX0_letDie 15 rfl) ?_
    refine pv_iald (k := 48) (n := 8) (pc := 24) (by decide) rfl rfl (ix_in hi9 (by omega)) (fm_dec dtX0_letDie 16 rfl) ?_
    rw [i32_cl hi9]
    refine pv_invV4 (k := 32) (d' := 3) (pc := 25) pcv_X0_84 (by decide) rfl (Nat.le_of_ble_eq_true rfl) (by decide) (fm_dec dtX0_letDie 17 rfl) ?_
    refine c_xcost hD hX hL hs ho hi g48 (fun M25 r25 g25 h25 e25 => ?_)
    refine pv_then1 ?_
    have hs25 : xst M25 D S := hs.low g25 h25
    have hL9 : (M.2 47 6 + r25).toInt = S.1.2.2.2.2.2 + coS D cs S i := (by have h9 := coS_b (cs := cs) (S := S) hD hi; have p8 := pop8_le _ ho.2.2.1; have l1 := ho.2.2.2.2.1; have l2 := ho.2.2.2.2.2.1; rw [Int64.toInt_add, hs.2.2.2.2.2.1, e25]; exact Int.bmod_eq_of_le (by omega) (by omega))
    refine pv_ladd (pc := 28) (fm_dec dtX0_letDie 18 rfl) ?_
    refine pv_putJ (k := 47) (j := 6) (ci := 6) (pc := 29) pfl_X0_118 (by decide) rfl (by decide) (fm_dec dtX0_letDie 19 rfl) ?_
    refine pv_aloadn (pc := 32) (n := 1) 1 rfl rfl (fm_dec dtX0_letDie 20 rfl) ?_
    refine pv_getR (k := 47) (j := 0) (ci := 6) (pc := 33) 48 rfl (by decide) pfl_X0_78 (by decide) rfl (by decide) (fm_dec dtX0_letDie 21 rfl) ?_
    refine pv_iloadn (pc := 36) (n := 2) 2 rfl rfl (fm_dec dtX0_letDie 22 rfl) ?_
    refine pv_iald (k := 48) (n := 8) (pc := 37) (by decide) rfl rfl (ix_in hi9 (by omega)) (fm_dec dtX0_letDie 23 rfl) ?_
    rw [i32_cl hi9]
    have g48b : (M25.1 48 i).toInt = S.2 i := hs25.2.2.2.2.2.2 i hi
    obtain ⟨S9, e9, h9⟩ := di_st (L := M.2 47 6 + r25) (cs := cs) hD hs25 ho hi (by cases h8 : S.1.2.2.1.testBit i with | false => rfl | true => rw [h8] at hc5; exact absurd rfl hc5) hL9
    have f9 : sFr M (diM M25 (M.2 47 6 + r25) i (decide (S.2 i = -1))) := di_fr ⟨fun k j a b c => g25 k j a, fun k j a => by rw [h25]⟩
    refine pv_iconst (pc := 38) (v := (-1)) (by decide) (fm_dec dtX0_letDie 24 rfl) ?_
    refine pv_icmp_ne (pc := 39) 69 (by decide) (fm_dec dtX0_letDie 25 rfl) (fun hc39 => ?_) (fun hc39 => ?_)
    · refine pv_aloadn (pc := 69) (n := 1) 1 rfl rfl (fm_dec dtX0_letDie 41 rfl) ?_
      refine pv_dup (pc := 70) rfl (fm_dec dtX0_letDie 42 rfl) ?_
      refine pv_getI (k := 47) (j := 5) (ci := 6) (pc := 71) pfl_X0_128 (by decide) rfl (by decide) (fm_dec dtX0_letDie 43 rfl) ?_
      refine pv_iconst (pc := 74) (v := 1) (by decide) (fm_dec dtX0_letDie 44 rfl) ?_
      refine pv_iadd (pc := 75) (fm_dec dtX0_letDie 45 rfl) ?_
      refine pv_putI (k := 47) (j := 5) (ci := 6) (pc := 76) pfl_X0_128 (by decide) rfl (by decide) (fm_dec dtX0_letDie 46 rfl) ?_
      refine pv_aloadn (pc := 79) (n := 1) 1 rfl rfl (fm_dec dtX0_letDie 47 rfl) ?_
      refine pv_getR (k := 47) (j := 0) (ci := 6) (pc := 80) 48 rfl (by decide) pfl_X0_78 (by decide) rfl (by decide) (fm_dec dtX0_letDie 48 rfl) ?_
      refine pv_iloadn (pc := 83) (n := 2) 2 rfl rfl (fm_dec dtX0_letDie 49 rfl) ?_
      refine pv_iconst (pc := 84) (v := (-1)) (by decide) (fm_dec dtX0_letDie 50 rfl) ?_
      refine pv_iast (k := 48) (n := 8) (pc := 85) (by decide) rfl rfl (ix_in hi9 (by omega)) (fm_dec dtX0_letDie 51 rfl) ?_
      rw [i32_cl hi9]
      refine pv_aloadn (pc := 86) (n := 1) 1 rfl rfl (fm_dec dtX0_letDie 52 rfl) ?_
      refine pv_dup (pc := 87) rfl (fm_dec dtX0_letDie 53 rfl) ?_
      refine pv_getI (k := 47) (j := 1) (ci := 6) (pc := 88) pfl_X0_131 (by decide) rfl (by decide) (fm_dec dtX0_letDie 54 rfl) ?_
      refine pv_iconst (pc := 91) (v := 1) (by decide) (fm_dec dtX0_letDie 55 rfl) ?_
      refine pv_iloadn (pc := 92) (n := 2) 2 rfl rfl (fm_dec dtX0_letDie 56 rfl) ?_
      refine pv_ishl (pc := 93) (fm_dec dtX0_letDie 57 rfl) ?_
      refine pv_ior (pc := 94) (fm_dec dtX0_letDie 58 rfl) ?_
      refine pv_putI (k := 47) (j := 1) (ci := 6) (pc := 95) pfl_X0_131 (by decide) rfl (by decide) (fm_dec dtX0_letDie 59 rfl) ?_
      refine pv_iconst (pc := 98) (v := 1) (by decide) (fm_dec dtX0_letDie 60 rfl) ?_
      exact pv_zreturn (pc := 99) rfl (by first | exact Or.inr rfl | exact Or.inl rfl) (fm_dec dtX0_letDie 61 rfl) (by have hm : ¬ S.2 i = -1 := (fun h8 => hc39 (i32_ext (by show (M25.1 48 i).toInt = _; omega))); have e8 : diM M25 (M.2 47 6 + r25) i (decide (S.2 i = -1)) = fmI (fmI (fmI (fmJ M25 47 6 (M.2 47 6 + r25)) 47 5 (M25.1 47 5 + 1)) 48 i (-1)) 47 1 (M25.1 47 1 ||| 1 <<< (nI i &&& 31)) := (by unfold diM; rw [if_neg (by rw [decide_eq_true_eq]; exact hm)]); rw [e8] at h9 f9; exact hq _ S9 e9 h9 f9)
    · refine pv_aloadn (pc := 42) (n := 1) 1 rfl rfl (fm_dec dtX0_letDie 26 rfl) ?_
      refine pv_dup (pc := 43) rfl (fm_dec dtX0_letDie 27 rfl) ?_
      refine pv_getI (k := 47) (j := 4) (ci := 6) (pc := 44) pfl_X0_122 (by decide) rfl (by decide) (fm_dec dtX0_letDie 28 rfl) ?_
      refine pv_iconst (pc := 47) (v := 1) (by decide) (fm_dec dtX0_letDie 29 rfl) ?_
      refine pv_iadd (pc := 48) (fm_dec dtX0_letDie 30 rfl) ?_
      refine pv_putI (k := 47) (j := 4) (ci := 6) (pc := 49) pfl_X0_122 (by decide) rfl (by decide) (fm_dec dtX0_letDie 31 rfl) ?_
      refine pv_aloadn (pc := 52) (n := 1) 1 rfl rfl (fm_dec dtX0_letDie 32 rfl) ?_
      refine pv_iconst (pc := 53) (v := 0) (by decide) (fm_dec dtX0_letDie 33 rfl) ?_
      refine pv_aloadn (pc := 54) (n := 1) 1 rfl rfl (fm_dec dtX0_letDie 34 rfl) ?_
      refine pv_getI (k := 47) (j := 3) (ci := 6) (pc := 55) pfl_X0_116 (by decide) rfl (by decide) (fm_dec dtX0_letDie 35 rfl) ?_
      refine pv_iconst (pc := 58) (v := 2) (by decide) (fm_dec dtX0_letDie 36 rfl) ?_
      refine pv_isub (pc := 59) (fm_dec dtX0_letDie 37 rfl) ?_
      refine pv_mm (pc := 60) pmm_X0_125 (by decide) (Nat.le_of_ble_eq_true rfl) (fm_dec dtX0_letDie 38 rfl) ?_
      refine pv_putI (k := 47) (j := 3) (ci := 6) (pc := 63) pfl_X0_116 (by decide) rfl (by decide) (fm_dec dtX0_letDie 39 rfl) ?_
      refine pv_goto (pc := 66) 86 (by decide) (fm_dec dtX0_letDie 40 rfl) ?_
      refine pv_aloadn (pc := 86) (n := 1) 1 rfl rfl (fm_dec dtX0_letDie 52 rfl) ?_
      refine pv_dup (pc := 87) rfl (fm_dec dtX0_letDie 53 rfl) ?_
      refine pv_getI (k := 47) (j := 1) (ci := 6) (pc := 88) pfl_X0_131 (by decide) rfl (by decide) (fm_dec dtX0_letDie 54 rfl) ?_
      refine pv_iconst (pc := 91) (v := 1) (by decide) (fm_dec dtX0_letDie 55 rfl) ?_
      refine pv_iloadn (pc := 92) (n := 2) 2 rfl rfl (fm_dec dtX0_letDie 56 rfl) ?_
      refine pv_ishl (pc := 93) (fm_dec dtX0_letDie 57 rfl) ?_
      refine pv_ior (pc := 94) (fm_dec dtX0_letDie 58 rfl) ?_
      refine pv_putI (k := 47) (j := 1) (ci := 6) (pc := 95) pfl_X0_131 (by decide) rfl (by decide) (fm_dec dtX0_letDie 59 rfl) ?_
      refine pv_iconst (pc := 98) (v := 1) (by decide) (fm_dec dtX0_letDie 60 rfl) ?_
      exact pv_zreturn (pc := 99) rfl (by first | exact Or.inr rfl | exact Or.inl rfl) (fm_dec dtX0_letDie 61 rfl) (by have hm : S.2 i = -1 := (by have h8 := congrArg Int32.toInt hc39; have h7 : (M25.1 48 i).toInt = -1 := h8.trans zm; omega); have e8 : diM M25 (M.2 47 6 + r25) i (decide (S.2 i = -1)) = fmI (fmI (fmI (fmJ M25 47 6 (M.2 47 6 + r25)) 47 4 (M25.1 47 4 + 1)) 47 3 (pvMx true 0 (M25.1 47 3 - 2))) 47 1 (M25.1 47 1 ||| 1 <<< (nI i &&& 31)) := (by unfold diM; rw [if_pos (decide_eq_true hm)]); rw [e8] at h9 f9; exact hq _ S9 e9 h9 f9)
  · refine pv_iconst (pc := 8) (v := 0) (by decide) (fm_dec dtX0_letDie 4 rfl) ?_
    exact pv_zreturn (pc := 9) rfl (by first | exact Or.inr rfl | exact Or.inl rfl) (fm_dec dtX0_letDie 5 rfl) (hn (if_pos (by cases h8 : S.1.2.2.1.testBit i with | true => rfl | false => rw [h8] at hc5; exact absurd hc5 (by decide))))
/-- a week has passed for the first n lives -/
def wkP (D : dD) (S : aS) (n : Nat) (M0 M : fmM) : Prop := (M.1 47 1 = M0.1 47 1 ∧ M.1 47 2 = M0.1 47 2 ∧ M.1 47 3 = M0.1 47 3 ∧ M.1 47 4 = M0.1 47 4 ∧ M.1 47 5 = M0.1 47 5 ∧ M.2 = M0.2) ∧ (∀ i, i < D.1 → (M.1 48 i).toInt = if i < n then (if S.2 i = -1 then -1 else S.2 i + 1) else S.2 i) ∧ ∀ k j, k ≠ 47 → k ≠ 48 → M.1 k j = M0.1 k j
set_option maxRecDepth 20000 in
theorem xwe_loop {Q : fmR → fmM → Prop} {M0 : fmM} {D : dD} {S : aS} (hD : dOk D) (hX : xdw 3 M0 D) (ho : stO D S) (hq : ∀ M' : fmM, wkP D S D.1 M0 M' → Q (.inl (some (.int 1))) M') : ∀ (m : Nat) (n : Nat) (M : fmM), n ≤ D.1 → D.1 - n = m → wkP D S n M0 M → pvEv Tx 0 qX0_passWeek 35 [some (.ref 32), some (.ref 47), some (.int (nI n))] [] M Q := by
  intro m
  induction m using Nat.strongRecOn with
  | _ m ih =>
    intro n M hnD hm hP
    have d8 := hD.1
    have hn9 : (nI n).toInt = (n : Int) := nI_toInt (by omega)
    refine pv_iloadn (pc := 35) (n := 2) 2 rfl rfl (fm_dec dtX0_passWeek 19 rfl) ?_
    refine pv_aloadn (pc := 36) (n := 0) 0 rfl rfl (fm_dec dtX0_passWeek 20 rfl) ?_
    refine pv_getR (k := 32) (j := 0) (ci := 0) (pc := 37) 3 rfl (by decide) pfl_X0_15 (by decide) rfl (by decide) (fm_dec dtX0_passWeek 21 rfl) ?_
    refine pv_getI (k := 3) (j := 9) (ci := 8) (pc := 40) pfl_X0_75 (by decide) rfl (by decide) (fm_dec dtX0_passWeek 22 rfl) ?_
    refine pv_icmp_ge (pc := 43) 72 (by decide) (fm_dec dtX0_passWeek 23 rfl) (fun hc43 => ?_) (fun hc43 => ?_)
    · refine pv_iconst (pc := 72) (v := 1) (by decide) (fm_dec dtX0_passWeek 40 rfl) ?_
      exact pv_zreturn (pc := 73) rfl (by first | exact Or.inr rfl | exact Or.inl rfl) (fm_dec dtX0_passWeek 41 rfl) (hq M (by have e9 : n = D.1 := (by have h9 : (M.1 3 9).toInt = (D.1 : Int) := (by rw [hP.2.2 3 9 (by decide) (by decide)]; exact hX.1.1); rw [sc_le] at hc43; omega); subst e9; exact hP))
    · have hn : n < D.1 := (by have h9 : (M.1 3 9).toInt = (D.1 : Int) := (by rw [hP.2.2 3 9 (by decide) (by decide)]; exact hX.1.1); rw [sc_le] at hc43; omega)
      have g48 := hP.2.1 n hn
      rw [if_neg (Nat.lt_irrefl n)] at g48
      have bs := ho.2.2.2.2.2.2.1 n hn
      have w2 := ho.1
      refine pv_aloadn (pc := 46) (n := 1) 1 rfl rfl (fm_dec dtX0_passWeek 24 rfl) ?_
      refine pv_getR (k := 47) (j := 0) (ci := 6) (pc := 47) 48 rfl (by decide) pfl_X0_78 (by decide) rfl (by decide) (fm_dec dtX0_passWeek 25 rfl) ?_
      refine pv_iloadn (pc := 50) (n := 2) 2 rfl rfl (fm_dec dtX0_passWeek 26 rfl) ?_
      refine pv_iald (k := 48) (n := 8) (pc := 51) (by decide) rfl rfl (ix_in hn9 (by omega)) (fm_dec dtX0_passWeek 27 rfl) ?_
      rw [i32_cl hn9]
      refine pv_iconst (pc := 52) (v := (-1)) (by decide) (fm_dec dtX0_passWeek 28 rfl) ?_
      refine pv_icmp_eq (pc := 53) 66 (by decide) (fm_dec dtX0_passWeek 29 rfl) (fun hc53 => ?_) (fun hc53 => ?_)
      · refine pv_iincc (pc := 66) 2 1 (by decide) rfl (by decide) rfl (fm_dec dtX0_passWeek 38 rfl) ?_
        dsimp only [List.set_cons_zero, List.set_cons_succ]
        refine pv_goto (pc := 69) 35 (by decide) (fm_dec dtX0_passWeek 39 rfl) ?_
        have hm : S.2 n = -1 := (by have h9 := congrArg Int32.toInt hc53; have zm : (-1 : Int32).toInt = -1 := (by decide); omega)
        rw [nI_succ1]
        exact ih (D.1 - (n + 1)) (by omega) (n + 1) _ (by omega) rfl ⟨hP.1, fun i hi => (by by_cases e : i = n; (subst e; rw [if_pos (Nat.lt_succ_self _), if_pos hm]; omega); (rw [hP.2.1 i hi]; by_cases e2 : i < n; rw [if_pos e2, if_pos (show i < n + 1 by omega)]; rw [if_neg e2, if_neg (show ¬ i < n + 1 by omega)])), hP.2.2⟩
      · refine pv_aloadn (pc := 56) (n := 1) 1 rfl rfl (fm_dec dtX0_passWeek 30 rfl) ?_
        refine pv_getR (k := 47) (j := 0) (ci := 6) (pc := 57) 48 rfl (by decide) pfl_X0_78 (by decide) rfl (by decide) (fm_dec dtX0_passWeek 31 rfl) ?_
        refine pv_iloadn (pc := 60) (n := 2) 2 rfl rfl (fm_dec dtX0_passWeek 32 rfl) ?_
        refine pv_dup2 (pc := 61) rfl rfl (fm_dec dtX0_passWeek 33 rfl) ?_
        refine pv_iald (k := 48) (n := 8) (pc := 62) (by decide) rfl rfl (ix_in hn9 (by omega)) (fm_dec dtX0_passWeek 34 rfl) ?_
        rw [i32_cl hn9]
        refine pv_iconst (pc := 63) (v := 1) (by decide) (fm_dec dtX0_passWeek 35 rfl) ?_
        refine pv_iadd (pc := 64) (fm_dec dtX0_passWeek 36 rfl) ?_
        refine pv_iast (k := 48) (n := 8) (pc := 65) (by decide) rfl rfl (ix_in hn9 (by omega)) (fm_dec dtX0_passWeek 37 rfl) ?_
        rw [i32_cl hn9]
        refine pv_iincc (pc := 66) 2 1 (by decide) rfl (by decide) rfl (fm_dec dtX0_passWeek 38 rfl) ?_
        dsimp only [List.set_cons_zero, List.set_cons_succ]
        refine pv_goto (pc := 69) 35 (by decide) (fm_dec dtX0_passWeek 39 rfl) ?_
        have hm : ¬ S.2 n = -1 := (fun h9 => hc53 (i32_ext (by have zm : (-1 : Int32).toInt = -1 := (by decide); omega)))
        rw [nI_succ1]
        exact ih (D.1 - (n + 1)) (by omega) (n + 1) _ (by omega) rfl ⟨⟨hP.1.1, hP.1.2.1, hP.1.2.2.1, hP.1.2.2.2.1, hP.1.2.2.2.2.1, hP.1.2.2.2.2.2⟩, fun i hi => (by rw [fmI_at]; by_cases e : i = n; (subst e; rw [if_pos ⟨rfl, rfl⟩, if_pos (Nat.lt_succ_self _), if_neg hm]; have z1 : (1 : Int32).toInt = 1 := (by decide); rw [sc_add (by omega) (by omega)]; omega); (rw [if_neg (by omega), hP.2.1 i hi]; by_cases e2 : i < n; rw [if_pos e2, if_pos (show i < n + 1 by omega)]; rw [if_neg e2, if_neg (show ¬ i < n + 1 by omega)])), fun k j a b => (by rw [fmI_k _ _ b]; exact hP.2.2 k j a b)⟩
set_option maxRecDepth 20000 in
theorem c_xweek {M : fmM} {Q : fmR → fmM → Prop} {D : dD} {S : aS} (hD : dOk D) (hX : xdw 3 M D) (hs : xst M D S) (ho : stO D S) (hn : weS D S = none → Q (.inl (some (.int 0))) M) (hq : ∀ (M' : fmM) (S' : aS), weS D S = some S' → xst M' D S' → sFr M M' → Q (.inl (some (.int 1))) M') : pvGood Tx 0 qX0_passWeek [.ref 32, .ref 47] M Q := by
  refine pvGood_of (Nat.le_of_ble_eq_true rfl) ?_
  show pvEv Tx 0 qX0_passWeek 0 [some (.ref 32), some (.ref 47), none] [] M Q
  have z200 : (200 : Int32).toInt = 200 := (by decide)
  have g2 := hs.2.1
  have w2 := ho.1
  have b2 := hD.2.2.2.2.1
  refine pv_aloadn (pc := 0) (n := 1) 1 rfl rfl (fm_dec dtX0_passWeek 0 rfl) ?_
  refine pv_getI (k := 47) (j := 2) (ci := 6) (pc := 1) pfl_X0_29 (by decide) rfl (by decide) (fm_dec dtX0_passWeek 1 rfl) ?_
  refine pv_sipush (pc := 4) (v := 200) (by decide) (fm_dec dtX0_passWeek 2 rfl) ?_
  refine pv_icmp_lt (pc := 7) 12 (by decide) (fm_dec dtX0_passWeek 3 rfl) (fun hc7 => ?_) (fun hc7 => ?_)
  · refine pv_aloadn (pc := 12) (n := 1) 1 rfl rfl (fm_dec dtX0_passWeek 6 rfl) ?_
    refine pv_dup (pc := 13) rfl (fm_dec dtX0_passWeek 7 rfl) ?_
    refine pv_getI (k := 47) (j := 2) (ci := 6) (pc := 14) pfl_X0_29 (by decide) rfl (by decide) (fm_dec dtX0_passWeek 8 rfl) ?_
    refine pv_iconst (pc := 17) (v := 1) (by decide) (fm_dec dtX0_passWeek 9 rfl) ?_
    refine pv_iadd (pc := 18) (fm_dec dtX0_passWeek 10 rfl) ?_
    refine pv_putI (k := 47) (j := 2) (ci := 6) (pc := 19) pfl_X0_29 (by decide) rfl (by decide) (fm_dec dtX0_passWeek 11 rfl) ?_
    refine pv_aloadn (pc := 22) (n := 1) 1 rfl rfl (fm_dec dtX0_passWeek 12 rfl) ?_
    refine pv_aloadn (pc := 23) (n := 0) 0 rfl rfl (fm_dec dtX0_passWeek 13 rfl) ?_
    refine pv_getR (k := 32) (j := 0) (ci := 0) (pc := 24) 3 rfl (by decide) pfl_X0_15 (by decide) rfl (by decide) (fm_dec dtX0_passWeek 14 rfl) ?_
    refine pv_getI (k := 3) (j := 11) (ci := 8) (pc := 27) pfl_X0_134 (by decide) rfl (by decide) (fm_dec dtX0_passWeek 15 rfl) ?_
    refine pv_putI (k := 47) (j := 3) (ci := 6) (pc := 30) pfl_X0_116 (by decide) rfl (by decide) (fm_dec dtX0_passWeek 16 rfl) ?_
    refine pv_iconst (pc := 33) (v := 0) (by decide) (fm_dec dtX0_passWeek 17 rfl) ?_
    refine pv_istoren (pc := 34) (n := 2) 2 rfl (by decide) rfl (fm_dec dtX0_passWeek 18 rfl) ?_
    dsimp only [List.set_cons_zero, List.set_cons_succ]
    have hlt : S.1.1 < 200 := (by rw [sc_lt] at hc7; omega)
    refine xwe_loop (M0 := fmI (fmI M 47 2 (M.1 47 2 + 1)) 47 3 (M.1 3 11)) (S := S) hD (hX.of (fun k j a b => by rw [fmI_k _ _ (by omega), fmI_k _ _ (by omega)])) ho (fun M' hP => ?_) D.1 0 _ (by omega) (by omega) ⟨⟨rfl, rfl, rfl, rfl, rfl, rfl⟩, fun i hi => (by rw [if_neg (Nat.not_lt_zero i)]; exact hs.2.2.2.2.2.2 i hi), fun k j a b => rfl⟩
    refine hq M' _ (if_neg (by omega)) ⟨by rw [hP.1.1]; exact hs.1, ?_, ?_, by rw [hP.1.2.2.2.1]; exact hs.2.2.2.1, by rw [hP.1.2.2.2.2.1]; exact hs.2.2.2.2.1, by rw [hP.1.2.2.2.2.2]; exact hs.2.2.2.2.2.1, fun i hi => (by rw [hP.2.1 i hi, if_pos hi])⟩ ⟨fun k j _ a b => (by rw [hP.2.2 k j a b, fmI_k _ _ a, fmI_k _ _ a]), fun k j a => by rw [hP.1.2.2.2.2.2]; rfl⟩
    · rw [hP.1.2.1]
      show (M.1 47 2 + 1).toInt = ((S.1.1 + 1 : Nat) : Int)
      exact i32_p1 g2 (by omega)
    · rw [hP.1.2.2.1]
      show (M.1 3 11).toInt = (((D.2.2.2.2 2).toNat : Nat) : Int)
      have g11 : (M.1 3 11).toInt = D.2.2.2.2 2 := hX.1.2.2.1
      omega
  · refine pv_iconst (pc := 10) (v := 0) (by decide) (fm_dec dtX0_passWeek 4 rfl) ?_
    exact pv_zreturn (pc := 11) rfl (by first | exact Or.inr rfl | exact Or.inl rfl) (fm_dec dtX0_passWeek 5 rfl) (hn (if_pos (by rw [sc_lt] at hc7; omega)))
theorem do_ok {D : dD} {cs : tC} {S S' : aS} {k i : Nat} (hD : dOk D) (ho : stO D S) (hi : k < 3 → i < D.1) (h : doS D cs S k i = some S') : stO D S' := by
  obtain ⟨w2, h12, hd, hp, l1, l2, ha, hd2⟩ := ho
  have pu : ∀ S' : aS, i < D.1 → puS D S i = some S' → stO D S' := fun S' hi h => by
    unfold puS at h
    split at h
    · cases h
    · cases h
      refine ⟨w2, ?_, hd, hp, l1, l2, ⟨fun j hj => ?_, hd2⟩⟩
      · show S.1.2.1 - hoS D S i ≤ 12
        omega
      · show -1 ≤ (if j = i then (0 : Int) else S.2 j) ∧ (if j = i then (0 : Int) else S.2 j) ≤ (S.1.1 : Int) + 40
        have := ha j hj
        split <;> omega
  have di : ∀ S' : aS, i < D.1 → diS D cs S i = some S' → stO D S' := fun S' hi h => by
    have d8 := hD.1
    have hc := coS_b (cs := cs) (S := S) hD hi
    unfold diS at h
    split at h
    · cases h
    · rename_i ht
      have ht : S.1.2.2.1.testBit i = false := by simpa using ht
      have hpa := pop8_add _ hd i (by omega) ht
      have hd3 : S.1.2.2.1 ||| 1 <<< i < 2 ^ D.1 := Nat.or_lt_two_pow hd2 (by rw [Nat.shiftLeft_eq, Nat.one_mul]; exact Nat.pow_lt_pow_right (by decide) hi)
      split at h
      · cases h
        refine ⟨w2, ?_, hpa.2, ?_, ?_, ?_, ⟨fun j hj => ha j hj, hd3⟩⟩
        · show S.1.2.1 - 2 ≤ 12
          omega
        · show S.1.2.2.2.1 + 1 + S.1.2.2.2.2.1 = pop8 (S.1.2.2.1 ||| 1 <<< i)
          omega
        · show 0 ≤ S.1.2.2.2.2.2 + coS D cs S i
          omega
        · show S.1.2.2.2.2.2 + coS D cs S i ≤ 57024 * ((pop8 (S.1.2.2.1 ||| 1 <<< i) : Nat) : Int)
          rw [hpa.1]
          omega
      · cases h
        refine ⟨w2, h12, hpa.2, ?_, ?_, ?_, ⟨fun j hj => ?_, hd3⟩⟩
        · show S.1.2.2.2.1 + (S.1.2.2.2.2.1 + 1) = pop8 (S.1.2.2.1 ||| 1 <<< i)
          omega
        · show 0 ≤ S.1.2.2.2.2.2 + coS D cs S i
          omega
        · show S.1.2.2.2.2.2 + coS D cs S i ≤ 57024 * ((pop8 (S.1.2.2.1 ||| 1 <<< i) : Nat) : Int)
          rw [hpa.1]
          omega
        · show -1 ≤ (if j = i then (-1 : Int) else S.2 j) ∧ (if j = i then (-1 : Int) else S.2 j) ≤ (S.1.1 : Int) + 40
          have := ha j hj
          split <;> omega
  have we : ∀ S' : aS, weS D S = some S' → stO D S' := fun S' h => by
    have b2 := hD.2.2.2.2.1
    unfold weS at h
    split at h
    · cases h
    · cases h
      refine ⟨?_, ?_, hd, hp, l1, l2, ⟨fun j hj => ?_, hd2⟩⟩
      · show S.1.1 + 1 ≤ 200
        omega
      · show (D.2.2.2.2 2).toNat ≤ 12
        omega
      · show -1 ≤ (if S.2 j = -1 then (-1 : Int) else S.2 j + 1) ∧ (if S.2 j = -1 then (-1 : Int) else S.2 j + 1) ≤ ((S.1.1 + 1 : Nat) : Int) + 40
        have := ha j hj
        split <;> omega
  unfold doS at h
  split at h
  · split at h
    · exact pu S' (hi (by decide)) h
    · cases h
  · split at h
    · cases h
    · exact pu S' (hi (by decide)) h
  · exact di S' (hi (by decide)) h
  · exact we S' h
theorem pu_fr {M : fmM} {i : Nat} {h : Int32} : sFr M (puM2 M i h) := ((sFr.refl M).put (Or.inl rfl)).put (Or.inr rfl)
set_option maxRecDepth 20000 in
theorem c_xps0 {M : fmM} {Q : fmR → fmM → Prop} {D : dD} {cs : tC} {S : aS} {i : Nat} (hD : dOk D) (hX : xdw 3 M D) (hL : lwX M cs) (hs : xst M D S) (ho : stO D S) (hi : i < D.1) (hn : doS D cs S 0 i = none → Q (.inl (some (.int 0))) M) (hq : ∀ (M' : fmM) (S' : aS), doS D cs S 0 i = some S' → xst M' D S' → sFr M M' → Q (.inl (some (.int 1))) M') : pvGood Tx 5 qX9_performStep [.ref 32, .ref 47, .int 0, .int (nI i)] M Q := by
  refine pvGood_of (Nat.le_of_ble_eq_true rfl) ?_
  show pvEv Tx 5 qX9_performStep 0 [some (.ref 32), some (.ref 47), some (.int 0), some (.int (nI i))] [] M Q
  have d8 := hD.1
  have hi9 : (nI i).toInt = (i : Int) := nI_toInt (by omega)
  have g48 := hs.2.2.2.2.2.2 i hi
  have zm : (-1 : Int32).toInt = -1 := (by decide)
  refine pv_iloadn (pc := 0) (n := 2) 2 rfl rfl (fm_dec dtX9_performStep 0 rfl) ?_
  refine pv_table (pc := 1) 28 (by decide) rfl (fm_dec dtX9_performStep 1 rfl) ?_
  refine pv_aloadn (pc := 28) (n := 1) 1 rfl rfl (fm_dec dtX9_performStep 2 rfl) ?_
  refine pv_getR (k := 47) (j := 0) (ci := 6) (pc := 29) 48 rfl (by decide) pfl_X9_89 (by decide) rfl (by decide) (fm_dec dtX9_performStep 3 rfl) ?_
  refine pv_iloadn (pc := 32) (n := 3) 3 rfl rfl (fm_dec dtX9_performStep 4 rfl) ?_
  refine pv_iald (k := 48) (n := 8) (pc := 33) (by decide) rfl rfl (ix_in hi9 (by omega)) (fm_dec dtX9_performStep 5 rfl) ?_
  rw [i32_cl hi9]
  refine pv_iconst (pc := 34) (v := (-1)) (by decide) (fm_dec dtX9_performStep 6 rfl) ?_
  refine pv_icmp_ne (pc := 35) 51 (by decide) (fm_dec dtX9_performStep 7 rfl) (fun hc35 => ?_) (fun hc35 => ?_)
  · refine pv_iconst (pc := 51) (v := 0) (by decide) (fm_dec dtX9_performStep 15 rfl) ?_
    exact pv_zreturn (pc := 52) rfl (by first | exact Or.inr rfl | exact Or.inl rfl) (fm_dec dtX9_performStep 16 rfl) (hn (by have hm : ¬ S.2 i = -1 := (fun h8 => hc35 (i32_ext (by omega))); show (if S.2 i = -1 then puS D S i else none) = none; rw [if_neg hm]))
  · refine pv_aloadn (pc := 38) (n := 0) 0 rfl rfl (fm_dec dtX9_performStep 8 rfl) ?_
    refine pv_aloadn (pc := 39) (n := 1) 1 rfl rfl (fm_dec dtX9_performStep 9 rfl) ?_
    refine pv_iloadn (pc := 40) (n := 3) 3 rfl rfl (fm_dec dtX9_performStep 10 rfl) ?_
    refine pv_invV2 (k := 32) (d' := 3) (pc := 41) pcv_X9_94 (by decide) rfl (Nat.le_of_ble_eq_true rfl) (by decide) (fm_dec dtX9_performStep 11 rfl) ?_
    refine c_xput hD hX hs ho hi (fun hp => ?_) (fun S9 r9 hp h9 => ?_)
    · refine pv_then1 ?_
      refine pv_if_eq (pc := 44) 51 (by decide) (fm_dec dtX9_performStep 12 rfl) (fun _ => ?_) (fun hc44 => by exfalso; revert hc44; decide)
      refine pv_iconst (pc := 51) (v := 0) (by decide) (fm_dec dtX9_performStep 15 rfl) ?_
      exact pv_zreturn (pc := 52) rfl (by first | exact Or.inr rfl | exact Or.inl rfl) (fm_dec dtX9_performStep 16 rfl) (hn (by have hm : S.2 i = -1 := (by have h8 := congrArg Int32.toInt hc35; omega); show (if S.2 i = -1 then puS D S i else none) = _; rw [if_pos hm]; exact hp))
    · refine pv_then1 ?_
      refine pv_if_eq (pc := 44) 51 (by decide) (fm_dec dtX9_performStep 12 rfl) (fun hc44 => by exfalso; revert hc44; decide) (fun _ => ?_)
      refine pv_iconst (pc := 47) (v := 1) (by decide) (fm_dec dtX9_performStep 13 rfl) ?_
      refine pv_goto (pc := 48) 52 (by decide) (fm_dec dtX9_performStep 14 rfl) ?_
      exact pv_zreturn (pc := 52) rfl (by first | exact Or.inr rfl | exact Or.inl rfl) (fm_dec dtX9_performStep 16 rfl) (hq _ S9 (by have hm : S.2 i = -1 := (by have h8 := congrArg Int32.toInt hc35; omega); show (if S.2 i = -1 then puS D S i else none) = _; rw [if_pos hm]; exact hp) h9 pu_fr)
set_option maxRecDepth 20000 in
theorem c_xps1 {M : fmM} {Q : fmR → fmM → Prop} {D : dD} {cs : tC} {S : aS} {i : Nat} (hD : dOk D) (hX : xdw 3 M D) (hL : lwX M cs) (hs : xst M D S) (ho : stO D S) (hi : i < D.1) (hn : doS D cs S 1 i = none → Q (.inl (some (.int 0))) M) (hq : ∀ (M' : fmM) (S' : aS), doS D cs S 1 i = some S' → xst M' D S' → sFr M M' → Q (.inl (some (.int 1))) M') : pvGood Tx 5 qX9_performStep [.ref 32, .ref 47, .int 1, .int (nI i)] M Q := by
  refine pvGood_of (Nat.le_of_ble_eq_true rfl) ?_
  show pvEv Tx 5 qX9_performStep 0 [some (.ref 32), some (.ref 47), some (.int 1), some (.int (nI i))] [] M Q
  have d8 := hD.1
  have hi9 : (nI i).toInt = (i : Int) := nI_toInt (by omega)
  have g48 := hs.2.2.2.2.2.2 i hi
  have zm : (-1 : Int32).toInt = -1 := (by decide)
  refine pv_iloadn (pc := 0) (n := 2) 2 rfl rfl (fm_dec dtX9_performStep 0 rfl) ?_
  refine pv_table (pc := 1) 53 (by decide) rfl (fm_dec dtX9_performStep 1 rfl) ?_
  refine pv_aloadn (pc := 53) (n := 1) 1 rfl rfl (fm_dec dtX9_performStep 17 rfl) ?_
  refine pv_getR (k := 47) (j := 0) (ci := 6) (pc := 54) 48 rfl (by decide) pfl_X9_89 (by decide) rfl (by decide) (fm_dec dtX9_performStep 18 rfl) ?_
  refine pv_iloadn (pc := 57) (n := 3) 3 rfl rfl (fm_dec dtX9_performStep 19 rfl) ?_
  refine pv_iald (k := 48) (n := 8) (pc := 58) (by decide) rfl rfl (ix_in hi9 (by omega)) (fm_dec dtX9_performStep 20 rfl) ?_
  rw [i32_cl hi9]
  refine pv_iconst (pc := 59) (v := (-1)) (by decide) (fm_dec dtX9_performStep 21 rfl) ?_
  refine pv_icmp_eq (pc := 60) 76 (by decide) (fm_dec dtX9_performStep 22 rfl) (fun hc60 => ?_) (fun hc60 => ?_)
  · refine pv_iconst (pc := 76) (v := 0) (by decide) (fm_dec dtX9_performStep 30 rfl) ?_
    exact pv_zreturn (pc := 77) rfl (by first | exact Or.inr rfl | exact Or.inl rfl) (fm_dec dtX9_performStep 31 rfl) (hn (by have hm : S.2 i = -1 := (by have h8 := congrArg Int32.toInt hc60; omega); show (if S.2 i = -1 then none else puS D S i) = none; rw [if_pos hm]))
  · refine pv_aloadn (pc := 63) (n := 0) 0 rfl rfl (fm_dec dtX9_performStep 23 rfl) ?_
    refine pv_aloadn (pc := 64) (n := 1) 1 rfl rfl (fm_dec dtX9_performStep 24 rfl) ?_
    refine pv_iloadn (pc := 65) (n := 3) 3 rfl rfl (fm_dec dtX9_performStep 25 rfl) ?_
    refine pv_invV2 (k := 32) (d' := 3) (pc := 66) pcv_X9_94 (by decide) rfl (Nat.le_of_ble_eq_true rfl) (by decide) (fm_dec dtX9_performStep 26 rfl) ?_
    refine c_xput hD hX hs ho hi (fun hp => ?_) (fun S9 r9 hp h9 => ?_)
    · refine pv_then1 ?_
      refine pv_if_eq (pc := 69) 76 (by decide) (fm_dec dtX9_performStep 27 rfl) (fun _ => ?_) (fun hc69 => by exfalso; revert hc69; decide)
      refine pv_iconst (pc := 76) (v := 0) (by decide) (fm_dec dtX9_performStep 30 rfl) ?_
      exact pv_zreturn (pc := 77) rfl (by first | exact Or.inr rfl | exact Or.inl rfl) (fm_dec dtX9_performStep 31 rfl) (hn (by have hm : ¬ S.2 i = -1 := (fun h8 => hc60 (i32_ext (by omega))); show (if S.2 i = -1 then none else puS D S i) = _; rw [if_neg hm]; exact hp))
    · refine pv_then1 ?_
      refine pv_if_eq (pc := 69) 76 (by decide) (fm_dec dtX9_performStep 27 rfl) (fun hc69 => by exfalso; revert hc69; decide) (fun _ => ?_)
      refine pv_iconst (pc := 72) (v := 1) (by decide) (fm_dec dtX9_performStep 28 rfl) ?_
      refine pv_goto (pc := 73) 77 (by decide) (fm_dec dtX9_performStep 29 rfl) ?_
      exact pv_zreturn (pc := 77) rfl (by first | exact Or.inr rfl | exact Or.inl rfl) (fm_dec dtX9_performStep 31 rfl) (hq _ S9 (by have hm : ¬ S.2 i = -1 := (fun h8 => hc60 (i32_ext (by omega))); show (if S.2 i = -1 then none else puS D S i) = _; rw [if_neg hm]; exact hp) h9 pu_fr)
set_option maxRecDepth 20000 in
theorem c_xps2 {M : fmM} {Q : fmR → fmM → Prop} {D : dD} {cs : tC} {S : aS} {i : Nat} (hD : dOk D) (hX : xdw 3 M D) (hL : lwX M cs) (hs : xst M D S) (ho : stO D S) (hi : i < D.1) (hn : doS D cs S 2 i = none → Q (.inl (some (.int 0))) M) (hq : ∀ (M' : fmM) (S' : aS), doS D cs S 2 i = some S' → xst M' D S' → sFr M M' → Q (.inl (some (.int 1))) M') : pvGood Tx 5 qX9_performStep [.ref 32, .ref 47, .int 2, .int (nI i)] M Q := by
  refine pvGood_of (Nat.le_of_ble_eq_true rfl) ?_
  show pvEv Tx 5 qX9_performStep 0 [some (.ref 32), some (.ref 47), some (.int 2), some (.int (nI i))] [] M Q
  refine pv_iloadn (pc := 0) (n := 2) 2 rfl rfl (fm_dec dtX9_performStep 0 rfl) ?_
  refine pv_table (pc := 1) 78 (by decide) rfl (fm_dec dtX9_performStep 1 rfl) ?_
  refine pv_aloadn (pc := 78) (n := 0) 0 rfl rfl (fm_dec dtX9_performStep 32 rfl) ?_
  refine pv_aloadn (pc := 79) (n := 1) 1 rfl rfl (fm_dec dtX9_performStep 33 rfl) ?_
  refine pv_iloadn (pc := 80) (n := 3) 3 rfl rfl (fm_dec dtX9_performStep 34 rfl) ?_
  refine pv_invV2 (k := 32) (d' := 4) (pc := 81) pcv_X9_100 (by decide) rfl (Nat.le_of_ble_eq_true rfl) (by decide) (fm_dec dtX9_performStep 35 rfl) ?_
  refine c_xdie hD hX hL hs ho hi (fun hp => ?_) (fun M9 S9 hp h9 f9 => ?_)
  · refine pv_then1 ?_
    exact pv_zreturn (pc := 84) rfl (by first | exact Or.inr rfl | exact Or.inl rfl) (fm_dec dtX9_performStep 36 rfl) (hn hp)
  · refine pv_then1 ?_
    exact pv_zreturn (pc := 84) rfl (by first | exact Or.inr rfl | exact Or.inl rfl) (fm_dec dtX9_performStep 36 rfl) (hq M9 S9 hp h9 f9)
set_option maxRecDepth 20000 in
theorem c_xps3 {M : fmM} {Q : fmR → fmM → Prop} {D : dD} {cs : tC} {S : aS} {i : Nat} (hD : dOk D) (hX : xdw 3 M D) (hL : lwX M cs) (hs : xst M D S) (ho : stO D S) (hn : doS D cs S 3 i = none → Q (.inl (some (.int 0))) M) (hq : ∀ (M' : fmM) (S' : aS), doS D cs S 3 i = some S' → xst M' D S' → sFr M M' → Q (.inl (some (.int 1))) M') : pvGood Tx 5 qX9_performStep [.ref 32, .ref 47, .int 3, .int (nI i)] M Q := by
  refine pvGood_of (Nat.le_of_ble_eq_true rfl) ?_
  show pvEv Tx 5 qX9_performStep 0 [some (.ref 32), some (.ref 47), some (.int 3), some (.int (nI i))] [] M Q
  refine pv_iloadn (pc := 0) (n := 2) 2 rfl rfl (fm_dec dtX9_performStep 0 rfl) ?_
  refine pv_table (pc := 1) 85 (by decide) rfl (fm_dec dtX9_performStep 1 rfl) ?_
  refine pv_aloadn (pc := 85) (n := 0) 0 rfl rfl (fm_dec dtX9_performStep 37 rfl) ?_
  refine pv_aloadn (pc := 86) (n := 1) 1 rfl rfl (fm_dec dtX9_performStep 38 rfl) ?_
  refine pv_invV1 (k := 32) (d' := 0) (pc := 87) pcv_X9_103 (by decide) rfl (Nat.le_of_ble_eq_true rfl) (by decide) (fm_dec dtX9_performStep 39 rfl) ?_
  refine c_xweek hD hX hs ho (fun hp => ?_) (fun M9 S9 hp h9 f9 => ?_)
  · refine pv_then1 ?_
    exact pv_zreturn (pc := 90) rfl (by first | exact Or.inr rfl | exact Or.inl rfl) (fm_dec dtX9_performStep 40 rfl) (hn hp)
  · refine pv_then1 ?_
    exact pv_zreturn (pc := 90) rfl (by first | exact Or.inr rfl | exact Or.inl rfl) (fm_dec dtX9_performStep 40 rfl) (hq M9 S9 hp h9 f9)
theorem c_xps {M : fmM} {Q : fmR → fmM → Prop} {D : dD} {cs : tC} {S : aS} {k i : Nat} {x z : Int32} (hx : x.toInt = (k : Int)) (hz : z.toInt = (i : Int)) (hk : k < 4) (hi8 : i < 1000) (hD : dOk D) (hX : xdw 3 M D) (hL : lwX M cs) (hs : xst M D S) (ho : stO D S) (hi : k < 3 → i < D.1) (hn : doS D cs S k i = none → Q (.inl (some (.int 0))) M) (hq : ∀ (M' : fmM) (S' : aS), doS D cs S k i = some S' → xst M' D S' → sFr M M' → Q (.inl (some (.int 1))) M') : pvGood Tx 5 qX9_performStep [.ref 32, .ref 47, .int x, .int z] M Q := by
  have ez : z = nI i := nI_is hz (by omega)
  subst ez
  match k, hk, hx, hi, hn, hq with
  | 0, _, hx, hi, hn, hq =>
    have ex : x = 0 := i32_ext (hx.trans (by decide))
    subst ex
    exact c_xps0 hD hX hL hs ho (hi (by decide)) hn hq
  | 1, _, hx, hi, hn, hq =>
    have ex : x = 1 := i32_ext (hx.trans (by decide))
    subst ex
    exact c_xps1 hD hX hL hs ho (hi (by decide)) hn hq
  | 2, _, hx, hi, hn, hq =>
    have ex : x = 2 := i32_ext (hx.trans (by decide))
    subst ex
    exact c_xps2 hD hX hL hs ho (hi (by decide)) hn hq
  | 3, _, hx, hi, hn, hq =>
    have ex : x = 3 := i32_ext (hx.trans (by decide))
    subst ex
    exact c_xps3 hD hX hL hs ho hn hq
  | k + 4, h, _, _, _, _ => omega
end
-- P 18xa
section
-- THE REFERENCE'S STATE
def mst (M : fmM) (D : dD) (S : aS) : Prop := (M.1 7 0).toInt = (S.1.2.2.1 : Int) ∧ (M.1 7 10).toInt = (S.1.1 : Int) ∧ (M.1 7 9).toInt = (S.1.2.1 : Int) ∧ (M.1 7 11).toInt = (S.1.2.2.2.1 : Int) ∧ (M.1 7 12).toInt = (S.1.2.2.2.2.1 : Int) ∧ (M.1 7 13).toInt = S.1.2.2.2.2.2 ∧ ∀ i, i < D.1 → (M.1 7 (1 + i)).toInt = if S.2 i = -1 then -1000 else (S.1.1 : Int) - S.2 i
theorem mst.of {M M' : fmM} {D : dD} {S : aS} (h : mst M D S) (e : ∀ j, M'.1 7 j = M.1 7 j) : mst M' D S := by
  obtain ⟨a, b, c, d, e1, f, g⟩ := h
  exact ⟨by rw [e]; exact a, by rw [e]; exact b, by rw [e]; exact c, by rw [e]; exact d, by rw [e]; exact e1, by rw [e]; exact f, fun i hi => by rw [e]; exact g i hi⟩
theorem mst.no {M : fmM} {D : dD} {S : aS} {i : Nat} (h : mst M D S) (ho : stO D S) (hi : i < D.1) : M.1 7 (1 + i) = -1000 ↔ S.2 i = -1 := by
  have h9 := h.2.2.2.2.2.2 i hi
  have b := ho.2.2.2.2.2.2.1 i hi
  have zm : (-1000 : Int32).toInt = -1000 := by decide
  constructor
  · intro e
    rw [e, zm] at h9
    split at h9
    · assumption
    · omega
  · intro e
    rw [if_pos e] at h9
    exact i32_ext (h9.trans zm.symm)
theorem mdw.k {M M' : fmM} {D : dD} (h : mdw M D) (hD : dOk D) (e : ∀ k j, k = 4 ∨ (35 ≤ k ∧ k < 43) ∨ (67 ≤ k ∧ k < 91) → M'.1 k j = M.1 k j) : mdw M' D := by
  have d8 := hD.1
  have d24 := hD.2.1
  refine ⟨by rw [e _ _ (Or.inl rfl)]; exact h.1, by rw [e _ _ (Or.inl rfl)]; exact h.2.1, fun k a b => by rw [e _ _ (Or.inl rfl)]; exact h.2.2.1 k a b, fun i hi j hj => by rw [e _ _ (by omega)]; exact h.2.2.2.1 i hi j hj, fun i hi j hj => by rw [e _ _ (by omega)]; exact h.2.2.2.2 i hi j hj⟩
set_option maxRecDepth 20000 in
theorem mcg_loop {Q : fmR → fmM → Prop} {M : fmM} {li a b : Int32} {D : dD} (hD : dOk D) (hY : mdw M D) : ∀ (m : Nat) (n : Nat) (i : Int32), i.toInt = (n : Int) → n ≤ D.2.2.1 → D.2.2.1 - n = m → Q (.inl (some (.int (nI (cgA D li.toInt a.toInt b.toInt))))) M → pvEv Tm 0 qX11_changesOf 6 [some (.ref 0), some (.int li), some (.int a), some (.int b), some (.int (nI (cgS D li.toInt a.toInt b.toInt n))), some (.int i)] [] M Q := by
  intro m
  induction m using Nat.strongRecOn with
  | _ m ih =>
    intro n i hi hnD hm hq
    have c10 : (M.1 4 (Int32.toNatClampNeg 1)).toInt = (D.2.2.1 : Int) := hY.2.1
    have d24 := hD.2.1
    refine pv_iload (pc := 6) (i := 5) rfl (fm_dec dtX11_changesOf 4 rfl) ?_
    refine pv_aloadn (pc := 8) (n := 0) 0 rfl rfl (fm_dec dtX11_changesOf 5 rfl) ?_
    refine pv_getR (k := 0) (j := 12) (ci := 11) (pc := 9) 4 rfl (by decide) pfl_X11_23 (by decide) rfl (by decide) (fm_dec dtX11_changesOf 6 rfl) ?_
    refine pv_iconst (pc := 12) (v := 1) (by decide) (fm_dec dtX11_changesOf 7 rfl) ?_
    refine pv_iald (k := 4) (n := 6) (pc := 13) (by decide) rfl rfl (fm_inl (by decide)) (fm_dec dtX11_changesOf 8 rfl) ?_
    refine pv_icmp_ge (pc := 14) 72 (by decide) (fm_dec dtX11_changesOf 9 rfl) (fun hc14 => ?_) (fun hc14 => ?_)
    · refine pv_iload (pc := 72) (i := 4) rfl (fm_dec dtX11_changesOf 42 rfl) ?_
      exact pv_ireturn (pc := 74) rfl (fm_dec dtX11_changesOf 43 rfl) (by have e9 : n = D.2.2.1 := (by rw [sc_le] at hc14; omega); subst e9; exact hq)
    · have hn : n < D.2.2.1 := (by rw [sc_le] at hc14; omega)
      have h24 : n < 24 := (by omega)
      have f0 : (M.1 (67 + n) (Int32.toNatClampNeg 0)).toInt = D.2.2.2.1 n 0 := hY.2.2.2.2 n hn 0 (by decide)
      have f2 : (M.1 (67 + n) (Int32.toNatClampNeg 2)).toInt = D.2.2.2.1 n 2 := hY.2.2.2.2 n hn 2 (by decide)
      refine pv_iload (pc := 17) (i := 4) rfl (fm_dec dtX11_changesOf 10 rfl) ?_
      refine pv_aloadn (pc := 19) (n := 0) 0 rfl rfl (fm_dec dtX11_changesOf 11 rfl) ?_
      refine pv_getR (k := 0) (j := 16) (ci := 11) (pc := 20) 19 rfl (by decide) pfl_X11_37 (by decide) rfl (by decide) (fm_dec dtX11_changesOf 12 rfl) ?_
      refine pv_iload (pc := 23) (i := 5) rfl (fm_dec dtX11_changesOf 13 rfl) ?_
      refine pv_aald (k := 19) (n := 24) (r := (67 + n)) (pc := 25) (by decide) (Or.inr (Or.inr rfl)) rfl (rw_fact.inb hi h24) (rw_fact.at hi h24) (rw_fact.2.2.2 _ h24).2.1 (fm_dec dtX11_changesOf 14 rfl) ?_
      refine pv_iconst (pc := 26) (v := 0) (by decide) (fm_dec dtX11_changesOf 15 rfl) ?_
      refine pv_iald (k := (67 + n)) (n := 3) (pc := 27) (rw_fact.2.2.2 _ h24).2.2.1 (rw_fact.2.2.2 _ h24).2.2.2.1 (rw_fact.2.2.2 _ h24).2.2.2.2 (fm_inl (by decide)) (fm_dec dtX11_changesOf 16 rfl) ?_
      refine pv_iloadn (pc := 28) (n := 1) 1 rfl rfl (fm_dec dtX11_changesOf 17 rfl) ?_
      refine pv_icmp_ne (pc := 29) 62 (by decide) (fm_dec dtX11_changesOf 18 rfl) (fun hc29 => ?_) (fun hc29 => ?_)
      · refine pv_iconst (pc := 62) (v := 0) (by decide) (fm_dec dtX11_changesOf 37 rfl) ?_
        refine pv_iadd (pc := 63) (fm_dec dtX11_changesOf 38 rfl) ?_
        refine pv_istore (pc := 64) (i := 4) (by decide) rfl (fm_dec dtX11_changesOf 39 rfl) ?_
        dsimp only [List.set_cons_zero, List.set_cons_succ]
        refine pv_iincc (pc := 66) 5 1 (by decide) rfl (by decide) rfl (fm_dec dtX11_changesOf 40 rfl) ?_
        dsimp only [List.set_cons_zero, List.set_cons_succ]
        refine pv_goto (pc := 69) 6 (by decide) (fm_dec dtX11_changesOf 41 rfl) ?_
        have e9 : cgS D li.toInt a.toInt b.toInt (n + 1) = cgS D li.toInt a.toInt b.toInt n := if_neg (by intro h9; apply hc29; apply i32_ext; omega)
        rw [Int32.add_zero, ← e9]
        exact ih (D.2.2.1 - (n + 1)) (by omega) (n + 1) (i + 1) (i32_p1 hi (by omega)) (by omega) rfl hq
      · refine pv_aloadn (pc := 32) (n := 0) 0 rfl rfl (fm_dec dtX11_changesOf 19 rfl) ?_
        refine pv_getR (k := 0) (j := 16) (ci := 11) (pc := 33) 19 rfl (by decide) pfl_X11_37 (by decide) rfl (by decide) (fm_dec dtX11_changesOf 20 rfl) ?_
        refine pv_iload (pc := 36) (i := 5) rfl (fm_dec dtX11_changesOf 21 rfl) ?_
        refine pv_aald (k := 19) (n := 24) (r := (67 + n)) (pc := 38) (by decide) (Or.inr (Or.inr rfl)) rfl (rw_fact.inb hi h24) (rw_fact.at hi h24) (rw_fact.2.2.2 _ h24).2.1 (fm_dec dtX11_changesOf 22 rfl) ?_
        refine pv_iconst (pc := 39) (v := 2) (by decide) (fm_dec dtX11_changesOf 23 rfl) ?_
        refine pv_iald (k := (67 + n)) (n := 3) (pc := 40) (rw_fact.2.2.2 _ h24).2.2.1 (rw_fact.2.2.2 _ h24).2.2.2.1 (rw_fact.2.2.2 _ h24).2.2.2.2 (fm_inl (by decide)) (fm_dec dtX11_changesOf 24 rfl) ?_
        refine pv_iloadn (pc := 41) (n := 2) 2 rfl rfl (fm_dec dtX11_changesOf 25 rfl) ?_
        refine pv_icmp_le (pc := 42) 62 (by decide) (fm_dec dtX11_changesOf 26 rfl) (fun hc42 => ?_) (fun hc42 => ?_)
        · refine pv_iconst (pc := 62) (v := 0) (by decide) (fm_dec dtX11_changesOf 37 rfl) ?_
          refine pv_iadd (pc := 63) (fm_dec dtX11_changesOf 38 rfl) ?_
          refine pv_istore (pc := 64) (i := 4) (by decide) rfl (fm_dec dtX11_changesOf 39 rfl) ?_
          dsimp only [List.set_cons_zero, List.set_cons_succ]
          refine pv_iincc (pc := 66) 5 1 (by decide) rfl (by decide) rfl (fm_dec dtX11_changesOf 40 rfl) ?_
          dsimp only [List.set_cons_zero, List.set_cons_succ]
          refine pv_goto (pc := 69) 6 (by decide) (fm_dec dtX11_changesOf 41 rfl) ?_
          have e9 : cgS D li.toInt a.toInt b.toInt (n + 1) = cgS D li.toInt a.toInt b.toInt n := if_neg (by intro h9; rw [sc_le] at hc42; omega)
          rw [Int32.add_zero, ← e9]
          exact ih (D.2.2.1 - (n + 1)) (by omega) (n + 1) (i + 1) (i32_p1 hi (by omega)) (by omega) rfl hq
        · refine pv_aloadn (pc := 45) (n := 0) 0 rfl rfl (fm_dec dtX11_changesOf 27 rfl) ?_
          refine pv_getR (k := 0) (j := 16) (ci := 11) (pc := 46) 19 rfl (by decide) pfl_X11_37 (by decide) rfl (by decide) (fm_dec dtX11_changesOf 28 rfl) ?_
          refine pv_iload (pc := 49) (i := 5) rfl (fm_dec dtX11_changesOf 29 rfl) ?_
          refine pv_aald (k := 19) (n := 24) (r := (67 + n)) (pc := 51) (by decide) (Or.inr (Or.inr rfl)) rfl (rw_fact.inb hi h24) (rw_fact.at hi h24) (rw_fact.2.2.2 _ h24).2.1 (fm_dec dtX11_changesOf 30 rfl) ?_
          refine pv_iconst (pc := 52) (v := 2) (by decide) (fm_dec dtX11_changesOf 31 rfl) ?_
          refine pv_iald (k := (67 + n)) (n := 3) (pc := 53) (rw_fact.2.2.2 _ h24).2.2.1 (rw_fact.2.2.2 _ h24).2.2.2.1 (rw_fact.2.2.2 _ h24).2.2.2.2 (fm_inl (by decide)) (fm_dec dtX11_changesOf 32 rfl) ?_
          refine pv_iloadn (pc := 54) (n := 3) 3 rfl rfl (fm_dec dtX11_changesOf 33 rfl) ?_
          refine pv_icmp_gt (pc := 55) 62 (by decide) (fm_dec dtX11_changesOf 34 rfl) (fun hc55 => ?_) (fun hc55 => ?_)
          · refine pv_iconst (pc := 62) (v := 0) (by decide) (fm_dec dtX11_changesOf 37 rfl) ?_
            refine pv_iadd (pc := 63) (fm_dec dtX11_changesOf 38 rfl) ?_
            refine pv_istore (pc := 64) (i := 4) (by decide) rfl (fm_dec dtX11_changesOf 39 rfl) ?_
            dsimp only [List.set_cons_zero, List.set_cons_succ]
            refine pv_iincc (pc := 66) 5 1 (by decide) rfl (by decide) rfl (fm_dec dtX11_changesOf 40 rfl) ?_
            dsimp only [List.set_cons_zero, List.set_cons_succ]
            refine pv_goto (pc := 69) 6 (by decide) (fm_dec dtX11_changesOf 41 rfl) ?_
            have e9 : cgS D li.toInt a.toInt b.toInt (n + 1) = cgS D li.toInt a.toInt b.toInt n := if_neg (by intro h9; rw [sc_lt] at hc55; omega)
            rw [Int32.add_zero, ← e9]
            exact ih (D.2.2.1 - (n + 1)) (by omega) (n + 1) (i + 1) (i32_p1 hi (by omega)) (by omega) rfl hq
          · refine pv_iconst (pc := 58) (v := 1) (by decide) (fm_dec dtX11_changesOf 35 rfl) ?_
            refine pv_goto (pc := 59) 63 (by decide) (fm_dec dtX11_changesOf 36 rfl) ?_
            refine pv_iadd (pc := 63) (fm_dec dtX11_changesOf 38 rfl) ?_
            refine pv_istore (pc := 64) (i := 4) (by decide) rfl (fm_dec dtX11_changesOf 39 rfl) ?_
            dsimp only [List.set_cons_zero, List.set_cons_succ]
            refine pv_iincc (pc := 66) 5 1 (by decide) rfl (by decide) rfl (fm_dec dtX11_changesOf 40 rfl) ?_
            dsimp only [List.set_cons_zero, List.set_cons_succ]
            refine pv_goto (pc := 69) 6 (by decide) (fm_dec dtX11_changesOf 41 rfl) ?_
            have e9 : cgS D li.toInt a.toInt b.toInt (n + 1) = cgS D li.toInt a.toInt b.toInt n + 1 := if_pos ⟨by rw [← f0, hc29], by rw [sc_le] at hc42; omega, by rw [sc_lt] at hc55; omega⟩
            rw [nI_succ1, ← e9]
            exact ih (D.2.2.1 - (n + 1)) (by omega) (n + 1) (i + 1) (i32_p1 hi (by omega)) (by omega) rfl hq
set_option maxRecDepth 20000 in
theorem c_mcg {M : fmM} {Q : fmR → fmM → Prop} {li a b : Int32} {D : dD} (hD : dOk D) (hY : mdw M D) (hq : Q (.inl (some (.int (nI (cgA D li.toInt a.toInt b.toInt))))) M) : pvGood Tm 0 qX11_changesOf [.ref 0, .int li, .int a, .int b] M Q := by
  refine pvGood_of (Nat.le_of_ble_eq_true rfl) ?_
  show pvEv Tm 0 qX11_changesOf 0 [some (.ref 0), some (.int li), some (.int a), some (.int b), none, none] [] M Q
  refine pv_iconst (pc := 0) (v := 0) (by decide) (fm_dec dtX11_changesOf 0 rfl) ?_
  refine pv_istore (pc := 1) (i := 4) (by decide) rfl (fm_dec dtX11_changesOf 1 rfl) ?_
  dsimp only [List.set_cons_zero, List.set_cons_succ]
  refine pv_iconst (pc := 3) (v := 0) (by decide) (fm_dec dtX11_changesOf 2 rfl) ?_
  refine pv_istore (pc := 4) (i := 5) (by decide) rfl (fm_dec dtX11_changesOf 3 rfl) ?_
  dsimp only [List.set_cons_zero, List.set_cons_succ]
  exact mcg_loop hD hY D.2.2.1 0 0 (by decide) (by omega) (by omega) hq
set_option maxRecDepth 20000 in
theorem c_myr {M : fmM} {Q : fmR → fmM → Prop} {D : dD} {i wN : Nat} {w : Int32} (hD : dOk D) (hY : mdw M D) (hi : i < D.1) (hw : w.toInt = (wN : Int)) (hw2 : wN ≤ 300) (hq : Q (.inl (some (.int (nI ((D.2.1 i 0).toNat + wN / 52))))) M) : pvGood Tm 0 qX11_yearsOf [.ref 0, .int (nI i), .int w] M Q := by
  refine pvGood_of (Nat.le_of_ble_eq_true rfl) ?_
  show pvEv Tm 0 qX11_yearsOf 0 [some (.ref 0), some (.int (nI i)), some (.int w)] [] M Q
  have d8 := hD.1
  have hi9 : (nI i).toInt = (i : Int) := nI_toInt (by omega)
  have hi8 : i < 8 := (by omega)
  have b0 := (hD.2.2.1 i hi).1
  have g0 : (M.1 (35 + i) (Int32.toNatClampNeg 0)).toInt = D.2.1 i 0 := hY.2.2.2.1 i hi 0 (by decide)
  have z52 : (52 : Int32).toInt = ((52 : Nat) : Int) := (by decide)
  refine pv_aloadn (pc := 0) (n := 0) 0 rfl rfl (fm_dec dtX11_yearsOf 0 rfl) ?_
  refine pv_getR (k := 0) (j := 14) (ci := 11) (pc := 1) 17 rfl (by decide) pfl_X11_31 (by decide) rfl (by decide) (fm_dec dtX11_yearsOf 1 rfl) ?_
  refine pv_iloadn (pc := 4) (n := 1) 1 rfl rfl (fm_dec dtX11_yearsOf 2 rfl) ?_
  refine pv_aald (k := 17) (n := 8) (r := (35 + i)) (pc := 5) (by decide) (Or.inr (Or.inr rfl)) rfl (rw_life.inb hi9 hi8) (rw_life.at hi9 hi8) (rw_life.2.2.2 _ hi8).2.1 (fm_dec dtX11_yearsOf 3 rfl) ?_
  refine pv_iconst (pc := 6) (v := 0) (by decide) (fm_dec dtX11_yearsOf 4 rfl) ?_
  refine pv_iald (k := (35 + i)) (n := 6) (pc := 7) (rw_life.2.2.2 _ hi8).2.2.1 (rw_life.2.2.2 _ hi8).2.2.2.1 (rw_life.2.2.2 _ hi8).2.2.2.2 (fm_inl (by decide)) (fm_dec dtX11_yearsOf 5 rfl) ?_
  refine pv_iloadn (pc := 8) (n := 2) 2 rfl rfl (fm_dec dtX11_yearsOf 6 rfl) ?_
  refine pv_bipush (pc := 9) (v := 52) (by decide) (fm_dec dtX11_yearsOf 7 rfl) ?_
  refine pv_idiv (pc := 11) (by decide) (fm_dec dtX11_yearsOf 8 rfl) ?_
  refine pv_iadd (pc := 12) (fm_dec dtX11_yearsOf 9 rfl) ?_
  exact pv_ireturn (pc := 13) rfl (fm_dec dtX11_yearsOf 10 rfl) (by have e8 := dv_n hw z52 (by decide) (by omega); have h8 : wN / 52 ≤ wN := Nat.div_le_self _ _; have e7 : (M.1 (35 + i) (Int32.toNatClampNeg 0) + w / 52).toInt = (((D.2.1 i 0).toNat + wN / 52 : Nat) : Int) := (by rw [sc_add (by omega) (by omega)]; omega); rw [nI_is e7 (by omega)]; exact hq)
set_option maxRecDepth 20000 in
theorem c_msd {M : fmM} {Q : fmR → fmM → Prop} {D : dD} {S : aS} {i : Nat} (hD : dOk D) (hY : mdw M D) (hs : mst M D S) (ho : stO D S) (hi : i < D.1) (hq : Q (.inl (some (.int (nI (sdA D S.1.2.2.1 i))))) M) : pvGood Tm 1 qX11_isByDead [.ref 0, .ref 7, .int (nI i)] M Q := by
  refine pvGood_of (Nat.le_of_ble_eq_true rfl) ?_
  show pvEv Tm 1 qX11_isByDead 0 [some (.ref 0), some (.ref 7), some (.int (nI i))] [] M Q
  have d8 := hD.1
  have hi9 : (nI i).toInt = (i : Int) := nI_toInt (by omega)
  have hi8 : i < 8 := (by omega)
  have g5 : (M.1 (35 + i) (Int32.toNatClampNeg 5)).toInt = chB D i := hY.2.2.2.1 i hi 5 (by decide)
  have zm : (-1 : Int32).toInt = -1 := (by decide)
  have ec : D.2.1 i 5 = chB D i := rfl
  have e0 : M.1 7 (Int32.toNatClampNeg 0) = nI S.1.2.2.1 := nI_is hs.1 (by have := ho.2.2.1; omega)
  refine pv_aloadn (pc := 0) (n := 0) 0 rfl rfl (fm_dec dtX11_isByDead 0 rfl) ?_
  refine pv_getR (k := 0) (j := 14) (ci := 11) (pc := 1) 17 rfl (by decide) pfl_X11_31 (by decide) rfl (by decide) (fm_dec dtX11_isByDead 1 rfl) ?_
  refine pv_iloadn (pc := 4) (n := 2) 2 rfl rfl (fm_dec dtX11_isByDead 2 rfl) ?_
  refine pv_aald (k := 17) (n := 8) (r := (35 + i)) (pc := 5) (by decide) (Or.inr (Or.inr rfl)) rfl (rw_life.inb hi9 hi8) (rw_life.at hi9 hi8) (rw_life.2.2.2 _ hi8).2.1 (fm_dec dtX11_isByDead 3 rfl) ?_
  refine pv_iconst (pc := 6) (v := 5) (by decide) (fm_dec dtX11_isByDead 4 rfl) ?_
  refine pv_iald (k := (35 + i)) (n := 6) (pc := 7) (rw_life.2.2.2 _ hi8).2.2.1 (rw_life.2.2.2 _ hi8).2.2.2.1 (rw_life.2.2.2 _ hi8).2.2.2.2 (fm_inl (by decide)) (fm_dec dtX11_isByDead 5 rfl) ?_
  refine pv_iconst (pc := 8) (v := (-1)) (by decide) (fm_dec dtX11_isByDead 6 rfl) ?_
  refine pv_icmp_eq (pc := 9) 33 (by decide) (fm_dec dtX11_isByDead 7 rfl) (fun hc9 => ?_) (fun hc9 => ?_)
  · refine pv_iconst (pc := 33) (v := 0) (by decide) (fm_dec dtX11_isByDead 21 rfl) ?_
    exact pv_ireturn (pc := 34) rfl (fm_dec dtX11_isByDead 22 rfl) (by have h9 := hq; unfold sdA at h9; rw [if_pos (by have h8 := congrArg Int32.toInt hc9; omega)] at h9; exact h9)
  · have hn9 : ¬ chB D i < 0 := (by intro h9; apply hc9; apply i32_ext; have h8 := (hD.2.2.1 i hi).2.2.2.2.2; omega)
    obtain ⟨k, hk, hk8, hkb, hkx⟩ := by_d hD hi g5 hn9
    refine pv_aloadn (pc := 12) (n := 1) 1 rfl rfl (fm_dec dtX11_isByDead 8 rfl) ?_
    refine pv_iconst (pc := 13) (v := 0) (by decide) (fm_dec dtX11_isByDead 9 rfl) ?_
    refine pv_iald (k := 7) (n := 14) (pc := 14) (by decide) rfl rfl (fm_inl (by decide)) (fm_dec dtX11_isByDead 10 rfl) ?_
    refine pv_aloadn (pc := 15) (n := 0) 0 rfl rfl (fm_dec dtX11_isByDead 11 rfl) ?_
    refine pv_getR (k := 0) (j := 14) (ci := 11) (pc := 16) 17 rfl (by decide) pfl_X11_31 (by decide) rfl (by decide) (fm_dec dtX11_isByDead 12 rfl) ?_
    refine pv_iloadn (pc := 19) (n := 2) 2 rfl rfl (fm_dec dtX11_isByDead 13 rfl) ?_
    refine pv_aald (k := 17) (n := 8) (r := (35 + i)) (pc := 20) (by decide) (Or.inr (Or.inr rfl)) rfl (rw_life.inb hi9 hi8) (rw_life.at hi9 hi8) (rw_life.2.2.2 _ hi8).2.1 (fm_dec dtX11_isByDead 14 rfl) ?_
    refine pv_iconst (pc := 21) (v := 5) (by decide) (fm_dec dtX11_isByDead 15 rfl) ?_
    refine pv_iald (k := (35 + i)) (n := 6) (pc := 22) (rw_life.2.2.2 _ hi8).2.2.1 (rw_life.2.2.2 _ hi8).2.2.2.1 (rw_life.2.2.2 _ hi8).2.2.2.2 (fm_inl (by decide)) (fm_dec dtX11_isByDead 16 rfl) ?_
    refine pv_iS2 (d' := 0) (pc := 23) pcs_X11_256 (Nat.le_of_ble_eq_true rfl) (by decide) (fm_dec dtX11_isByDead 17 rfl) ?_
    refine c_has (fun h23 => ?_) (fun h23 => ?_)
    · refine pv_then1 ?_
      refine pv_if_eq (pc := 26) 33 (by decide) (fm_dec dtX11_isByDead 18 rfl) (fun hc26 => by exfalso; revert hc26; decide) (fun _ => ?_)
      refine pv_iconst (pc := 29) (v := 1) (by decide) (fm_dec dtX11_isByDead 19 rfl) ?_
      refine pv_goto (pc := 30) 34 (by decide) (fm_dec dtX11_isByDead 20 rfl) ?_
      exact pv_ireturn (pc := 34) rfl (fm_dec dtX11_isByDead 22 rfl) (by have h9 := hq; unfold sdA at h9; rw [if_neg (by omega), ec, hkb, Int.toNat_natCast, if_pos ((has8 _ ho.2.2.1 k hk8).mp (by rw [← e0, ← hkx]; exact h23))] at h9; exact h9)
    · refine pv_then1 ?_
      refine pv_if_eq (pc := 26) 33 (by decide) (fm_dec dtX11_isByDead 18 rfl) (fun _ => ?_) (fun hc26 => by exfalso; revert hc26; decide)
      refine pv_iconst (pc := 33) (v := 0) (by decide) (fm_dec dtX11_isByDead 21 rfl) ?_
      exact pv_ireturn (pc := 34) rfl (fm_dec dtX11_isByDead 22 rfl) (by have h9 := hq; unfold sdA at h9; rw [if_neg (by omega), ec, hkb, Int.toNat_natCast, if_neg (fun h8 => h23 (by rw [e0, hkx]; exact (has8 _ ho.2.2.1 k hk8).mpr h8))] at h9; exact h9)
set_option maxRecDepth 20000 in
theorem c_mwrgG {M : fmM} {Q : fmR → fmM → Prop} {D : dD} {cs : tC} {S : aS} {i a wN : Nat} {wr w : Int32} (hD : dOk D) (hY : mdw M D) (hL : lwM M cs) (hd : cs = [] ∨ dpB 23 0 cs = some 1) (hs : mst M D S) (ho : stO D S) (hi : i < D.1) (hw : w.toInt = (wN : Int)) (hw2 : wN ≤ 300) (hr : wr.toInt = (wN : Int) - a) (ha : a ≤ 400) (hq : ∀ (M' : fmM) (r : Int32), (∀ k j, k ≠ 5 → k ≠ 6 → M'.1 k j = M.1 k j) → M'.2 = M.2 → r.toInt = wrS D cs S.1.2.2.1 wN i a → Q (.inl (some (.int r))) M') : pvGood Tm 5 qX11_wrongIn [.ref 0, .ref 7, .int (nI i), .int wr, .int w] M Q := by
  refine pvGood_of (Nat.le_of_ble_eq_true rfl) ?_
  show pvEv Tm 5 qX11_wrongIn 0 [some (.ref 0), some (.ref 7), some (.int (nI i)), some (.int wr), some (.int w)] [] M Q
  have d8 := hD.1
  have hi9 : (nI i).toInt = (i : Int) := nI_toInt (by omega)
  have hi8 : i < 8 := (by omega)
  have b2 := (hD.2.2.1 i hi).2.2.1
  have g2 : M.1 (35 + i) (Int32.toNatClampNeg 2) = nI (D.2.1 i 2).toNat := nI_is (by have h9 : (M.1 (35 + i) (Int32.toNatClampNeg 2)).toInt = D.2.1 i 2 := hY.2.2.2.1 i hi 2 (by decide); omega) (by omega)
  have ea : w - wr = nI a := nI_is (by rw [sc_sub (by omega) (by omega)]; omega) (by omega)
  refine pv_aloadn (pc := 0) (n := 0) 0 rfl rfl (fm_dec dtX11_wrongIn 0 rfl) ?_
  refine pv_iload (pc := 1) (i := 4) rfl (fm_dec dtX11_wrongIn 1 rfl) ?_
  refine pv_iloadn (pc := 3) (n := 3) 3 rfl rfl (fm_dec dtX11_wrongIn 2 rfl) ?_
  refine pv_isub (pc := 4) (fm_dec dtX11_wrongIn 3 rfl) ?_
  refine pv_aloadn (pc := 5) (n := 0) 0 rfl rfl (fm_dec dtX11_wrongIn 4 rfl) ?_
  refine pv_iloadn (pc := 6) (n := 2) 2 rfl rfl (fm_dec dtX11_wrongIn 5 rfl) ?_
  refine pv_iload (pc := 7) (i := 4) rfl (fm_dec dtX11_wrongIn 6 rfl) ?_
  refine pv_invV2 (k := 0) (d' := 0) (pc := 9) pcv_X11_263 (by decide) rfl (Nat.le_of_ble_eq_true rfl) (by decide) (fm_dec dtX11_wrongIn 7 rfl) ?_
  refine c_myr hD hY hi hw hw2 ?_
  refine pv_then1 ?_
  refine pv_aloadn (pc := 12) (n := 0) 0 rfl rfl (fm_dec dtX11_wrongIn 8 rfl) ?_
  refine pv_getR (k := 0) (j := 14) (ci := 11) (pc := 13) 17 rfl (by decide) pfl_X11_31 (by decide) rfl (by decide) (fm_dec dtX11_wrongIn 9 rfl) ?_
  refine pv_iloadn (pc := 16) (n := 2) 2 rfl rfl (fm_dec dtX11_wrongIn 10 rfl) ?_
  refine pv_aald (k := 17) (n := 8) (r := (35 + i)) (pc := 17) (by decide) (Or.inr (Or.inr rfl)) rfl (rw_life.inb hi9 hi8) (rw_life.at hi9 hi8) (rw_life.2.2.2 _ hi8).2.1 (fm_dec dtX11_wrongIn 11 rfl) ?_
  refine pv_iconst (pc := 18) (v := 2) (by decide) (fm_dec dtX11_wrongIn 12 rfl) ?_
  refine pv_iald (k := (35 + i)) (n := 6) (pc := 19) (rw_life.2.2.2 _ hi8).2.2.1 (rw_life.2.2.2 _ hi8).2.2.2.1 (rw_life.2.2.2 _ hi8).2.2.2.2 (fm_inl (by decide)) (fm_dec dtX11_wrongIn 13 rfl) ?_
  refine pv_aloadn (pc := 20) (n := 0) 0 rfl rfl (fm_dec dtX11_wrongIn 14 rfl) ?_
  refine pv_aloadn (pc := 21) (n := 1) 1 rfl rfl (fm_dec dtX11_wrongIn 15 rfl) ?_
  refine pv_iloadn (pc := 22) (n := 2) 2 rfl rfl (fm_dec dtX11_wrongIn 16 rfl) ?_
  refine pv_invV2 (k := 0) (d' := 1) (pc := 23) pcv_X11_266 (by decide) rfl (Nat.le_of_ble_eq_true rfl) (by decide) (fm_dec dtX11_wrongIn 17 rfl) ?_
  refine c_msd hD hY hs ho hi ?_
  refine pv_then1 ?_
  refine pv_aloadn (pc := 26) (n := 0) 0 rfl rfl (fm_dec dtX11_wrongIn 18 rfl) ?_
  refine pv_iloadn (pc := 27) (n := 2) 2 rfl rfl (fm_dec dtX11_wrongIn 19 rfl) ?_
  refine pv_iloadn (pc := 28) (n := 3) 3 rfl rfl (fm_dec dtX11_wrongIn 20 rfl) ?_
  refine pv_iload (pc := 29) (i := 4) rfl (fm_dec dtX11_wrongIn 21 rfl) ?_
  refine pv_invV3 (k := 0) (d' := 0) (pc := 31) pcv_X11_270 (by decide) rfl (Nat.le_of_ble_eq_true rfl) (by decide) (fm_dec dtX11_wrongIn 22 rfl) ?_
  refine c_mcg hD hY ?_
  refine pv_then1 ?_
  refine pv_invV5 (k := 0) (d' := 4) (pc := 34) pcv_X11_273 (by decide) rfl (Nat.le_of_ble_eq_true rfl) (by decide) (fm_dec dtX11_wrongIn 23 rfl) ?_
  refine c_mlw hL hd (fun M34 g34 h34 => ?_)
  refine pv_then1 ?_
  exact pv_ireturn (pc := 37) rfl (fm_dec dtX11_wrongIn 24 rfl) (hq M34 _ g34 h34 (by unfold wrS; rw [ea, g2, hi9, hw, hr]))
theorem c_mwrg {M : fmM} {Q : fmR → fmM → Prop} {D : dD} {cs : tC} {S : aS} {i a : Nat} {wr w : Int32} (hD : dOk D) (hY : mdw M D) (hL : lwM M cs) (hd : cs = [] ∨ dpB 23 0 cs = some 1) (hs : mst M D S) (ho : stO D S) (hi : i < D.1) (hw : w.toInt = (S.1.1 : Int)) (hr : wr.toInt = (S.1.1 : Int) - a) (ha : a ≤ 240) (hq : ∀ (M' : fmM) (r : Int32), (∀ k j, k ≠ 5 → k ≠ 6 → M'.1 k j = M.1 k j) → M'.2 = M.2 → r.toInt = wrS D cs S.1.2.2.1 S.1.1 i a → Q (.inl (some (.int r))) M') : pvGood Tm 5 qX11_wrongIn [.ref 0, .ref 7, .int (nI i), .int wr, .int w] M Q := c_mwrgG hD hY hL hd hs ho hi hw (by have := ho.1; omega) hr (by omega) hq
set_option maxRecDepth 20000 in
theorem c_mcoG {M : fmM} {Q : fmR → fmM → Prop} {D : dD} {cs : tC} {S : aS} {i wN : Nat} {ag : Int} {wr w : Int32} (hD : dOk D) (hY : mdw M D) (hL : lwM M cs) (hd : cs = [] ∨ dpB 23 0 cs = some 1) (hs : mst M D S) (ho : stO D S) (hi : i < D.1) (hw : w.toInt = (wN : Int)) (hw2 : wN ≤ 300) (hr : wr.toInt = if ag = -1 then -1000 else (wN : Int) - ag) (ha : -1 ≤ ag ∧ ag ≤ 400) (hq : ∀ (M' : fmM) (r : Int32), (∀ k j, k ≠ 5 → k ≠ 6 → M'.1 k j = M.1 k j) → M'.2 = M.2 → r.toInt = coA D cs S.1.2.2.1 wN i ag → Q (.inl (some (.int r))) M') : pvGood Tm 6 qX11_costIn [.ref 0, .ref 7, .int (nI i), .int wr, .int w] M Q := by
  refine pvGood_of (Nat.le_of_ble_eq_true rfl) ?_
  show pvEv Tm 6 qX11_costIn 0 [some (.ref 0), some (.ref 7), some (.int (nI i)), some (.int wr), some (.int w)] [] M Q
  have d8 := hD.1
  have hi9 : (nI i).toInt = (i : Int) := nI_toInt (by omega)
  have hi8 : i < 8 := (by omega)
  have zm : (-1000 : Int32).toInt = -1000 := (by decide)
  have z64 : (64 : Int32).toInt = 64 := (by decide)
  have b2 := (hD.2.2.1 i hi).2.2.1
  have b3 := hD.2.2.2.2.2.1
  have b4 := hD.2.2.2.2.2.2.1
  have g2 : (M.1 (35 + i) (Int32.toNatClampNeg 2)).toInt = D.2.1 i 2 := hY.2.2.2.1 i hi 2 (by decide)
  have g3 : (M.1 4 (Int32.toNatClampNeg 3)).toInt = D.2.2.2.2 3 := hY.2.2.1 3 (by decide) (by decide)
  have g4 : (M.1 4 (Int32.toNatClampNeg 4)).toInt = D.2.2.2.2 4 := hY.2.2.1 4 (by decide) (by decide)
  refine pv_iloadn (pc := 0) (n := 3) 3 rfl rfl (fm_dec dtX11_costIn 0 rfl) ?_
  refine pv_sipush (pc := 1) (v := (-1000)) (by decide) (fm_dec dtX11_costIn 1 rfl) ?_
  refine pv_icmp_ne (pc := 4) 28 (by decide) (fm_dec dtX11_costIn 2 rfl) (fun hc4 => ?_) (fun hc4 => ?_)
  · have hne : ¬ ag = -1 := (fun h9 => hc4 (i32_ext (by rw [hr, if_pos h9, zm])))
    rw [if_neg hne] at hr
    refine pv_aloadn (pc := 28) (n := 0) 0 rfl rfl (fm_dec dtX11_costIn 17 rfl) ?_
    refine pv_getR (k := 0) (j := 12) (ci := 11) (pc := 29) 4 rfl (by decide) pfl_X11_23 (by decide) rfl (by decide) (fm_dec dtX11_costIn 18 rfl) ?_
    refine pv_iconst (pc := 32) (v := 4) (by decide) (fm_dec dtX11_costIn 19 rfl) ?_
    refine pv_iald (k := 4) (n := 6) (pc := 33) (by decide) rfl rfl (fm_inl (by decide)) (fm_dec dtX11_costIn 20 rfl) ?_
    refine pv_aloadn (pc := 34) (n := 0) 0 rfl rfl (fm_dec dtX11_costIn 21 rfl) ?_
    refine pv_getR (k := 0) (j := 14) (ci := 11) (pc := 35) 17 rfl (by decide) pfl_X11_31 (by decide) rfl (by decide) (fm_dec dtX11_costIn 22 rfl) ?_
    refine pv_iloadn (pc := 38) (n := 2) 2 rfl rfl (fm_dec dtX11_costIn 23 rfl) ?_
    refine pv_aald (k := 17) (n := 8) (r := (35 + i)) (pc := 39) (by decide) (Or.inr (Or.inr rfl)) rfl (rw_life.inb hi9 hi8) (rw_life.at hi9 hi8) (rw_life.2.2.2 _ hi8).2.1 (fm_dec dtX11_costIn 24 rfl) ?_
    refine pv_iconst (pc := 40) (v := 2) (by decide) (fm_dec dtX11_costIn 25 rfl) ?_
    refine pv_iald (k := (35 + i)) (n := 6) (pc := 41) (rw_life.2.2.2 _ hi8).2.2.1 (rw_life.2.2.2 _ hi8).2.2.2.1 (rw_life.2.2.2 _ hi8).2.2.2.2 (fm_inl (by decide)) (fm_dec dtX11_costIn 26 rfl) ?_
    refine pv_imul (pc := 42) (fm_dec dtX11_costIn 27 rfl) ?_
    refine pv_aloadn (pc := 43) (n := 0) 0 rfl rfl (fm_dec dtX11_costIn 28 rfl) ?_
    refine pv_aloadn (pc := 44) (n := 1) 1 rfl rfl (fm_dec dtX11_costIn 29 rfl) ?_
    refine pv_iloadn (pc := 45) (n := 2) 2 rfl rfl (fm_dec dtX11_costIn 30 rfl) ?_
    refine pv_iloadn (pc := 46) (n := 3) 3 rfl rfl (fm_dec dtX11_costIn 31 rfl) ?_
    refine pv_iload (pc := 47) (i := 4) rfl (fm_dec dtX11_costIn 32 rfl) ?_
    refine pv_invV4 (k := 0) (d' := 5) (pc := 49) pcv_X11_276 (by decide) rfl (Nat.le_of_ble_eq_true rfl) (by decide) (fm_dec dtX11_costIn 33 rfl) ?_
    refine c_mwrgG (a := ag.toNat) hD hY hL hd hs ho hi hw hw2 (by omega) (by omega) (fun M49 r49 g49 h49 e49 => ?_)
    refine pv_then1 ?_
    refine pv_imul (pc := 52) (fm_dec dtX11_costIn 34 rfl) ?_
    exact pv_ireturn (pc := 53) rfl (fm_dec dtX11_costIn 35 rfl) (hq M49 _ g49 h49 (by have h1 := mul_b (a := D.2.2.2.2 4) (b := D.2.1 i 2) (m := 9) (n := 99) (by omega) (by omega) (by omega) (by omega); have hw9 := wrS_b (D := D) (cs := cs) (dead := S.1.2.2.1) (w := wN) (i := i) (age := ag.toNat); have h2 := mul_b (a := D.2.2.2.2 4 * D.2.1 i 2) (b := wrS D cs S.1.2.2.1 wN i ag.toNat) (m := 891) (n := 64) (by omega) (by omega) hw9.1 hw9.2; have e1 : (M.1 4 (Int32.toNatClampNeg 4) * M.1 (35 + i) (Int32.toNatClampNeg 2)).toInt = D.2.2.2.2 4 * D.2.1 i 2 := (by rw [sc_mul (by rw [g4, g2]; omega) (by rw [g4, g2]; omega), g4, g2]); rw [sc_mul (by rw [e1, e49]; omega) (by rw [e1, e49]; omega), e1, e49]; unfold coA; rw [if_neg hne]))
  · refine pv_bipush (pc := 7) (v := 64) (by decide) (fm_dec dtX11_costIn 3 rfl) ?_
    refine pv_aloadn (pc := 9) (n := 0) 0 rfl rfl (fm_dec dtX11_costIn 4 rfl) ?_
    refine pv_getR (k := 0) (j := 12) (ci := 11) (pc := 10) 4 rfl (by decide) pfl_X11_23 (by decide) rfl (by decide) (fm_dec dtX11_costIn 5 rfl) ?_
    refine pv_iconst (pc := 13) (v := 3) (by decide) (fm_dec dtX11_costIn 6 rfl) ?_
    refine pv_iald (k := 4) (n := 6) (pc := 14) (by decide) rfl rfl (fm_inl (by decide)) (fm_dec dtX11_costIn 7 rfl) ?_
    refine pv_imul (pc := 15) (fm_dec dtX11_costIn 8 rfl) ?_
    refine pv_aloadn (pc := 16) (n := 0) 0 rfl rfl (fm_dec dtX11_costIn 9 rfl) ?_
    refine pv_getR (k := 0) (j := 14) (ci := 11) (pc := 17) 17 rfl (by decide) pfl_X11_31 (by decide) rfl (by decide) (fm_dec dtX11_costIn 10 rfl) ?_
    refine pv_iloadn (pc := 20) (n := 2) 2 rfl rfl (fm_dec dtX11_costIn 11 rfl) ?_
    refine pv_aald (k := 17) (n := 8) (r := (35 + i)) (pc := 21) (by decide) (Or.inr (Or.inr rfl)) rfl (rw_life.inb hi9 hi8) (rw_life.at hi9 hi8) (rw_life.2.2.2 _ hi8).2.1 (fm_dec dtX11_costIn 12 rfl) ?_
    refine pv_iconst (pc := 22) (v := 2) (by decide) (fm_dec dtX11_costIn 13 rfl) ?_
    refine pv_iald (k := (35 + i)) (n := 6) (pc := 23) (rw_life.2.2.2 _ hi8).2.2.1 (rw_life.2.2.2 _ hi8).2.2.2.1 (rw_life.2.2.2 _ hi8).2.2.2.2 (fm_inl (by decide)) (fm_dec dtX11_costIn 14 rfl) ?_
    refine pv_imul (pc := 24) (fm_dec dtX11_costIn 15 rfl) ?_
    refine pv_goto (pc := 25) 53 (by decide) (fm_dec dtX11_costIn 16 rfl) ?_
    exact pv_ireturn (pc := 53) rfl (fm_dec dtX11_costIn 35 rfl) (hq M _ (fun _ _ _ _ => rfl) rfl (by have hm : ag = -1 := (by have h9 := congrArg Int32.toInt hc4; rw [hr, zm] at h9; split at h9; assumption; omega); have h1 := mul_b (a := 64) (b := D.2.2.2.2 3) (m := 64) (n := 9) (by omega) (by omega) (by omega) (by omega); have h2 := mul_b (a := 64 * D.2.2.2.2 3) (b := D.2.1 i 2) (m := 576) (n := 99) (by omega) (by omega) (by omega) (by omega); have e1 : ((64 : Int32) * M.1 4 (Int32.toNatClampNeg 3)).toInt = 64 * D.2.2.2.2 3 := (by rw [sc_mul (by rw [z64, g3]; omega) (by rw [z64, g3]; omega), z64, g3]); rw [sc_mul (by rw [e1, g2]; omega) (by rw [e1, g2]; omega), e1, g2]; unfold coA; rw [if_pos hm]))
theorem c_mco {M : fmM} {Q : fmR → fmM → Prop} {D : dD} {cs : tC} {S : aS} {i : Nat} {wr w : Int32} (hD : dOk D) (hY : mdw M D) (hL : lwM M cs) (hd : cs = [] ∨ dpB 23 0 cs = some 1) (hs : mst M D S) (ho : stO D S) (hi : i < D.1) (hw : w.toInt = (S.1.1 : Int)) (hr : wr.toInt = if S.2 i = -1 then -1000 else (S.1.1 : Int) - S.2 i) (hq : ∀ (M' : fmM) (r : Int32), (∀ k j, k ≠ 5 → k ≠ 6 → M'.1 k j = M.1 k j) → M'.2 = M.2 → r.toInt = coS D cs S i → Q (.inl (some (.int r))) M') : pvGood Tm 6 qX11_costIn [.ref 0, .ref 7, .int (nI i), .int wr, .int w] M Q := c_mcoG hD hY hL hd hs ho hi hw (by have := ho.1; omega) hr (by have h1 := ho.2.2.2.2.2.2.1 i hi; have h2 := ho.1; omega) hq
end
-- P 18xb
section
/-- nothing but the state and the law's own cells has changed -/
def mFr (M M' : fmM) : Prop := (∀ k j, k ≠ 5 → k ≠ 6 → k ≠ 7 → M'.1 k j = M.1 k j) ∧ M'.2 = M.2
theorem mFr.refl (M : fmM) : mFr M M := ⟨fun _ _ _ _ _ => rfl, rfl⟩
theorem mFr.trans {M M1 M2 : fmM} (h : mFr M M1) (h' : mFr M1 M2) : mFr M M2 := ⟨fun k j a b c => (h'.1 k j a b c).trans (h.1 k j a b c), h'.2.trans h.2⟩
theorem mFr.put {M M1 : fmM} {j : Nat} {x : Int32} (h : mFr M M1) : mFr M (fmI M1 7 j x) := ⟨fun k' j' a b c => by rw [fmI_k _ _ c]; exact h.1 k' j' a b c, h.2⟩
theorem hrV_n {M : fmM} {D : dD} {S : aS} {i : Nat} (hD : dOk D) (hY : mdw M D) (hs : mst M D S) (ho : stO D S) (hi : i < D.1) : (hrV M i).toInt = ((hoS D S i : Nat) : Int) := by
  have b3 := (hD.2.2.1 i hi).2.2.2.1
  have b5 := hD.2.2.2.2.2.2.2
  have g3 : (M.1 (35 + i) 3).toInt = D.2.1 i 3 := hY.2.2.2.1 i hi 3 (by decide)
  have g5 : (M.1 4 5).toInt = D.2.2.2.2 5 := hY.2.2.1 5 (by decide) (by decide)
  unfold hrV hoS
  by_cases e : S.2 i = -1
  · rw [if_pos e, if_pos ((hs.no ho hi).mpr e)]
    omega
  · rw [if_neg e, if_neg (fun h9 => e ((hs.no ho hi).mp h9))]
    exact mx_1 (dv_n (by omega) (by omega) (by omega) (by omega))
theorem h5_ne {M : fmM} {D : dD} (hD : dOk D) (hY : mdw M D) : ¬ M.1 4 5 = 0 := by
  intro h
  have g5 : (M.1 4 5).toInt = D.2.2.2.2 5 := hY.2.2.1 5 (by decide) (by decide)
  have b5 := hD.2.2.2.2.2.2.2
  rw [h] at g5
  have z0 : (0 : Int32).toInt = 0 := by decide
  omega
theorem one_i {i : Nat} (h : i < 8) : (1 + nI i).toInt = ((1 + i : Nat) : Int) := by
  have h9 : (nI i).toInt = (i : Int) := nI_toInt (by omega)
  have z1 : (1 : Int32).toInt = 1 := by decide
  rw [sc_add (by omega) (by omega)]
  omega
set_option maxRecDepth 20000 in
theorem c_mmay {M : fmM} {Q : fmR → fmM → Prop} {D : dD} {S : aS} {i : Nat} (hD : dOk D) (hs : mst M D S) (ho : stO D S) (hi : i < D.1) (ht : ¬ S.1.2.2.1.testBit i = true → ¬ S.2 i = 0 → Q (.inl (some (.int 1))) M) (hf : (S.1.2.2.1.testBit i = true ∨ S.2 i = 0) → Q (.inl (some (.int 0))) M) : pvGood Tm 1 qX11_mayWrite [.ref 0, .ref 7, .int (nI i)] M Q := by
  refine pvGood_of (Nat.le_of_ble_eq_true rfl) ?_
  show pvEv Tm 1 qX11_mayWrite 0 [some (.ref 0), some (.ref 7), some (.int (nI i))] [] M Q
  have d8 := hD.1
  have hi9 : (nI i).toInt = (i : Int) := nI_toInt (by omega)
  have hi8 : i < 8 := (by omega)
  have h1i := one_i hi8
  have e0 : M.1 7 (Int32.toNatClampNeg 0) = nI S.1.2.2.1 := nI_is hs.1 (by have := ho.2.2.1; omega)
  have g := hs.2.2.2.2.2.2 i hi
  have g10 : (M.1 7 (Int32.toNatClampNeg 10)).toInt = (S.1.1 : Int) := hs.2.1
  have bs := ho.2.2.2.2.2.2.1 i hi
  refine pv_aloadn (pc := 0) (n := 1) 1 rfl rfl (fm_dec dtX11_mayWrite 0 rfl) ?_
  refine pv_iconst (pc := 1) (v := 0) (by decide) (fm_dec dtX11_mayWrite 1 rfl) ?_
  refine pv_iald (k := 7) (n := 14) (pc := 2) (by decide) rfl rfl (fm_inl (by decide)) (fm_dec dtX11_mayWrite 2 rfl) ?_
  refine pv_iloadn (pc := 3) (n := 2) 2 rfl rfl (fm_dec dtX11_mayWrite 3 rfl) ?_
  refine pv_iS2 (d' := 0) (pc := 4) pcs_X11_256 (Nat.le_of_ble_eq_true rfl) (by decide) (fm_dec dtX11_mayWrite 4 rfl) ?_
  refine c_has (fun h4 => ?_) (fun h4 => ?_)
  · refine pv_then1 ?_
    refine pv_if_ne (pc := 7) 26 (by decide) (fm_dec dtX11_mayWrite 5 rfl) (fun _ => ?_) (fun hc7 => by exfalso; revert hc7; decide)
    refine pv_iconst (pc := 26) (v := 0) (by decide) (fm_dec dtX11_mayWrite 17 rfl) ?_
    exact pv_zreturn (pc := 27) rfl (by first | exact Or.inr rfl | exact Or.inl rfl) (fm_dec dtX11_mayWrite 18 rfl) (hf (Or.inl ((has8 _ ho.2.2.1 i hi8).mp (by rw [← e0]; exact h4))))
  · refine pv_then1 ?_
    refine pv_if_ne (pc := 7) 26 (by decide) (fm_dec dtX11_mayWrite 5 rfl) (fun hc7 => by exfalso; revert hc7; decide) (fun _ => ?_)
    refine pv_aloadn (pc := 10) (n := 1) 1 rfl rfl (fm_dec dtX11_mayWrite 6 rfl) ?_
    refine pv_iconst (pc := 11) (v := 1) (by decide) (fm_dec dtX11_mayWrite 7 rfl) ?_
    refine pv_iloadn (pc := 12) (n := 2) 2 rfl rfl (fm_dec dtX11_mayWrite 8 rfl) ?_
    refine pv_iadd (pc := 13) (fm_dec dtX11_mayWrite 9 rfl) ?_
    refine pv_iald (k := 7) (n := 14) (pc := 14) (by decide) rfl rfl (ix_in h1i (by omega)) (fm_dec dtX11_mayWrite 10 rfl) ?_
    rw [i32_cl h1i]
    refine pv_aloadn (pc := 15) (n := 1) 1 rfl rfl (fm_dec dtX11_mayWrite 11 rfl) ?_
    refine pv_bipush (pc := 16) (v := 10) (by decide) (fm_dec dtX11_mayWrite 12 rfl) ?_
    refine pv_iald (k := 7) (n := 14) (pc := 18) (by decide) rfl rfl (fm_inl (by decide)) (fm_dec dtX11_mayWrite 13 rfl) ?_
    refine pv_icmp_eq (pc := 19) 26 (by decide) (fm_dec dtX11_mayWrite 14 rfl) (fun hc19 => ?_) (fun hc19 => ?_)
    · refine pv_iconst (pc := 26) (v := 0) (by decide) (fm_dec dtX11_mayWrite 17 rfl) ?_
      exact pv_zreturn (pc := 27) rfl (by first | exact Or.inr rfl | exact Or.inl rfl) (fm_dec dtX11_mayWrite 18 rfl) (hf (Or.inr (by have h9 := congrArg Int32.toInt hc19; rw [g, g10] at h9; split at h9; omega; omega)))
    · refine pv_iconst (pc := 22) (v := 1) (by decide) (fm_dec dtX11_mayWrite 15 rfl) ?_
      refine pv_goto (pc := 23) 27 (by decide) (fm_dec dtX11_mayWrite 16 rfl) ?_
      exact pv_zreturn (pc := 27) rfl (by first | exact Or.inr rfl | exact Or.inl rfl) (fm_dec dtX11_mayWrite 18 rfl) (ht (fun h9 => h4 (by rw [e0]; exact (has8 _ ho.2.2.1 i hi8).mpr h9)) (fun h9 => hc19 (i32_ext (by rw [g, g10, if_neg (by omega)]; omega))))
def wrM2 (M : fmM) (i : Nat) : fmM := fmI (fmI M 7 9 (M.1 7 9 - hrV M i)) 7 (1 + i) (M.1 7 10)
theorem wr_st {M : fmM} {D : dD} {S : aS} {i : Nat} (hD : dOk D) (hY : mdw M D) (hs : mst M D S) (ho : stO D S) (hi : i < D.1) (hle : hoS D S i ≤ S.1.2.1) : mst (wrM2 M i) D ((S.1.1, S.1.2.1 - hoS D S i, S.1.2.2), fun j => if j = i then 0 else S.2 j) := by
  have hh := hrV_n hD hY hs ho hi
  obtain ⟨a, b, c, d, e, f, g⟩ := hs
  have d8 := hD.1
  have h12 := ho.2.1
  have k : ∀ j, ¬ j = 9 → ¬ j = 1 + i → (wrM2 M i).1 7 j = M.1 7 j := fun j n1 n2 => by
    unfold wrM2
    rw [fmI_j _ _ n2, fmI_j _ _ n1]
  refine ⟨by rw [k 0 (by omega) (by omega)]; exact a, by rw [k 10 (by omega) (by omega)]; exact b, ?_, by rw [k 11 (by omega) (by omega)]; exact d, by rw [k 12 (by omega) (by omega)]; exact e, by rw [k 13 (by omega) (by omega)]; exact f, fun j hj => ?_⟩
  · unfold wrM2
    rw [fmI_j _ _ (by omega), fmI_s, sc_sub (by omega) (by omega)]
    show _ = ((S.1.2.1 - hoS D S i : Nat) : Int)
    omega
  · show _ = if (if j = i then (0 : Int) else S.2 j) = -1 then -1000 else (S.1.1 : Int) - (if j = i then 0 else S.2 j)
    by_cases e0 : j = i
    · subst e0
      unfold wrM2
      rw [fmI_s, if_pos rfl, if_neg (by decide)]
      omega
    · rw [k (1 + j) (by omega) (by omega), if_neg e0]
      exact g j hj
set_option maxRecDepth 20000 in
theorem c_mwri {M : fmM} {Q : fmR → fmM → Prop} {D : dD} {i : Nat} (hD : dOk D) (hY : mdw M D) (hi : i < D.1) (hq : Q (.inl none) (wrM2 M i)) : pvGood Tm 3 qX11_writes [.ref 0, .ref 7, .int (nI i)] M Q := by
  refine pvGood_of (Nat.le_of_ble_eq_true rfl) ?_
  show pvEv Tm 3 qX11_writes 0 [some (.ref 0), some (.ref 7), some (.int (nI i))] [] M Q
  have d8 := hD.1
  have hi9 : (nI i).toInt = (i : Int) := nI_toInt (by omega)
  have hi8 : i < 8 := (by omega)
  have h1i := one_i hi8
  refine pv_aloadn (pc := 0) (n := 1) 1 rfl rfl (fm_dec dtX11_writes 0 rfl) ?_
  refine pv_bipush (pc := 1) (v := 9) (by decide) (fm_dec dtX11_writes 1 rfl) ?_
  refine pv_dup2 (pc := 3) rfl rfl (fm_dec dtX11_writes 2 rfl) ?_
  refine pv_iald (k := 7) (n := 14) (pc := 4) (by decide) rfl rfl (fm_inl (by decide)) (fm_dec dtX11_writes 3 rfl) ?_
  refine pv_aloadn (pc := 5) (n := 0) 0 rfl rfl (fm_dec dtX11_writes 4 rfl) ?_
  refine pv_aloadn (pc := 6) (n := 1) 1 rfl rfl (fm_dec dtX11_writes 5 rfl) ?_
  refine pv_iloadn (pc := 7) (n := 2) 2 rfl rfl (fm_dec dtX11_writes 6 rfl) ?_
  refine pv_invV2 (k := 0) (d' := 2) (pc := 8) pcv_X11_290 (by decide) rfl (Nat.le_of_ble_eq_true rfl) (by decide) (fm_dec dtX11_writes 7 rfl) ?_
  refine c_hours7 hi9 hi8 (h5_ne hD hY) ?_
  refine pv_then1 ?_
  refine pv_isub (pc := 11) (fm_dec dtX11_writes 8 rfl) ?_
  refine pv_iast (k := 7) (n := 14) (pc := 12) (by decide) rfl rfl (fm_inl (by decide)) (fm_dec dtX11_writes 9 rfl) ?_
  refine pv_aloadn (pc := 13) (n := 1) 1 rfl rfl (fm_dec dtX11_writes 10 rfl) ?_
  refine pv_iconst (pc := 14) (v := 1) (by decide) (fm_dec dtX11_writes 11 rfl) ?_
  refine pv_iloadn (pc := 15) (n := 2) 2 rfl rfl (fm_dec dtX11_writes 12 rfl) ?_
  refine pv_iadd (pc := 16) (fm_dec dtX11_writes 13 rfl) ?_
  refine pv_aloadn (pc := 17) (n := 1) 1 rfl rfl (fm_dec dtX11_writes 14 rfl) ?_
  refine pv_bipush (pc := 18) (v := 10) (by decide) (fm_dec dtX11_writes 15 rfl) ?_
  refine pv_iald (k := 7) (n := 14) (pc := 20) (by decide) rfl rfl (fm_inl (by decide)) (fm_dec dtX11_writes 16 rfl) ?_
  refine pv_iast (k := 7) (n := 14) (pc := 21) (by decide) rfl rfl (ix_in h1i (by omega)) (fm_dec dtX11_writes 17 rfl) ?_
  rw [i32_cl h1i]
  exact pv_return (pc := 22) rfl (fm_dec dtX11_writes 18 rfl) hq
def dmM (M : fmM) (c : Int32) (i : Nat) (no : Bool) : fmM := fmI (fmI (if no then fmI (fmI (fmI M 7 13 (M.1 7 13 + c)) 7 11 (M.1 7 11 + 1)) 7 9 (pvMx true 0 (M.1 7 9 - 2)) else fmI (fmI M 7 13 (M.1 7 13 + c)) 7 12 (M.1 7 12 + 1)) 7 0 (M.1 7 0 ||| 1 <<< (nI i &&& 31))) 7 (1 + i) (-1000)
theorem dm_fr {M0 M : fmM} {c : Int32} {i : Nat} {no : Bool} (h : mFr M0 M) : mFr M0 (dmM M c i no) := by
  unfold dmM
  cases no with
  | true => exact (((h.put).put).put).put.put
  | false => exact ((h.put).put).put.put
theorem dm_st {M : fmM} {D : dD} {cs : tC} {S : aS} {i : Nat} {c : Int32} (hD : dOk D) (hs : mst M D S) (ho : stO D S) (hi : i < D.1) (ht : S.1.2.2.1.testBit i = false) (hc : c.toInt = coS D cs S i) : ∃ S', diS D cs S i = some S' ∧ mst (dmM M c i (decide (S.2 i = -1))) D S' := by
  obtain ⟨a, b, c0, d, e, f, g⟩ := hs
  have d8 := hD.1
  have hcb := coS_b (cs := cs) (S := S) hD hi
  have p8 := pop8_le _ ho.2.2.1
  have hp := ho.2.2.2.1
  have h12 := ho.2.1
  have l1 := ho.2.2.2.2.1
  have l2 := ho.2.2.2.2.2.1
  have z0 : (0 : Int32).toInt = 0 := by decide
  have z1 : (1 : Int32).toInt = 1 := by decide
  have z2 : (2 : Int32).toInt = 2 := by decide
  have zm : (-1000 : Int32).toInt = -1000 := by decide
  have e1 : M.1 7 0 = nI S.1.2.2.1 := nI_is a (by have := ho.2.2.1; omega)
  have eo : (M.1 7 0 ||| 1 <<< (nI i &&& 31)).toInt = ((S.1.2.2.1 ||| 1 <<< i : Nat) : Int) := by rw [e1]; exact or8n _ ho.2.2.1 i (by omega)
  have el : (M.1 7 13 + c).toInt = S.1.2.2.2.2.2 + coS D cs S i := by rw [sc_add (by omega) (by omega), f, hc]
  unfold diS
  rw [if_neg (by rw [ht]; decide)]
  by_cases hm : S.2 i = -1
  · rw [if_pos hm]
    refine ⟨_, rfl, ?_⟩
    have e9 : dmM M c i (decide (S.2 i = -1)) = fmI (fmI (fmI (fmI (fmI M 7 13 (M.1 7 13 + c)) 7 11 (M.1 7 11 + 1)) 7 9 (pvMx true 0 (M.1 7 9 - 2))) 7 0 (M.1 7 0 ||| 1 <<< (nI i &&& 31))) 7 (1 + i) (-1000) := by
      unfold dmM
      rw [if_pos (decide_eq_true hm)]
    rw [e9]
    refine ⟨?_, ?_, ?_, ?_, ?_, ?_, fun j hj => ?_⟩
    · rw [fmI_j _ _ (by omega), fmI_s]; exact eo
    · rw [fmI_j _ _ (by omega), fmI_j _ _ (by decide), fmI_j _ _ (by decide), fmI_j _ _ (by decide), fmI_j _ _ (by decide)]; exact b
    · rw [fmI_j _ _ (by omega), fmI_j _ _ (by decide), fmI_s, mxt, sc_sub (by omega) (by omega), z0, z2, c0]
      show _ = ((S.1.2.1 - 2 : Nat) : Int)
      omega
    · rw [fmI_j _ _ (by omega), fmI_j _ _ (by decide), fmI_j _ _ (by decide), fmI_s, sc_add (by omega) (by omega)]
      show _ = ((S.1.2.2.2.1 + 1 : Nat) : Int)
      omega
    · rw [fmI_j _ _ (by omega), fmI_j _ _ (by decide), fmI_j _ _ (by decide), fmI_j _ _ (by decide), fmI_j _ _ (by decide)]; exact e
    · rw [fmI_j _ _ (by omega), fmI_j _ _ (by decide), fmI_j _ _ (by decide), fmI_j _ _ (by decide), fmI_s]; exact el
    · show _ = if S.2 j = -1 then -1000 else (S.1.1 : Int) - S.2 j
      by_cases e0 : j = i
      · subst e0
        rw [fmI_s, if_pos hm]
        exact zm
      · rw [fmI_j _ _ (by omega), fmI_j _ _ (by omega), fmI_j _ _ (by omega), fmI_j _ _ (by omega), fmI_j _ _ (by omega)]
        exact g j hj
  · rw [if_neg hm]
    refine ⟨_, rfl, ?_⟩
    have e9 : dmM M c i (decide (S.2 i = -1)) = fmI (fmI (fmI (fmI M 7 13 (M.1 7 13 + c)) 7 12 (M.1 7 12 + 1)) 7 0 (M.1 7 0 ||| 1 <<< (nI i &&& 31))) 7 (1 + i) (-1000) := by
      unfold dmM
      rw [if_neg (by rw [decide_eq_true_eq]; exact hm)]
    rw [e9]
    refine ⟨?_, ?_, ?_, ?_, ?_, ?_, fun j hj => ?_⟩
    · rw [fmI_j _ _ (by omega), fmI_s]; exact eo
    · rw [fmI_j _ _ (by omega), fmI_j _ _ (by decide), fmI_j _ _ (by decide), fmI_j _ _ (by decide)]; exact b
    · rw [fmI_j _ _ (by omega), fmI_j _ _ (by decide), fmI_j _ _ (by decide), fmI_j _ _ (by decide)]; exact c0
    · rw [fmI_j _ _ (by omega), fmI_j _ _ (by decide), fmI_j _ _ (by decide), fmI_j _ _ (by decide)]; exact d
    · rw [fmI_j _ _ (by omega), fmI_j _ _ (by decide), fmI_s, sc_add (by omega) (by omega)]
      show _ = ((S.1.2.2.2.2.1 + 1 : Nat) : Int)
      omega
    · rw [fmI_j _ _ (by omega), fmI_j _ _ (by decide), fmI_j _ _ (by decide), fmI_s]; exact el
    · show _ = if (if j = i then (-1 : Int) else S.2 j) = -1 then -1000 else (S.1.1 : Int) - (if j = i then -1 else S.2 j)
      by_cases e0 : j = i
      · subst e0
        rw [fmI_s, if_pos rfl, if_pos rfl]
        exact zm
      · rw [fmI_j _ _ (by omega), fmI_j _ _ (by omega), fmI_j _ _ (by omega), fmI_j _ _ (by omega), if_neg e0]
        exact g j hj
set_option maxRecDepth 20000 in
theorem c_mcof {M : fmM} {Q : fmR → fmM → Prop} {D : dD} {cs : tC} {S : aS} {i : Nat} (hD : dOk D) (hY : mdw M D) (hL : lwM M cs) (hd : cs = [] ∨ dpB 23 0 cs = some 1) (hs : mst M D S) (ho : stO D S) (hi : i < D.1) (ht : S.1.2.2.1.testBit i = false) (hq : ∀ (M' : fmM) (r : Int32), (∀ k j, k ≠ 5 → k ≠ 6 → M'.1 k j = M.1 k j) → M'.2 = M.2 → r.toInt = coS D cs S i → Q (.inl (some (.int r))) M') : pvGood Tm 7 qX11_costOf [.ref 0, .ref 7, .int (nI i)] M Q := by
  refine pvGood_of (Nat.le_of_ble_eq_true rfl) ?_
  show pvEv Tm 7 qX11_costOf 0 [some (.ref 0), some (.ref 7), some (.int (nI i))] [] M Q
  have d8 := hD.1
  have hi9 : (nI i).toInt = (i : Int) := nI_toInt (by omega)
  have hi8 : i < 8 := (by omega)
  have h1i := one_i hi8
  have e0 : M.1 7 (Int32.toNatClampNeg 0) = nI S.1.2.2.1 := nI_is hs.1 (by have := ho.2.2.1; omega)
  refine pv_aloadn (pc := 0) (n := 1) 1 rfl rfl (fm_dec dtX11_costOf 0 rfl) ?_
  refine pv_iconst (pc := 1) (v := 0) (by decide) (fm_dec dtX11_costOf 1 rfl) ?_
  refine pv_iald (k := 7) (n := 14) (pc := 2) (by decide) rfl rfl (fm_inl (by decide)) (fm_dec dtX11_costOf 2 rfl) ?_
  refine pv_iloadn (pc := 3) (n := 2) 2 rfl rfl (fm_dec dtX11_costOf 3 rfl) ?_
  refine pv_iS2 (d' := 0) (pc := 4) pcs_X11_256 (Nat.le_of_ble_eq_true rfl) (by decide) (fm_dec dtX11_costOf 4 rfl) ?_
  refine c_has (fun h4 => ?_) (fun h4 => ?_)
  · refine pv_then1 ?_
    refine pv_if_eq (pc := 7) 14 (by decide) (fm_dec dtX11_costOf 5 rfl) (fun hc7 => by exfalso; revert hc7; decide) (fun _ => ?_)
    refine pv_iconst (pc := 10) (v := 0) (by decide) (fm_dec dtX11_costOf 6 rfl) ?_
    refine pv_goto (pc := 11) 29 (by decide) (fm_dec dtX11_costOf 7 rfl) ?_
    exact pv_ireturn (pc := 29) rfl (fm_dec dtX11_costOf 20 rfl) (by exfalso; have h9 := (has8 _ ho.2.2.1 i hi8).mp (by rw [← e0]; exact h4); rw [ht] at h9; cases h9)
  · refine pv_then1 ?_
    refine pv_if_eq (pc := 7) 14 (by decide) (fm_dec dtX11_costOf 5 rfl) (fun _ => ?_) (fun hc7 => by exfalso; revert hc7; decide)
    refine pv_aloadn (pc := 14) (n := 0) 0 rfl rfl (fm_dec dtX11_costOf 8 rfl) ?_
    refine pv_aloadn (pc := 15) (n := 1) 1 rfl rfl (fm_dec dtX11_costOf 9 rfl) ?_
    refine pv_iloadn (pc := 16) (n := 2) 2 rfl rfl (fm_dec dtX11_costOf 10 rfl) ?_
    refine pv_aloadn (pc := 17) (n := 1) 1 rfl rfl (fm_dec dtX11_costOf 11 rfl) ?_
    refine pv_iconst (pc := 18) (v := 1) (by decide) (fm_dec dtX11_costOf 12 rfl) ?_
    refine pv_iloadn (pc := 19) (n := 2) 2 rfl rfl (fm_dec dtX11_costOf 13 rfl) ?_
    refine pv_iadd (pc := 20) (fm_dec dtX11_costOf 14 rfl) ?_
    refine pv_iald (k := 7) (n := 14) (pc := 21) (by decide) rfl rfl (ix_in h1i (by omega)) (fm_dec dtX11_costOf 15 rfl) ?_
    rw [i32_cl h1i]
    refine pv_aloadn (pc := 22) (n := 1) 1 rfl rfl (fm_dec dtX11_costOf 16 rfl) ?_
    refine pv_bipush (pc := 23) (v := 10) (by decide) (fm_dec dtX11_costOf 17 rfl) ?_
    refine pv_iald (k := 7) (n := 14) (pc := 25) (by decide) rfl rfl (fm_inl (by decide)) (fm_dec dtX11_costOf 18 rfl) ?_
    refine pv_invV4 (k := 0) (d' := 6) (pc := 26) pcv_X11_280 (by decide) rfl (Nat.le_of_ble_eq_true rfl) (by decide) (fm_dec dtX11_costOf 19 rfl) ?_
    refine c_mco hD hY hL hd hs ho hi hs.2.1 (hs.2.2.2.2.2.2 i hi) (fun M26 r26 g26 h26 e26 => ?_)
    refine pv_then1 ?_
    exact pv_ireturn (pc := 29) rfl (fm_dec dtX11_costOf 20 rfl) (hq M26 r26 g26 h26 e26)
set_option maxRecDepth 20000 in
theorem c_mdie {M : fmM} {Q : fmR → fmM → Prop} {D : dD} {cs : tC} {S : aS} {i : Nat} (hD : dOk D) (hY : mdw M D) (hL : lwM M cs) (hd : cs = [] ∨ dpB 23 0 cs = some 1) (hs : mst M D S) (ho : stO D S) (hi : i < D.1) (ht : S.1.2.2.1.testBit i = false) (hq : ∀ (M' : fmM) (S' : aS), diS D cs S i = some S' → mst M' D S' → mFr M M' → Q (.inl none) M') : pvGood Tm 8 qX11_dies [.ref 0, .ref 7, .int (nI i)] M Q := by
  refine pvGood_of (Nat.le_of_ble_eq_true rfl) ?_
  show pvEv Tm 8 qX11_dies 0 [some (.ref 0), some (.ref 7), some (.int (nI i)), none] [] M Q
  have d8 := hD.1
  have hi9 : (nI i).toInt = (i : Int) := nI_toInt (by omega)
  have hi8 : i < 8 := (by omega)
  have h1i := one_i hi8
  refine pv_aloadn (pc := 0) (n := 0) 0 rfl rfl (fm_dec dtX11_dies 0 rfl) ?_
  refine pv_aloadn (pc := 1) (n := 1) 1 rfl rfl (fm_dec dtX11_dies 1 rfl) ?_
  refine pv_iloadn (pc := 2) (n := 2) 2 rfl rfl (fm_dec dtX11_dies 2 rfl) ?_
  refine pv_invV2 (k := 0) (d' := 7) (pc := 3) pcv_X11_293 (by decide) rfl (Nat.le_of_ble_eq_true rfl) (by decide) (fm_dec dtX11_dies 3 rfl) ?_
  refine c_mcof hD hY hL hd hs ho hi ht (fun M6 r6 g6 h6 e6 => ?_)
  refine pv_then1 ?_
  refine pv_istoren (pc := 6) (n := 3) 3 rfl (by decide) rfl (fm_dec dtX11_dies 4 rfl) ?_
  dsimp only [List.set_cons_zero, List.set_cons_succ]
  have hs6 : mst M6 D S := hs.of (fun j => g6 7 j (by decide) (by decide))
  obtain ⟨S9, e9, h9⟩ := dm_st (cs := cs) hD hs6 ho hi ht e6
  have f9 : mFr M (dmM M6 r6 i (decide (S.2 i = -1))) := dm_fr ⟨fun k j a b _ => g6 k j a b, h6⟩
  have n9 : (fmI M6 7 13 (M6.1 7 13 + r6)).1 7 (1 + i) = M6.1 7 (1 + i) := fmI_j _ _ (by omega)
  refine pv_aloadn (pc := 7) (n := 1) 1 rfl rfl (fm_dec dtX11_dies 5 rfl) ?_
  refine pv_bipush (pc := 8) (v := 13) (by decide) (fm_dec dtX11_dies 6 rfl) ?_
  refine pv_dup2 (pc := 10) rfl rfl (fm_dec dtX11_dies 7 rfl) ?_
  refine pv_iald (k := 7) (n := 14) (pc := 11) (by decide) rfl rfl (fm_inl (by decide)) (fm_dec dtX11_dies 8 rfl) ?_
  refine pv_iloadn (pc := 12) (n := 3) 3 rfl rfl (fm_dec dtX11_dies 9 rfl) ?_
  refine pv_iadd (pc := 13) (fm_dec dtX11_dies 10 rfl) ?_
  refine pv_iast (k := 7) (n := 14) (pc := 14) (by decide) rfl rfl (fm_inl (by decide)) (fm_dec dtX11_dies 11 rfl) ?_
  refine pv_aloadn (pc := 15) (n := 1) 1 rfl rfl (fm_dec dtX11_dies 12 rfl) ?_
  refine pv_iloadn (pc := 16) (n := 2) 2 rfl rfl (fm_dec dtX11_dies 13 rfl) ?_
  refine pv_iS2 (d' := 0) (pc := 17) pcs_X11_283 (Nat.le_of_ble_eq_true rfl) (by decide) (fm_dec dtX11_dies 14 rfl) ?_
  refine c_hasPiece7 hi9 hi8 (fun h17 => ?_) (fun h17 => ?_)
  · refine pv_then1 ?_
    refine pv_if_eq (pc := 20) 34 (by decide) (fm_dec dtX11_dies 15 rfl) (fun hc20 => by exfalso; revert hc20; decide) (fun _ => ?_)
    refine pv_aloadn (pc := 23) (n := 1) 1 rfl rfl (fm_dec dtX11_dies 16 rfl) ?_
    refine pv_bipush (pc := 24) (v := 12) (by decide) (fm_dec dtX11_dies 17 rfl) ?_
    refine pv_dup2 (pc := 26) rfl rfl (fm_dec dtX11_dies 18 rfl) ?_
    refine pv_iald (k := 7) (n := 14) (pc := 27) (by decide) rfl rfl (fm_inl (by decide)) (fm_dec dtX11_dies 19 rfl) ?_
    refine pv_iconst (pc := 28) (v := 1) (by decide) (fm_dec dtX11_dies 20 rfl) ?_
    refine pv_iadd (pc := 29) (fm_dec dtX11_dies 21 rfl) ?_
    refine pv_iast (k := 7) (n := 14) (pc := 30) (by decide) rfl rfl (fm_inl (by decide)) (fm_dec dtX11_dies 22 rfl) ?_
    refine pv_goto (pc := 31) 56 (by decide) (fm_dec dtX11_dies 23 rfl) ?_
    refine pv_aloadn (pc := 56) (n := 1) 1 rfl rfl (fm_dec dtX11_dies 41 rfl) ?_
    refine pv_iconst (pc := 57) (v := 0) (by decide) (fm_dec dtX11_dies 42 rfl) ?_
    refine pv_dup2 (pc := 58) rfl rfl (fm_dec dtX11_dies 43 rfl) ?_
    refine pv_iald (k := 7) (n := 14) (pc := 59) (by decide) rfl rfl (fm_inl (by decide)) (fm_dec dtX11_dies 44 rfl) ?_
    refine pv_iconst (pc := 60) (v := 1) (by decide) (fm_dec dtX11_dies 45 rfl) ?_
    refine pv_iloadn (pc := 61) (n := 2) 2 rfl rfl (fm_dec dtX11_dies 46 rfl) ?_
    refine pv_ishl (pc := 62) (fm_dec dtX11_dies 47 rfl) ?_
    refine pv_ior (pc := 63) (fm_dec dtX11_dies 48 rfl) ?_
    refine pv_iast (k := 7) (n := 14) (pc := 64) (by decide) rfl rfl (fm_inl (by decide)) (fm_dec dtX11_dies 49 rfl) ?_
    refine pv_aloadn (pc := 65) (n := 1) 1 rfl rfl (fm_dec dtX11_dies 50 rfl) ?_
    refine pv_iconst (pc := 66) (v := 1) (by decide) (fm_dec dtX11_dies 51 rfl) ?_
    refine pv_iloadn (pc := 67) (n := 2) 2 rfl rfl (fm_dec dtX11_dies 52 rfl) ?_
    refine pv_iadd (pc := 68) (fm_dec dtX11_dies 53 rfl) ?_
    refine pv_sipush (pc := 69) (v := (-1000)) (by decide) (fm_dec dtX11_dies 54 rfl) ?_
    refine pv_iast (k := 7) (n := 14) (pc := 72) (by decide) rfl rfl (ix_in h1i (by omega)) (fm_dec dtX11_dies 55 rfl) ?_
    rw [i32_cl h1i]
    exact pv_return (pc := 73) rfl (fm_dec dtX11_dies 56 rfl) (by first | (have hm : ¬ S.2 i = -1 := (fun h8 => h17 (n9.trans ((hs6.no ho hi).mpr h8))); have e8 : dmM M6 r6 i (decide (S.2 i = -1)) = _ := (by unfold dmM; rw [if_neg (by rw [decide_eq_true_eq]; exact hm)]); rw [e8] at h9 f9; exact hq _ S9 e9 h9 f9) | (have hm : S.2 i = -1 := (hs6.no ho hi).mp (n9.symm.trans h17); have e8 : dmM M6 r6 i (decide (S.2 i = -1)) = _ := (by unfold dmM; rw [if_pos (decide_eq_true hm)]); rw [e8] at h9 f9; exact hq _ S9 e9 h9 f9))
  · refine pv_then1 ?_
    refine pv_if_eq (pc := 20) 34 (by decide) (fm_dec dtX11_dies 15 rfl) (fun _ => ?_) (fun hc20 => by exfalso; revert hc20; decide)
    refine pv_aloadn (pc := 34) (n := 1) 1 rfl rfl (fm_dec dtX11_dies 24 rfl) ?_
    refine pv_bipush (pc := 35) (v := 11) (by decide) (fm_dec dtX11_dies 25 rfl) ?_
    refine pv_dup2 (pc := 37) rfl rfl (fm_dec dtX11_dies 26 rfl) ?_
    refine pv_iald (k := 7) (n := 14) (pc := 38) (by decide) rfl rfl (fm_inl (by decide)) (fm_dec dtX11_dies 27 rfl) ?_
    refine pv_iconst (pc := 39) (v := 1) (by decide) (fm_dec dtX11_dies 28 rfl) ?_
    refine pv_iadd (pc := 40) (fm_dec dtX11_dies 29 rfl) ?_
    refine pv_iast (k := 7) (n := 14) (pc := 41) (by decide) rfl rfl (fm_inl (by decide)) (fm_dec dtX11_dies 30 rfl) ?_
    refine pv_aloadn (pc := 42) (n := 1) 1 rfl rfl (fm_dec dtX11_dies 31 rfl) ?_
    refine pv_bipush (pc := 43) (v := 9) (by decide) (fm_dec dtX11_dies 32 rfl) ?_
    refine pv_iconst (pc := 45) (v := 0) (by decide) (fm_dec dtX11_dies 33 rfl) ?_
    refine pv_aloadn (pc := 46) (n := 1) 1 rfl rfl (fm_dec dtX11_dies 34 rfl) ?_
    refine pv_bipush (pc := 47) (v := 9) (by decide) (fm_dec dtX11_dies 35 rfl) ?_
    refine pv_iald (k := 7) (n := 14) (pc := 49) (by decide) rfl rfl (fm_inl (by decide)) (fm_dec dtX11_dies 36 rfl) ?_
    refine pv_iconst (pc := 50) (v := 2) (by decide) (fm_dec dtX11_dies 37 rfl) ?_
    refine pv_isub (pc := 51) (fm_dec dtX11_dies 38 rfl) ?_
    refine pv_mm (pc := 52) pmm_X11_240 (by decide) (Nat.le_of_ble_eq_true rfl) (fm_dec dtX11_dies 39 rfl) ?_
    refine pv_iast (k := 7) (n := 14) (pc := 55) (by decide) rfl rfl (fm_inl (by decide)) (fm_dec dtX11_dies 40 rfl) ?_
    refine pv_aloadn (pc := 56) (n := 1) 1 rfl rfl (fm_dec dtX11_dies 41 rfl) ?_
    refine pv_iconst (pc := 57) (v := 0) (by decide) (fm_dec dtX11_dies 42 rfl) ?_
    refine pv_dup2 (pc := 58) rfl rfl (fm_dec dtX11_dies 43 rfl) ?_
    refine pv_iald (k := 7) (n := 14) (pc := 59) (by decide) rfl rfl (fm_inl (by decide)) (fm_dec dtX11_dies 44 rfl) ?_
    refine pv_iconst (pc := 60) (v := 1) (by decide) (fm_dec dtX11_dies 45 rfl) ?_
    refine pv_iloadn (pc := 61) (n := 2) 2 rfl rfl (fm_dec dtX11_dies 46 rfl) ?_
    refine pv_ishl (pc := 62) (fm_dec dtX11_dies 47 rfl) ?_
    refine pv_ior (pc := 63) (fm_dec dtX11_dies 48 rfl) ?_
    refine pv_iast (k := 7) (n := 14) (pc := 64) (by decide) rfl rfl (fm_inl (by decide)) (fm_dec dtX11_dies 49 rfl) ?_
    refine pv_aloadn (pc := 65) (n := 1) 1 rfl rfl (fm_dec dtX11_dies 50 rfl) ?_
    refine pv_iconst (pc := 66) (v := 1) (by decide) (fm_dec dtX11_dies 51 rfl) ?_
    refine pv_iloadn (pc := 67) (n := 2) 2 rfl rfl (fm_dec dtX11_dies 52 rfl) ?_
    refine pv_iadd (pc := 68) (fm_dec dtX11_dies 53 rfl) ?_
    refine pv_sipush (pc := 69) (v := (-1000)) (by decide) (fm_dec dtX11_dies 54 rfl) ?_
    refine pv_iast (k := 7) (n := 14) (pc := 72) (by decide) rfl rfl (ix_in h1i (by omega)) (fm_dec dtX11_dies 55 rfl) ?_
    rw [i32_cl h1i]
    exact pv_return (pc := 73) rfl (fm_dec dtX11_dies 56 rfl) (by first | (have hm : ¬ S.2 i = -1 := (fun h8 => h17 (n9.trans ((hs6.no ho hi).mpr h8))); have e8 : dmM M6 r6 i (decide (S.2 i = -1)) = _ := (by unfold dmM; rw [if_neg (by rw [decide_eq_true_eq]; exact hm)]); rw [e8] at h9 f9; exact hq _ S9 e9 h9 f9) | (have hm : S.2 i = -1 := (hs6.no ho hi).mp (n9.symm.trans h17); have e8 : dmM M6 r6 i (decide (S.2 i = -1)) = _ := (by unfold dmM; rw [if_pos (decide_eq_true hm)]); rw [e8] at h9 f9; exact hq _ S9 e9 h9 f9))
set_option maxRecDepth 20000 in
theorem c_mweek {M : fmM} {Q : fmR → fmM → Prop} {D : dD} {S : aS} (hD : dOk D) (hY : mdw M D) (hs : mst M D S) (ho : stO D S) (hn : weS D S = none → Q (.inl (some (.int 0))) M) (hq : ∀ (M' : fmM) (S' : aS), weS D S = some S' → mst M' D S' → mFr M M' → Q (.inl (some (.int 1))) M') : pvGood Tm 0 qX11_weekEnds [.ref 0, .ref 7] M Q := by
  refine pvGood_of (Nat.le_of_ble_eq_true rfl) ?_
  show pvEv Tm 0 qX11_weekEnds 0 [some (.ref 0), some (.ref 7)] [] M Q
  have z200 : (200 : Int32).toInt = 200 := (by decide)
  have b2 := hD.2.2.2.2.1
  have w2 := ho.1
  have g10 : (M.1 7 (Int32.toNatClampNeg 10)).toInt = (S.1.1 : Int) := hs.2.1
  refine pv_aloadn (pc := 0) (n := 1) 1 rfl rfl (fm_dec dtX11_weekEnds 0 rfl) ?_
  refine pv_bipush (pc := 1) (v := 10) (by decide) (fm_dec dtX11_weekEnds 1 rfl) ?_
  refine pv_iald (k := 7) (n := 14) (pc := 3) (by decide) rfl rfl (fm_inl (by decide)) (fm_dec dtX11_weekEnds 2 rfl) ?_
  refine pv_sipush (pc := 4) (v := 200) (by decide) (fm_dec dtX11_weekEnds 3 rfl) ?_
  refine pv_icmp_ne (pc := 7) 12 (by decide) (fm_dec dtX11_weekEnds 4 rfl) (fun hc7 => ?_) (fun hc7 => ?_)
  · refine pv_aloadn (pc := 12) (n := 1) 1 rfl rfl (fm_dec dtX11_weekEnds 7 rfl) ?_
    refine pv_bipush (pc := 13) (v := 10) (by decide) (fm_dec dtX11_weekEnds 8 rfl) ?_
    refine pv_dup2 (pc := 15) rfl rfl (fm_dec dtX11_weekEnds 9 rfl) ?_
    refine pv_iald (k := 7) (n := 14) (pc := 16) (by decide) rfl rfl (fm_inl (by decide)) (fm_dec dtX11_weekEnds 10 rfl) ?_
    refine pv_iconst (pc := 17) (v := 1) (by decide) (fm_dec dtX11_weekEnds 11 rfl) ?_
    refine pv_iadd (pc := 18) (fm_dec dtX11_weekEnds 12 rfl) ?_
    refine pv_iast (k := 7) (n := 14) (pc := 19) (by decide) rfl rfl (fm_inl (by decide)) (fm_dec dtX11_weekEnds 13 rfl) ?_
    refine pv_aloadn (pc := 20) (n := 1) 1 rfl rfl (fm_dec dtX11_weekEnds 14 rfl) ?_
    refine pv_bipush (pc := 21) (v := 9) (by decide) (fm_dec dtX11_weekEnds 15 rfl) ?_
    refine pv_aloadn (pc := 23) (n := 0) 0 rfl rfl (fm_dec dtX11_weekEnds 16 rfl) ?_
    refine pv_getR (k := 0) (j := 12) (ci := 11) (pc := 24) 4 rfl (by decide) pfl_X11_23 (by decide) rfl (by decide) (fm_dec dtX11_weekEnds 17 rfl) ?_
    refine pv_iconst (pc := 27) (v := 2) (by decide) (fm_dec dtX11_weekEnds 18 rfl) ?_
    refine pv_iald (k := 4) (n := 6) (pc := 28) (by decide) rfl rfl (fm_inl (by decide)) (fm_dec dtX11_weekEnds 19 rfl) ?_
    refine pv_iast (k := 7) (n := 14) (pc := 29) (by decide) rfl rfl (fm_inl (by decide)) (fm_dec dtX11_weekEnds 20 rfl) ?_
    refine pv_iconst (pc := 30) (v := 1) (by decide) (fm_dec dtX11_weekEnds 21 rfl) ?_
    exact pv_zreturn (pc := 31) rfl (by first | exact Or.inr rfl | exact Or.inl rfl) (fm_dec dtX11_weekEnds 22 rfl) (hq _ _ (if_neg (fun h9 => hc7 (i32_ext (by omega)))) ⟨hs.1, (by show (M.1 7 10 + 1).toInt = ((S.1.1 + 1 : Nat) : Int); exact i32_p1 hs.2.1 (by omega)), (by show (M.1 4 2).toInt = (((D.2.2.2.2 2).toNat : Nat) : Int); have g := hY.2.2.1 2 (by decide) (by decide); omega), hs.2.2.2.1, hs.2.2.2.2.1, hs.2.2.2.2.2.1, fun i hi => (by have d8 := hD.1; have g := hs.2.2.2.2.2.2 i hi; have bs := ho.2.2.2.2.2.2.1 i hi; show _ = if (if S.2 i = -1 then (-1 : Int) else S.2 i + 1) = -1 then -1000 else ((S.1.1 + 1 : Nat) : Int) - (if S.2 i = -1 then (-1 : Int) else S.2 i + 1); rw [fmI_j _ _ (by show ¬ 1 + i = 9; omega), fmI_j _ _ (by show ¬ 1 + i = 10; omega), g]; split; rfl; rw [if_neg (by omega)]; omega)⟩ ((mFr.refl M).put.put))
  · refine pv_iconst (pc := 10) (v := 0) (by decide) (fm_dec dtX11_weekEnds 5 rfl) ?_
    exact pv_zreturn (pc := 11) rfl (by first | exact Or.inr rfl | exact Or.inl rfl) (fm_dec dtX11_weekEnds 6 rfl) (hn (if_pos (by have h9 := congrArg Int32.toInt hc7; omega)))
end
-- P 18y
section
-- THE CLASS DOES A WORK
/-- told, law, state and counts, as they stand here -/
def xAll (M : fmM) (D : dD) (cs : tC) (R : gR) : Prop := xdw 3 M D ∧ lwX M cs ∧ xst M D R.1 ∧ stO D R.1 ∧ (M.1 28 4).toInt = (R.2.1 : Int) ∧ (M.1 28 5).toInt = (R.2.2.1 : Int) ∧ (M.1 28 6).toInt = (R.2.2.2 : Int) ∧ R.2.2.1 + R.2.2.2 ≤ R.2.1 ∧ R.2.1 ≤ 200
/-- numbers that can be -/
def nuO (D : dD) (ss : tS) : Prop := ss.length ≤ 150 ∧ ∀ s ∈ ss, (s.1 < 3 → s.2.1 < D.1) ∧ s.2.1 ≤ 20
/-- l stands in ss from place a on -/
def seg (ss : tS) (a : Nat) (l : tS) : Prop := ∀ i, i < l.length → ss[a + i]? = l[i]?
def pFr (M M' : fmM) : Prop := (∀ k j, k ≠ 26 → k ≠ 28 → k ≠ 47 → k ≠ 48 → M'.1 k j = M.1 k j) ∧ (∀ k j, k ≠ 47 → M'.2 k j = M.2 k j)
theorem pFr.refl (M : fmM) : pFr M M := ⟨fun _ _ _ _ _ _ => rfl, fun _ _ _ => rfl⟩
theorem pFr.trans {M M1 M2 : fmM} (h : pFr M M1) (h' : pFr M1 M2) : pFr M M2 := ⟨fun k j a b c d => (h'.1 k j a b c d).trans (h.1 k j a b c d), fun k j a => (h'.2 k j a).trans (h.2 k j a)⟩
theorem pFr.put {M M1 : fmM} {j : Nat} {x : Int32} (h : pFr M M1) : pFr M (fmI M1 28 j x) := ⟨fun k' j' a b c d => by rw [fmI_k _ _ b]; exact h.1 k' j' a b c d, h.2⟩
theorem sFr.p {M M1 : fmM} (h : sFr M M1) : pFr M M1 := ⟨fun k j a _ c d => h.1 k j a c d, h.2⟩
theorem wRep.p {M M' : fmM} {b : Nat} {ss : tS} (h : wRep M b ss) (hf : pFr M M') : wRep M' b ss := fun i c hi => by
  rw [hf.1 29 _ (by decide) (by decide) (by decide) (by decide), hf.1 30 _ (by decide) (by decide) (by decide) (by decide), hf.1 31 _ (by decide) (by decide) (by decide) (by decide)]
  exact h i c hi
theorem lwX.f {M M' : fmM} {cs : tC} (h : lwX M cs) (e : M'.1 23 3 = M.1 23 3) (e2 : ∀ i, M'.1 24 i = M.1 24 i) : lwX M' cs := ⟨by rw [e]; exact h.1, h.2.1, fun i c hi => by rw [e2]; exact h.2.2.1 i c hi, h.2.2.2⟩
theorem xAll.put {M : fmM} {D : dD} {cs : tC} {R : gR} {j : Nat} {x : Int32} (h : xAll M D cs R) (hj : 4 ≤ j ∧ j ≤ 6) : xdw 3 (fmI M 28 j x) D ∧ lwX (fmI M 28 j x) cs ∧ xst (fmI M 28 j x) D R.1 := ⟨h.1.of (fun k j' a b => by rw [fmI_k _ _ (by omega)]), h.2.1.f (by rw [fmI_k _ _ (by decide)]) (fun i => by rw [fmI_k _ _ (by decide)]), h.2.2.1.of (fun k j' a => by rw [fmI_k _ _ (by omega)]) rfl⟩
theorem seg.hd {ss : tS} {a : Nat} {s : Nat × Nat × Nat} {r : tS} (h : seg ss a (s :: r)) : ss[a]? = some s := h 0 (Nat.succ_pos _)
theorem seg.tl {ss : tS} {a : Nat} {s : Nat × Nat × Nat} {r : tS} (h : seg ss a (s :: r)) : seg ss (a + 1) r := fun i hi => by
  have h9 := h (i + 1) (by rw [List.length_cons]; omega)
  rw [show a + 1 + i = a + (i + 1) by omega]
  exact h9
theorem seg.tk {ss : tS} {a n : Nat} {r : tS} (h : seg ss a r) : seg ss a (r.take n) := fun i hi => by
  rw [List.length_take] at hi
  rw [List.getElem?_take_of_lt (by omega)]
  exact h i (by omega)
theorem seg.dp {ss : tS} {a n : Nat} {r : tS} (h : seg ss a r) : seg ss (a + n) (r.drop n) := fun i hi => by
  rw [List.length_drop] at hi
  rw [List.getElem?_drop, show a + n + i = a + (n + i) by omega]
  exact h (n + i) (by omega)
theorem go_0 {D : dD} {cs : tC} {f a : Nat} {R : gR} : goL D cs f a [] R = R := by cases f <;> rfl
theorem go_s {D : dD} {cs : tC} {f a : Nat} {l : tS} {R : gR} (h : ¬ R.2.1 < 200) : goL D cs f a l R = R := by
  cases f with
  | zero => rfl
  | succ f =>
    cases l with
    | nil => rfl
    | cons s r => exact if_neg h
theorem go_1 {D : dD} {cs : tC} {f a : Nat} {s : Nat × Nat × Nat} {r : tS} {R : gR} (h : R.2.1 < 200) (h4 : ¬ s.1 = 4) : goL D cs (f + 1) a (s :: r) R = goL D cs f (a + 1) r (oneR D cs R s.1 s.2.1) := by
  show (if R.2.1 < 200 then (if s.1 = 4 then _ else _) else R) = _
  rw [if_pos h, if_neg h4]
theorem go_4 {D : dD} {cs : tC} {f a : Nat} {s : Nat × Nat × Nat} {r : tS} {R : gR} (h : R.2.1 < 200) (h4 : s.1 = 4) : goL D cs (f + 1) a (s :: r) R = goL D cs f s.2.2 (r.drop (s.2.2 - (a + 1))) (loR (goL D cs f (a + 1) (r.take (s.2.2 - (a + 1)))) s.2.1 (R.1, R.2.1 + 1, R.2.2)) := by
  show (if R.2.1 < 200 then (if s.1 = 4 then _ else _) else R) = _
  rw [if_pos h, if_pos h4]
theorem one_g {D : dD} {cs : tC} {R : gR} {k i : Nat} : (oneR D cs R k i).2.1 = R.2.1 + 1 := by
  unfold oneR
  split <;> rfl
theorem lo_ge {F : gR → gR} (hF : ∀ R : gR, R.2.1 ≤ (F R).2.1) : ∀ (n : Nat) (R : gR), R.2.1 ≤ (loR F n R).2.1 := by
  intro n
  induction n with
  | zero => intro R; exact Nat.le_refl _
  | succ n ih =>
    intro R
    show R.2.1 ≤ (if R.2.1 < 200 then loR F n (F R) else R).2.1
    split
    · exact Nat.le_trans (hF R) (ih _)
    · exact Nat.le_refl _
theorem go_ge {D : dD} {cs : tC} : ∀ (f a : Nat) (l : tS) (R : gR), R.2.1 ≤ (goL D cs f a l R).2.1 := by
  intro f
  induction f with
  | zero => intro a l R; exact Nat.le_refl _
  | succ f ih =>
    intro a l R
    cases l with
    | nil => exact Nat.le_refl _
    | cons s r =>
      by_cases h : R.2.1 < 200
      · by_cases h4 : s.1 = 4
        · rw [go_4 h h4]
          have h1 := lo_ge (F := goL D cs f (a + 1) (r.take (s.2.2 - (a + 1)))) (fun R => ih _ _ R) s.2.1 (R.1, R.2.1 + 1, R.2.2)
          have h2 := ih s.2.2 (r.drop (s.2.2 - (a + 1))) (loR (goL D cs f (a + 1) (r.take (s.2.2 - (a + 1)))) s.2.1 (R.1, R.2.1 + 1, R.2.2))
          have h1 : R.2.1 + 1 ≤ _ := h1
          omega
        · rw [go_1 h h4]
          have h2 := ih (a + 1) r (oneR D cs R s.1 s.2.1)
          rw [one_g] at h2
          omega
      · rw [go_s h]
        exact Nat.le_refl _
theorem wn_1 {g d a : Nat} {s : Nat × Nat × Nat} {r : tS} (h : wnL g d a (s :: r)) (h4 : ¬ s.1 = 4) : s.1 < 4 ∧ s.2.2 = a + 1 ∧ ∃ g', wnL g' d (a + 1) r := by
  cases g with
  | zero => exact absurd h (by intro h; exact h)
  | succ g =>
    unfold wnL at h
    rw [if_neg h4] at h
    exact ⟨h.1, h.2.1, g, h.2.2⟩
theorem wn_4 {g d a : Nat} {s : Nat × Nat × Nat} {r : tS} (h : wnL g d a (s :: r)) (h4 : s.1 = 4) : 0 < d ∧ a + 1 ≤ s.2.2 ∧ s.2.2 ≤ a + 1 + r.length ∧ (∃ g', wnL g' (d - 1) (a + 1) (r.take (s.2.2 - (a + 1)))) ∧ ∃ g', wnL g' d s.2.2 (r.drop (s.2.2 - (a + 1))) := by
  cases g with
  | zero => exact absurd h (by intro h; exact h)
  | succ g =>
    unfold wnL at h
    rw [if_pos h4] at h
    exact ⟨h.1, h.2.1, h.2.2.1, ⟨g, h.2.2.2.1⟩, g, h.2.2.2.2⟩
/-- behind the start of perform, for the steps l that stand from place a on -/
def xpL (D : dD) (cs : tC) (ss : tS) (f : Nat) : Prop := ∀ (M : fmM) (Q : fmR → fmM → Prop) (a o g : Nat) (l : tS) (R : gR) (fr to op av : Int32) (v7 : Option Value), xAll M D cs R → wRep M 0 ss → seg ss a l → a + l.length ≤ ss.length → wnL g (6 - o) a l → o ≤ 6 → av.toInt = (a : Int) → to.toInt = ((a + l.length : Nat) : Int) → op.toInt = (o : Int) → 200 - R.2.1 < f → (∀ M' : fmM, xAll M' D cs (goL D cs f a l R) → pFr M M' → Q (.inl none) M') → pvEv Tx (12 + f) qX9_perform 3 [some (.ref 28), some (.ref 32), some (.ref 47), some (.int fr), some (.int to), some (.int op), some (.int av), v7] [] M Q
theorem xpL.go {D : dD} {cs : tC} {ss : tS} {f : Nat} (h : xpL D cs ss f) {M : fmM} {Q : fmR → fmM → Prop} {a o g : Nat} {l : tS} {R : gR} {to op fr : Int32} (h1 : xAll M D cs R) (h2 : wRep M 0 ss) (h3 : seg ss a l) (h4 : a + l.length ≤ ss.length) (h5 : wnL g (6 - o) a l) (h6 : o ≤ 6) (h7 : fr.toInt = (a : Int)) (h8 : to.toInt = ((a + l.length : Nat) : Int)) (h9 : op.toInt = (o : Int)) (h10 : 200 - R.2.1 < f) (hq : ∀ M' : fmM, xAll M' D cs (goL D cs f a l R) → pFr M M' → Q (.inl none) M') : pvGood Tx (12 + f) qX9_perform [.ref 28, .ref 32, .ref 47, .int fr, .int to, .int op] M Q := by
  refine pvGood_of (Nat.le_of_ble_eq_true rfl) ?_
  show pvEv Tx (12 + f) qX9_perform 0 [some (.ref 28), some (.ref 32), some (.ref 47), some (.int fr), some (.int to), some (.int op), none, none] [] M Q
  refine pv_iloadn (pc := 0) (n := 3) 3 rfl rfl (fm_dec dtX9_perform 0 rfl) ?_
  refine pv_istore (pc := 1) (i := 6) (by decide) rfl (fm_dec dtX9_perform 1 rfl) ?_
  dsimp only [List.set_cons_zero, List.set_cons_succ]
  exact h M Q a o g l R fr to op fr none h1 h2 h3 h4 h5 h6 h7 h8 h9 h10 hq
set_option maxRecDepth 20000 in
theorem xpe_in {Q : fmR → fmM → Prop} {D : dD} {cs : tC} {ss : tS} {f : Nat} (h : xpL D cs ss f) {a oN g9 v e : Nat} {s : Nat × Nat × Nat} {r : tS} {fr to op av : Int32} (hsa : ss[a]? = some s) (hs2 : s.2.1 = v) (hs3 : s.2.2 = e) (h4s : s.1 = 4) (hv20 : v ≤ 20) (hseg : seg ss (a + 1) r) (hlen : a + 1 + r.length ≤ ss.length) (hae : a + 1 ≤ e) (her : e ≤ a + 1 + r.length) (hwn : wnL g9 (6 - (oN + 1)) (a + 1) (r.take (e - (a + 1)))) (ho : oN < 6) (ha : av.toInt = (a : Int)) (ha150 : a < 150) (hop : op.toInt = (oN : Int)) : ∀ (q : Nat) (M : fmM) (R : gR) (c : Nat) (cc : Int32), xAll M D cs R → wRep M 0 ss → 200 - R.2.1 < f → cc.toInt = (c : Int) → c + q = v → (∀ (M' : fmM) (v7 : Option Value), xAll M' D cs (loR (goL D cs f (a + 1) (r.take (e - (a + 1)))) q R) → pFr M M' → pvEv Tx (12 + (f + 1)) qX9_perform 108 [some (.ref 28), some (.ref 32), some (.ref 47), some (.int fr), some (.int to), some (.int op), some (.int av), v7] [] M' Q) → pvEv Tx (12 + (f + 1)) qX9_perform 59 [some (.ref 28), some (.ref 32), some (.ref 47), some (.int fr), some (.int to), some (.int op), some (.int av), some (.int cc)] [] M Q := by
  intro q
  induction q with
  | zero =>
    intro M R c cc hA hW hg hc hcq hq
    have hrow := hW a s hsa
    rw [Nat.zero_add] at hrow
    have hv9 : (M.1 30 a).toInt = (v : Int) := hrow.2.1.trans (by rw [hs2])
    have he9 : (M.1 31 a).toInt = (e : Int) := (hrow.2.2 h4s).trans (by rw [hs3])
    refine pv_iload (pc := 59) (i := 7) rfl (fm_dec dtX9_perform 29 rfl) ?_
    refine pv_aloadn (pc := 61) (n := 0) 0 rfl rfl (fm_dec dtX9_perform 30 rfl) ?_
    refine pv_getR (k := 28) (j := 1) (ci := 9) (pc := 62) 30 rfl (by decide) pfl_X9_15 (by decide) rfl (by decide) (fm_dec dtX9_perform 31 rfl) ?_
    refine pv_iload (pc := 65) (i := 6) rfl (fm_dec dtX9_perform 32 rfl) ?_
    refine pv_iald (k := 30) (n := 150) (pc := 67) (by decide) rfl rfl (ix_in ha ha150) (fm_dec dtX9_perform 33 rfl) ?_
    refine pv_icmp_ge (pc := 68) 108 (by decide) (fm_dec dtX9_perform 34 rfl) (fun _ => ?_) (fun hc68 => by exfalso; apply hc68; rw [sc_le, i32_cl ha]; omega)
    exact hq M _ hA (pFr.refl M)
  | succ q ih =>
    intro M R c cc hA hW hg hc hcq hq
    have hrow := hW a s hsa
    rw [Nat.zero_add] at hrow
    have hv9 : (M.1 30 a).toInt = (v : Int) := hrow.2.1.trans (by rw [hs2])
    have he9 : (M.1 31 a).toInt = (e : Int) := (hrow.2.2 h4s).trans (by rw [hs3])
    refine pv_iload (pc := 59) (i := 7) rfl (fm_dec dtX9_perform 29 rfl) ?_
    refine pv_aloadn (pc := 61) (n := 0) 0 rfl rfl (fm_dec dtX9_perform 30 rfl) ?_
    refine pv_getR (k := 28) (j := 1) (ci := 9) (pc := 62) 30 rfl (by decide) pfl_X9_15 (by decide) rfl (by decide) (fm_dec dtX9_perform 31 rfl) ?_
    refine pv_iload (pc := 65) (i := 6) rfl (fm_dec dtX9_perform 32 rfl) ?_
    refine pv_iald (k := 30) (n := 150) (pc := 67) (by decide) rfl rfl (ix_in ha ha150) (fm_dec dtX9_perform 33 rfl) ?_
    refine pv_icmp_ge (pc := 68) 108 (by decide) (fm_dec dtX9_perform 34 rfl) (fun hc68 => by exfalso; rw [sc_le, i32_cl ha] at hc68; omega) (fun _ => ?_)
    refine pv_aloadn (pc := 71) (n := 0) 0 rfl rfl (fm_dec dtX9_perform 35 rfl) ?_
    refine pv_getI (k := 28) (j := 4) (ci := 9) (pc := 72) pfl_X9_25 (by decide) rfl (by decide) (fm_dec dtX9_perform 36 rfl) ?_
    refine pv_sipush (pc := 75) (v := 200) (by decide) (fm_dec dtX9_perform 37 rfl) ?_
    refine pv_icmp_ge (pc := 78) 108 (by decide) (fm_dec dtX9_perform 38 rfl) (fun hc78 => ?_) (fun hc78 => ?_)
    · have eL : loR (goL D cs f (a + 1) (r.take (e - (a + 1)))) (q + 1) R = R := if_neg (by rw [sc_le] at hc78; have z200 : (200 : Int32).toInt = 200 := (by decide); have h9 := hA.2.2.2.2.1; omega)
      rw [eL] at hq
      exact hq M _ hA (pFr.refl M)
    · have hg2 : R.2.1 < 200 := (by rw [sc_le] at hc78; have z200 : (200 : Int32).toInt = 200 := (by decide); have h9 := hA.2.2.2.2.1; omega)
      have eL : loR (goL D cs f (a + 1) (r.take (e - (a + 1)))) (q + 1) R = loR (goL D cs f (a + 1) (r.take (e - (a + 1)))) q ((goL D cs f (a + 1) (r.take (e - (a + 1)))) R) := if_pos hg2
      rw [eL] at hq
      refine pv_aloadn (pc := 81) (n := 0) 0 rfl rfl (fm_dec dtX9_perform 39 rfl) ?_
      refine pv_aloadn (pc := 82) (n := 1) 1 rfl rfl (fm_dec dtX9_perform 40 rfl) ?_
      refine pv_aloadn (pc := 83) (n := 2) 2 rfl rfl (fm_dec dtX9_perform 41 rfl) ?_
      refine pv_iload (pc := 84) (i := 6) rfl (fm_dec dtX9_perform 42 rfl) ?_
      refine pv_iconst (pc := 86) (v := 1) (by decide) (fm_dec dtX9_perform 43 rfl) ?_
      refine pv_iadd (pc := 87) (fm_dec dtX9_perform 44 rfl) ?_
      refine pv_aloadn (pc := 88) (n := 0) 0 rfl rfl (fm_dec dtX9_perform 45 rfl) ?_
      refine pv_getR (k := 28) (j := 2) (ci := 9) (pc := 89) 31 rfl (by decide) pfl_X9_18 (by decide) rfl (by decide) (fm_dec dtX9_perform 46 rfl) ?_
      refine pv_iload (pc := 92) (i := 6) rfl (fm_dec dtX9_perform 47 rfl) ?_
      refine pv_iald (k := 31) (n := 150) (pc := 94) (by decide) rfl rfl (ix_in ha ha150) (fm_dec dtX9_perform 48 rfl) ?_
      refine pv_iload (pc := 95) (i := 5) rfl (fm_dec dtX9_perform 49 rfl) ?_
      refine pv_iconst (pc := 97) (v := 1) (by decide) (fm_dec dtX9_perform 50 rfl) ?_
      refine pv_iadd (pc := 98) (fm_dec dtX9_perform 51 rfl) ?_
      refine pv_invV5 (k := 28) (d' := (12 + f)) (pc := 99) pcv_X9_76 (by decide) rfl (Nat.le_of_ble_eq_true rfl) (by omega) (fm_dec dtX9_perform 52 rfl) ?_
      refine h.go (a := a + 1) (o := oN + 1) (g := g9) hA hW (seg.tk hseg) (by rw [List.length_take]; omega) hwn (by omega) (i32_p1 ha (by omega)) (by rw [i32_cl ha, he9, List.length_take]; omega) (i32_p1 hop (by omega)) hg (fun M99 h99 f99 => ?_) 
      refine pv_then0 ?_
      refine pv_iincc (pc := 102) 7 1 (by decide) rfl (by decide) rfl (fm_dec dtX9_perform 53 rfl) ?_
      dsimp only [List.set_cons_zero, List.set_cons_succ]
      refine pv_goto (pc := 105) 59 (by decide) (fm_dec dtX9_perform 54 rfl) ?_
      exact ih M99 _ (c + 1) _ h99 (hW.p f99) (by have h9 := go_ge (D := D) (cs := cs) f (a + 1) (r.take (e - (a + 1))) R; omega) (i32_p1 hc (by omega)) (by omega) (fun M' v7 a1 b1 => hq M' v7 a1 (f99.trans b1))
set_option maxRecDepth 20000 in
theorem xp_E {D : dD} {cs : tC} {ss : tS} (hD : dOk D) (hN : nuO D ss) : ∀ f, xpL D cs ss f := by
  intro f
  induction f with
  | zero =>
    intro M Q a o g l R fr to op av v7 hA hW hseg hlen hwn ho6 ha ht hop hf hq
    omega
  | succ f ih =>
    intro M Q a o g l R fr to op av v7 hA hW hseg hlen hwn ho6 ha ht hop hf hq
    refine pv_iload (pc := 3) (i := 6) rfl (fm_dec dtX9_perform 2 rfl) ?_
    refine pv_iload (pc := 5) (i := 4) rfl (fm_dec dtX9_perform 3 rfl) ?_
    refine pv_icmp_ge (pc := 7) 178 (by decide) (fm_dec dtX9_perform 4 rfl) (fun hc7 => ?_) (fun hc7 => ?_)
    · exact pv_return (pc := 178) rfl (fm_dec dtX9_perform 92 rfl) (by have el : l = [] := (by cases l with | nil => rfl | cons s r => (rw [sc_le] at hc7; rw [List.length_cons] at ht; omega)); subst el; rw [go_0] at hq; exact hq M hA (pFr.refl M))
    · obtain ⟨s, r, rfl⟩ : ∃ s r, l = s :: r := (by cases l with | nil => (rw [sc_le] at hc7; rw [List.length_nil] at ht; omega) | cons s r => exact ⟨s, r, rfl⟩)
      rw [List.length_cons] at ht hlen
      have ha150 : a < 150 := (by have := hN.1; omega)
      have hsa := hseg.hd
      have hnu := hN.2 s (List.mem_of_getElem? hsa)
      refine pv_iload (pc := 10) (i := 6) rfl (fm_dec dtX9_perform 5 rfl) ?_
      refine pv_sipush (pc := 12) (v := 150) (by decide) (fm_dec dtX9_perform 6 rfl) ?_
      refine pv_icmp_ge (pc := 15) 178 (by decide) (fm_dec dtX9_perform 7 rfl) (fun hc15 => by exfalso; rw [sc_le] at hc15; have z150 : (150 : Int32).toInt = 150 := (by decide); omega) (fun _ => ?_)
      refine pv_aloadn (pc := 18) (n := 0) 0 rfl rfl (fm_dec dtX9_perform 8 rfl) ?_
      refine pv_getI (k := 28) (j := 4) (ci := 9) (pc := 19) pfl_X9_25 (by decide) rfl (by decide) (fm_dec dtX9_perform 9 rfl) ?_
      refine pv_sipush (pc := 22) (v := 200) (by decide) (fm_dec dtX9_perform 10 rfl) ?_
      refine pv_icmp_ge (pc := 25) 178 (by decide) (fm_dec dtX9_perform 11 rfl) (fun hc25 => ?_) (fun hc25 => ?_)
      · exact pv_return (pc := 178) rfl (fm_dec dtX9_perform 92 rfl) (by rw [go_s (by rw [sc_le] at hc25; have z200 : (200 : Int32).toInt = 200 := (by decide); have h9 := hA.2.2.2.2.1; omega)] at hq; exact hq M hA (pFr.refl M))
      · have hg2 : R.2.1 < 200 := (by rw [sc_le] at hc25; have z200 : (200 : Int32).toInt = 200 := (by decide); have h9 := hA.2.2.2.2.1; omega)
        have hP1 := hA.put (x := M.1 28 4 + 1) (show 4 ≤ 4 ∧ 4 ≤ 6 by decide)
        have e4 : ((fmI M 28 4 (M.1 28 4 + 1)).1 28 4).toInt = ((R.2.1 + 1 : Nat) : Int) := (by rw [fmI_s]; exact i32_p1 hA.2.2.2.2.1 (by omega))
        have f1 : pFr M (fmI M 28 4 (M.1 28 4 + 1)) := (pFr.refl M).put
        have hW1 : wRep (fmI M 28 4 (M.1 28 4 + 1)) 0 ss := hW.p f1
        have hA1 : xAll (fmI M 28 4 (M.1 28 4 + 1)) D cs (R.1, R.2.1 + 1, R.2.2) := ⟨hP1.1, hP1.2.1, hP1.2.2, hA.2.2.2.1, e4, hA.2.2.2.2.2.1, hA.2.2.2.2.2.2.1, (by show R.2.2.1 + R.2.2.2 ≤ R.2.1 + 1; have := hA.2.2.2.2.2.2.2.1; omega), hg2⟩
        have hrow1 := hW1 a s hsa
        rw [Nat.zero_add] at hrow1
        refine pv_iload (pc := 28) (i := 5) rfl (fm_dec dtX9_perform 12 rfl) ?_
        refine pv_bipush (pc := 30) (v := 6) (by decide) (fm_dec dtX9_perform 13 rfl) ?_
        refine pv_icmp_gt (pc := 32) 178 (by decide) (fm_dec dtX9_perform 14 rfl) (fun hc32 => by exfalso; rw [sc_lt] at hc32; have z6 : (6 : Int32).toInt = 6 := (by decide); omega) (fun _ => ?_)
        refine pv_aloadn (pc := 35) (n := 0) 0 rfl rfl (fm_dec dtX9_perform 15 rfl) ?_
        refine pv_dup (pc := 36) rfl (fm_dec dtX9_perform 16 rfl) ?_
        refine pv_getI (k := 28) (j := 4) (ci := 9) (pc := 37) pfl_X9_25 (by decide) rfl (by decide) (fm_dec dtX9_perform 17 rfl) ?_
        refine pv_iconst (pc := 40) (v := 1) (by decide) (fm_dec dtX9_perform 18 rfl) ?_
        refine pv_iadd (pc := 41) (fm_dec dtX9_perform 19 rfl) ?_
        refine pv_putI (k := 28) (j := 4) (ci := 9) (pc := 42) pfl_X9_25 (by decide) rfl (by decide) (fm_dec dtX9_perform 20 rfl) ?_
        refine pv_aloadn (pc := 45) (n := 0) 0 rfl rfl (fm_dec dtX9_perform 21 rfl) ?_
        refine pv_getR (k := 28) (j := 0) (ci := 9) (pc := 46) 29 rfl (by decide) pfl_X9_9 (by decide) rfl (by decide) (fm_dec dtX9_perform 22 rfl) ?_
        refine pv_iload (pc := 49) (i := 6) rfl (fm_dec dtX9_perform 23 rfl) ?_
        refine pv_iald (k := 29) (n := 150) (pc := 51) (by decide) rfl rfl (ix_in ha ha150) (fm_dec dtX9_perform 24 rfl) ?_
        refine pv_iconst (pc := 52) (v := 4) (by decide) (fm_dec dtX9_perform 25 rfl) ?_
        refine pv_icmp_ne (pc := 53) 127 (by decide) (fm_dec dtX9_perform 26 rfl) (fun hc53 => ?_) (fun hc53 => ?_)
        · have h4 : ¬ s.1 = 4 := (fun h9 => hc53 (i32_ext (by rw [i32_cl ha, hrow1.1, h9]; decide)))
          obtain ⟨hk4, hs2, g8, w8⟩ := wn_1 hwn h4
          rw [go_1 hg2 h4] at hq
          refine pv_aloadn (pc := 127) (n := 1) 1 rfl rfl (fm_dec dtX9_perform 65 rfl) ?_
          refine pv_aloadn (pc := 128) (n := 2) 2 rfl rfl (fm_dec dtX9_perform 66 rfl) ?_
          refine pv_aloadn (pc := 129) (n := 0) 0 rfl rfl (fm_dec dtX9_perform 67 rfl) ?_
          refine pv_getR (k := 28) (j := 0) (ci := 9) (pc := 130) 29 rfl (by decide) pfl_X9_9 (by decide) rfl (by decide) (fm_dec dtX9_perform 68 rfl) ?_
          refine pv_iload (pc := 133) (i := 6) rfl (fm_dec dtX9_perform 69 rfl) ?_
          refine pv_iald (k := 29) (n := 150) (pc := 135) (by decide) rfl rfl (ix_in ha ha150) (fm_dec dtX9_perform 70 rfl) ?_
          refine pv_aloadn (pc := 136) (n := 0) 0 rfl rfl (fm_dec dtX9_perform 71 rfl) ?_
          refine pv_getR (k := 28) (j := 1) (ci := 9) (pc := 137) 30 rfl (by decide) pfl_X9_15 (by decide) rfl (by decide) (fm_dec dtX9_perform 72 rfl) ?_
          refine pv_iload (pc := 140) (i := 6) rfl (fm_dec dtX9_perform 73 rfl) ?_
          refine pv_iald (k := 30) (n := 150) (pc := 142) (by decide) rfl rfl (ix_in ha ha150) (fm_dec dtX9_perform 74 rfl) ?_
          refine pv_iS4 (d' := 5) (pc := 143) pcs_X9_85 (Nat.le_of_ble_eq_true rfl) (by omega) (fm_dec dtX9_perform 75 rfl) ?_
          refine c_xps (k := s.1) (i := s.2.1) (by rw [i32_cl ha]; exact hrow1.1) (by rw [i32_cl ha]; exact hrow1.2.1) hk4 (by have := hnu.2; omega) hD hP1.1 hP1.2.1 hP1.2.2 hA.2.2.2.1 (fun h9 => hnu.1 h9) (fun h143 => ?_) (fun M9 S9 h143 x143 f143 => ?_)  
          · refine pv_then1 ?_
            refine pv_if_eq (pc := 146) 162 (by decide) (fm_dec dtX9_perform 76 rfl) (fun _ => ?_) (fun hc146 => by exfalso; revert hc146; decide)
            refine pv_aloadn (pc := 162) (n := 0) 0 rfl rfl (fm_dec dtX9_perform 84 rfl) ?_
            refine pv_dup (pc := 163) rfl (fm_dec dtX9_perform 85 rfl) ?_
            refine pv_getI (k := 28) (j := 6) (ci := 9) (pc := 164) pfl_X9_31 (by decide) rfl (by decide) (fm_dec dtX9_perform 86 rfl) ?_
            refine pv_iconst (pc := 167) (v := 1) (by decide) (fm_dec dtX9_perform 87 rfl) ?_
            refine pv_iadd (pc := 168) (fm_dec dtX9_perform 88 rfl) ?_
            refine pv_putI (k := 28) (j := 6) (ci := 9) (pc := 169) pfl_X9_31 (by decide) rfl (by decide) (fm_dec dtX9_perform 89 rfl) ?_
            refine pv_iincc (pc := 172) 6 1 (by decide) rfl (by decide) rfl (fm_dec dtX9_perform 90 rfl) ?_
            dsimp only [List.set_cons_zero, List.set_cons_succ]
            refine pv_goto (pc := 175) 3 (by decide) (fm_dec dtX9_perform 91 rfl) ?_
            have eR : oneR D cs R s.1 s.2.1 = (R.1, R.2.1 + 1, R.2.2.1, R.2.2.2 + 1) := (by unfold oneR; rw [h143])
            rw [eR] at hq
            have hP2 := hA1.put (x := (fmI M 28 4 (M.1 28 4 + 1)).1 28 6 + 1) (show 4 ≤ 6 ∧ 6 ≤ 6 by decide)
            refine (ih _ Q (a + 1) o g8 r (R.1, R.2.1 + 1, R.2.2.1, R.2.2.2 + 1) _ _ _ _ _ ⟨hP2.1, hP2.2.1, hP2.2.2, hA.2.2.2.1, e4, hA.2.2.2.2.2.1, (by rw [fmI_s]; exact i32_p1 hA.2.2.2.2.2.2.1 (by have := hA.2.2.2.2.2.2.2.1; omega)), (by show R.2.2.1 + (R.2.2.2 + 1) ≤ R.2.1 + 1; have := hA.2.2.2.2.2.2.2.1; omega), hg2⟩ (hW.p (f1.put)) hseg.tl (by omega) w8 ho6 (i32_p1 ha (by omega)) (by rw [ht]; congr 1; omega) hop (by show 200 - (R.2.1 + 1) < f; omega) (fun M' h1 h2 => hq M' h1 ((f1.put).trans h2))).up (by omega)
          · refine pv_then1 ?_
            refine pv_if_eq (pc := 146) 162 (by decide) (fm_dec dtX9_perform 76 rfl) (fun hc146 => by exfalso; revert hc146; decide) (fun _ => ?_)
            refine pv_aloadn (pc := 149) (n := 0) 0 rfl rfl (fm_dec dtX9_perform 77 rfl) ?_
            refine pv_dup (pc := 150) rfl (fm_dec dtX9_perform 78 rfl) ?_
            refine pv_getI (k := 28) (j := 5) (ci := 9) (pc := 151) pfl_X9_28 (by decide) rfl (by decide) (fm_dec dtX9_perform 79 rfl) ?_
            refine pv_iconst (pc := 154) (v := 1) (by decide) (fm_dec dtX9_perform 80 rfl) ?_
            refine pv_iadd (pc := 155) (fm_dec dtX9_perform 81 rfl) ?_
            refine pv_putI (k := 28) (j := 5) (ci := 9) (pc := 156) pfl_X9_28 (by decide) rfl (by decide) (fm_dec dtX9_perform 82 rfl) ?_
            refine pv_goto (pc := 159) 172 (by decide) (fm_dec dtX9_perform 83 rfl) ?_
            refine pv_iincc (pc := 172) 6 1 (by decide) rfl (by decide) rfl (fm_dec dtX9_perform 90 rfl) ?_
            dsimp only [List.set_cons_zero, List.set_cons_succ]
            refine pv_goto (pc := 175) 3 (by decide) (fm_dec dtX9_perform 91 rfl) ?_
            have eR : oneR D cs R s.1 s.2.1 = (S9, R.2.1 + 1, R.2.2.1 + 1, R.2.2.2) := (by unfold oneR; rw [h143])
            rw [eR] at hq
            have fM : pFr M M9 := f1.trans f143.p
            have hO9 := do_ok hD hA.2.2.2.1 hnu.1 h143
            have x9 : xAll (fmI M9 28 5 (M9.1 28 5 + 1)) D cs (S9, R.2.1 + 1, R.2.2.1 + 1, R.2.2.2) := ⟨hP1.1.of (fun k j a1 b1 => by rw [fmI_k _ _ (by omega), f143.1 k j (by omega) (by omega) (by omega)]), hP1.2.1.f (by rw [fmI_k _ _ (by decide), f143.1 23 3 (by decide) (by decide) (by decide)]) (fun i => by rw [fmI_k _ _ (by decide), f143.1 24 i (by decide) (by decide) (by decide)]), x143.of (fun k j a1 => by rw [fmI_k _ _ (by omega)]) rfl, hO9, (by rw [fmI_j _ _ (by decide), f143.1 28 4 (by decide) (by decide) (by decide)]; exact e4), (by rw [fmI_s, f143.1 28 5 (by decide) (by decide) (by decide)]; exact i32_p1 hA.2.2.2.2.2.1 (by have := hA.2.2.2.2.2.2.2.1; omega)), (by rw [fmI_j _ _ (by decide), f143.1 28 6 (by decide) (by decide) (by decide)]; exact hA.2.2.2.2.2.2.1), (by show R.2.2.1 + 1 + R.2.2.2 ≤ R.2.1 + 1; have := hA.2.2.2.2.2.2.2.1; omega), hg2⟩
            refine (ih _ Q (a + 1) o g8 r (S9, R.2.1 + 1, R.2.2.1 + 1, R.2.2.2) _ _ _ _ _ x9 (hW.p (fM.put)) hseg.tl (by omega) w8 ho6 (i32_p1 ha (by omega)) (by rw [ht]; congr 1; omega) hop (by show 200 - (R.2.1 + 1) < f; omega) (fun M' h1 h2 => hq M' h1 ((fM.put).trans h2))).up (by omega)
        · have h4 : s.1 = 4 := (by have h9 := congrArg Int32.toInt hc53; rw [i32_cl ha, hrow1.1] at h9; have z4 : (4 : Int32).toInt = 4 := (by decide); omega)
          have hwn := wn_4 hwn h4
          rw [go_4 hg2 h4] at hq
          refine pv_iconst (pc := 56) (v := 0) (by decide) (fm_dec dtX9_perform 27 rfl) ?_
          refine pv_istore (pc := 57) (i := 7) (by decide) rfl (fm_dec dtX9_perform 28 rfl) ?_
          dsimp only [List.set_cons_zero, List.set_cons_succ]
          obtain ⟨w1, w2, w3, ⟨g9, w4⟩, g8, w5⟩ := hwn
          have hlt : R.2.1 + 1 ≤ (loR (goL D cs f (a + 1) (r.take (s.2.2 - (a + 1)))) s.2.1 (R.1, R.2.1 + 1, R.2.2)).2.1 := lo_ge (fun R => go_ge f _ _ R) s.2.1 (R.1, R.2.1 + 1, R.2.2)
          refine xpe_in ih hsa rfl rfl h4 hnu.2 hseg.tl (by omega) w2 w3 (by rw [show 6 - (o + 1) = 6 - o - 1 by omega]; exact w4) (by omega) ha ha150 hop s.2.1 _ _ 0 0 hA1 hW1 (by show 200 - (R.2.1 + 1) < f; omega) (by decide) (by omega) (fun M9 v9 a9 f9 => ?_)
          have hr9 := (hW1.p f9) a s hsa
          rw [Nat.zero_add] at hr9
          refine pv_iload (pc := 108) (i := 6) rfl (fm_dec dtX9_perform 55 rfl) ?_
          refine pv_iconst (pc := 110) (v := 1) (by decide) (fm_dec dtX9_perform 56 rfl) ?_
          refine pv_iadd (pc := 111) (fm_dec dtX9_perform 57 rfl) ?_
          refine pv_aloadn (pc := 112) (n := 0) 0 rfl rfl (fm_dec dtX9_perform 58 rfl) ?_
          refine pv_getR (k := 28) (j := 2) (ci := 9) (pc := 113) 31 rfl (by decide) pfl_X9_18 (by decide) rfl (by decide) (fm_dec dtX9_perform 59 rfl) ?_
          refine pv_iload (pc := 116) (i := 6) rfl (fm_dec dtX9_perform 60 rfl) ?_
          refine pv_iald (k := 31) (n := 150) (pc := 118) (by decide) rfl rfl (ix_in ha ha150) (fm_dec dtX9_perform 61 rfl) ?_
          refine pv_mm (pc := 119) pmm_X9_80 (by omega) (Nat.le_of_ble_eq_true rfl) (fm_dec dtX9_perform 62 rfl) ?_
          refine pv_istore (pc := 122) (i := 6) (by decide) rfl (fm_dec dtX9_perform 63 rfl) ?_
          dsimp only [List.set_cons_zero, List.set_cons_succ]
          refine pv_goto (pc := 124) 3 (by decide) (fm_dec dtX9_perform 64 rfl) ?_
          have em : (pvMx true (av + 1) (M9.1 31 av.toNatClampNeg)).toInt = (s.2.2 : Int) := (by rw [mxt, i32_cl ha, hr9.2.2 h4, i32_p1 ha (by omega)]; omega)
          refine (ih M9 Q s.2.2 o g8 (r.drop (s.2.2 - (a + 1))) _ _ _ _ _ _ a9 (hW1.p f9) (by have h8 := hseg.tl.dp (n := s.2.2 - (a + 1)); rw [show a + 1 + (s.2.2 - (a + 1)) = s.2.2 by omega] at h8; exact h8) (by rw [List.length_drop]; omega) w5 ho6 em (by rw [ht, List.length_drop]; congr 1; omega) hop (by omega) (fun M' h1 h2 => hq M' h1 ((f1.trans f9).trans h2))).up (by omega)
end
-- P 18ya
section
-- THE REFERENCE DOES A WORK
set_option maxRecDepth 20000 in
theorem c_mds0 {M : fmM} {Q : fmR → fmM → Prop} {D : dD} {cs : tC} {S : aS} {b i : Nat} (hD : dOk D) (hY : mdw M D) (hL : lwM M cs) (hd : cs = [] ∨ dpB 23 0 cs = some 1) (hs : mst M D S) (ho : stO D S) (hb : b < 80) (hk : M.1 (423 + b) 0 = nI 0) (hi1 : (M.1 (423 + b) 1).toInt = (i : Int)) (hi : i < D.1) (hn : doS D cs S 0 i = none → Q (.inl (some (.int 0))) M) (hq : ∀ (M' : fmM) (S' : aS), doS D cs S 0 i = some S' → mst M' D S' → mFr M M' → Q (.inl (some (.int 1))) M') : pvGood Tm 9 qX11_does [.ref 0, .ref 7, .ref (423 + b)] M Q := by
  refine pvGood_of (Nat.le_of_ble_eq_true rfl) ?_
  show pvEv Tm 9 qX11_does 0 [some (.ref 0), some (.ref 7), some (.ref (423 + b)), none] [] M Q
  have d8 := hD.1
  have hi9 : (nI i).toInt = (i : Int) := nI_toInt (by omega)
  have hi8 : i < 8 := (by omega)
  have ei : M.1 (423 + b) (Int32.toNatClampNeg 1) = nI i := nI_is hi1 (by have := hD.1; omega)
  have e0 : M.1 7 (Int32.toNatClampNeg 0) = nI S.1.2.2.1 := nI_is hs.1 (by have := ho.2.2.1; omega)
  have hno := hs.no ho hi
  have h12 := ho.2.1
  have hh := hrV_n hD hY hs ho hi
  have g9 : (M.1 7 (Int32.toNatClampNeg 9)).toInt = (S.1.2.1 : Int) := hs.2.2.1
  have hk9 : M.1 (423 + b) (Int32.toNatClampNeg 0) = nI 0 := hk
  refine pv_aloadn (pc := 0) (n := 2) 2 rfl rfl (fm_dec dtX11_does 0 rfl) ?_
  refine pv_iconst (pc := 1) (v := 1) (by decide) (fm_dec dtX11_does 1 rfl) ?_
  refine pv_iald (k := (423 + b)) (n := 3) (pc := 2) (rw_step.2.2.2 _ hb).2.2.1 (rw_step.2.2.2 _ hb).2.2.2.1 (rw_step.2.2.2 _ hb).2.2.2.2 (fm_inl (by decide)) (fm_dec dtX11_does 2 rfl) ?_
  refine pv_istoren (pc := 3) (n := 3) 3 rfl (by decide) rfl (fm_dec dtX11_does 3 rfl) ?_
  dsimp only [List.set_cons_zero, List.set_cons_succ]
  rw [ei]
  refine pv_aloadn (pc := 4) (n := 2) 2 rfl rfl (fm_dec dtX11_does 4 rfl) ?_
  refine pv_iconst (pc := 5) (v := 0) (by decide) (fm_dec dtX11_does 5 rfl) ?_
  refine pv_iald (k := (423 + b)) (n := 3) (pc := 6) (rw_step.2.2.2 _ hb).2.2.1 (rw_step.2.2.2 _ hb).2.2.2.1 (rw_step.2.2.2 _ hb).2.2.2.2 (fm_inl (by decide)) (fm_dec dtX11_does 6 rfl) ?_
  refine pv_table (pc := 7) 32 (by decide) (by have h9 : M.1 (423 + b) (Int32.toNatClampNeg 0) = nI 0 := hk; rw [h9]; decide) (fm_dec dtX11_does 7 rfl) ?_
  refine pv_aloadn (pc := 32) (n := 0) 0 rfl rfl (fm_dec dtX11_does 8 rfl) ?_
  refine pv_aloadn (pc := 33) (n := 1) 1 rfl rfl (fm_dec dtX11_does 9 rfl) ?_
  refine pv_iloadn (pc := 34) (n := 3) 3 rfl rfl (fm_dec dtX11_does 10 rfl) ?_
  refine pv_invV2 (k := 0) (d' := 1) (pc := 35) pcv_X11_296 (by decide) rfl (Nat.le_of_ble_eq_true rfl) (by decide) (fm_dec dtX11_does 11 rfl) ?_
  refine c_mmay hD hs ho hi (fun h35a h35b => ?_) (fun h35 => ?_)
  · refine pv_then1 ?_
    refine pv_if_eq (pc := 38) 74 (by decide) (fm_dec dtX11_does 12 rfl) (fun hc38 => by exfalso; revert hc38; decide) (fun _ => ?_)
    refine pv_aloadn (pc := 41) (n := 1) 1 rfl rfl (fm_dec dtX11_does 13 rfl) ?_
    refine pv_iloadn (pc := 42) (n := 3) 3 rfl rfl (fm_dec dtX11_does 14 rfl) ?_
    refine pv_iS2 (d' := 0) (pc := 43) pcs_X11_283 (Nat.le_of_ble_eq_true rfl) (by decide) (fm_dec dtX11_does 15 rfl) ?_
    refine c_hasPiece7 hi9 hi8 (fun h43 => ?_) (fun h43 => ?_)
    · refine pv_then1 ?_
      refine pv_aloadn (pc := 46) (n := 2) 2 rfl rfl (fm_dec dtX11_does 16 rfl) ?_
      refine pv_iconst (pc := 47) (v := 0) (by decide) (fm_dec dtX11_does 17 rfl) ?_
      refine pv_iald (k := (423 + b)) (n := 3) (pc := 48) (rw_step.2.2.2 _ hb).2.2.1 (rw_step.2.2.2 _ hb).2.2.2.1 (rw_step.2.2.2 _ hb).2.2.2.2 (fm_inl (by decide)) (fm_dec dtX11_does 18 rfl) ?_
      refine pv_iconst (pc := 49) (v := 1) (by decide) (fm_dec dtX11_does 19 rfl) ?_
      refine pv_icmp_ne (pc := 50) 57 (by decide) (fm_dec dtX11_does 20 rfl) (fun _ => ?_) (fun hc50 => by exfalso; rw [hk9] at hc50; revert hc50; decide)
      refine pv_iconst (pc := 57) (v := 0) (by decide) (fm_dec dtX11_does 23 rfl) ?_
      refine pv_icmp_ne (pc := 58) 74 (by decide) (fm_dec dtX11_does 24 rfl) (fun _ => ?_) (fun hc58 => by exfalso; revert hc58; decide)
      refine pv_iconst (pc := 74) (v := 0) (by decide) (fm_dec dtX11_does 33 rfl) ?_
      exact pv_zreturn (pc := 75) rfl (by first | exact Or.inr rfl | exact Or.inl rfl) (fm_dec dtX11_does 34 rfl) (hn (by have hm : ¬ S.2 i = -1 := (fun h8 => h43 (hno.mpr h8)); show (if S.2 i = -1 then puS D S i else none) = _; rw [if_neg hm]))
    · refine pv_then1 ?_
      refine pv_aloadn (pc := 46) (n := 2) 2 rfl rfl (fm_dec dtX11_does 16 rfl) ?_
      refine pv_iconst (pc := 47) (v := 0) (by decide) (fm_dec dtX11_does 17 rfl) ?_
      refine pv_iald (k := (423 + b)) (n := 3) (pc := 48) (rw_step.2.2.2 _ hb).2.2.1 (rw_step.2.2.2 _ hb).2.2.2.1 (rw_step.2.2.2 _ hb).2.2.2.2 (fm_inl (by decide)) (fm_dec dtX11_does 18 rfl) ?_
      refine pv_iconst (pc := 49) (v := 1) (by decide) (fm_dec dtX11_does 19 rfl) ?_
      refine pv_icmp_ne (pc := 50) 57 (by decide) (fm_dec dtX11_does 20 rfl) (fun _ => ?_) (fun hc50 => by exfalso; rw [hk9] at hc50; revert hc50; decide)
      refine pv_iconst (pc := 57) (v := 0) (by decide) (fm_dec dtX11_does 23 rfl) ?_
      refine pv_icmp_ne (pc := 58) 74 (by decide) (fm_dec dtX11_does 24 rfl) (fun hc58 => by exfalso; revert hc58; decide) (fun _ => ?_)
      refine pv_aloadn (pc := 61) (n := 0) 0 rfl rfl (fm_dec dtX11_does 25 rfl) ?_
      refine pv_aloadn (pc := 62) (n := 1) 1 rfl rfl (fm_dec dtX11_does 26 rfl) ?_
      refine pv_iloadn (pc := 63) (n := 3) 3 rfl rfl (fm_dec dtX11_does 27 rfl) ?_
      refine pv_invV2 (k := 0) (d' := 2) (pc := 64) pcv_X11_290 (by decide) rfl (Nat.le_of_ble_eq_true rfl) (by decide) (fm_dec dtX11_does 28 rfl) ?_
      refine c_hours7 hi9 hi8 (h5_ne hD hY) ?_
      refine pv_then1 ?_
      refine pv_aloadn (pc := 67) (n := 1) 1 rfl rfl (fm_dec dtX11_does 29 rfl) ?_
      refine pv_bipush (pc := 68) (v := 9) (by decide) (fm_dec dtX11_does 30 rfl) ?_
      refine pv_iald (k := 7) (n := 14) (pc := 70) (by decide) rfl rfl (fm_inl (by decide)) (fm_dec dtX11_does 31 rfl) ?_
      refine pv_icmp_le (pc := 71) 76 (by decide) (fm_dec dtX11_does 32 rfl) (fun hc71 => ?_) (fun hc71 => ?_)
      · refine pv_aloadn (pc := 76) (n := 0) 0 rfl rfl (fm_dec dtX11_does 35 rfl) ?_
        refine pv_aloadn (pc := 77) (n := 1) 1 rfl rfl (fm_dec dtX11_does 36 rfl) ?_
        refine pv_iloadn (pc := 78) (n := 3) 3 rfl rfl (fm_dec dtX11_does 37 rfl) ?_
        refine pv_invV2 (k := 0) (d' := 3) (pc := 79) pcv_X11_299 (by decide) rfl (Nat.le_of_ble_eq_true rfl) (by decide) (fm_dec dtX11_does 38 rfl) ?_
        refine c_mwri hD hY hi ?_
        refine pv_then0 ?_
        refine pv_iconst (pc := 82) (v := 1) (by decide) (fm_dec dtX11_does 39 rfl) ?_
        exact pv_zreturn (pc := 83) rfl (by first | exact Or.inr rfl | exact Or.inl rfl) (fm_dec dtX11_does 40 rfl) (hq _ _ (by have hm : S.2 i = -1 := hno.mp h43; show (if S.2 i = -1 then puS D S i else none) = _; rw [if_pos hm]; exact if_neg (by intro h8; rcases h8 with h8 | h8 | h8; exact h35a h8; exact h35b h8; rw [sc_le] at hc71; omega)) (wr_st hD hY hs ho hi (by rw [sc_le] at hc71; omega)) ((mFr.refl M).put.put))
      · refine pv_iconst (pc := 74) (v := 0) (by decide) (fm_dec dtX11_does 33 rfl) ?_
        exact pv_zreturn (pc := 75) rfl (by first | exact Or.inr rfl | exact Or.inl rfl) (fm_dec dtX11_does 34 rfl) (hn (by have hm : S.2 i = -1 := hno.mp h43; show (if S.2 i = -1 then puS D S i else none) = _; rw [if_pos hm]; exact if_pos (Or.inr (Or.inr (by rw [sc_le] at hc71; omega)))))
  · refine pv_then1 ?_
    refine pv_if_eq (pc := 38) 74 (by decide) (fm_dec dtX11_does 12 rfl) (fun _ => ?_) (fun hc38 => by exfalso; revert hc38; decide)
    refine pv_iconst (pc := 74) (v := 0) (by decide) (fm_dec dtX11_does 33 rfl) ?_
    exact pv_zreturn (pc := 75) rfl (by first | exact Or.inr rfl | exact Or.inl rfl) (fm_dec dtX11_does 34 rfl) (hn (by show (if S.2 i = -1 then puS D S i else none) = _; by_cases hm : S.2 i = -1; (rw [if_pos hm]; exact if_pos (by rcases h35 with h | h; exact Or.inl h; exact Or.inr (Or.inl h))); (rw [if_neg hm])))
set_option maxRecDepth 20000 in
theorem c_mds1 {M : fmM} {Q : fmR → fmM → Prop} {D : dD} {cs : tC} {S : aS} {b i : Nat} (hD : dOk D) (hY : mdw M D) (hL : lwM M cs) (hd : cs = [] ∨ dpB 23 0 cs = some 1) (hs : mst M D S) (ho : stO D S) (hb : b < 80) (hk : M.1 (423 + b) 0 = nI 1) (hi1 : (M.1 (423 + b) 1).toInt = (i : Int)) (hi : i < D.1) (hn : doS D cs S 1 i = none → Q (.inl (some (.int 0))) M) (hq : ∀ (M' : fmM) (S' : aS), doS D cs S 1 i = some S' → mst M' D S' → mFr M M' → Q (.inl (some (.int 1))) M') : pvGood Tm 9 qX11_does [.ref 0, .ref 7, .ref (423 + b)] M Q := by
  refine pvGood_of (Nat.le_of_ble_eq_true rfl) ?_
  show pvEv Tm 9 qX11_does 0 [some (.ref 0), some (.ref 7), some (.ref (423 + b)), none] [] M Q
  have d8 := hD.1
  have hi9 : (nI i).toInt = (i : Int) := nI_toInt (by omega)
  have hi8 : i < 8 := (by omega)
  have ei : M.1 (423 + b) (Int32.toNatClampNeg 1) = nI i := nI_is hi1 (by have := hD.1; omega)
  have e0 : M.1 7 (Int32.toNatClampNeg 0) = nI S.1.2.2.1 := nI_is hs.1 (by have := ho.2.2.1; omega)
  have hno := hs.no ho hi
  have h12 := ho.2.1
  have hh := hrV_n hD hY hs ho hi
  have g9 : (M.1 7 (Int32.toNatClampNeg 9)).toInt = (S.1.2.1 : Int) := hs.2.2.1
  have hk9 : M.1 (423 + b) (Int32.toNatClampNeg 0) = nI 1 := hk
  refine pv_aloadn (pc := 0) (n := 2) 2 rfl rfl (fm_dec dtX11_does 0 rfl) ?_
  refine pv_iconst (pc := 1) (v := 1) (by decide) (fm_dec dtX11_does 1 rfl) ?_
  refine pv_iald (k := (423 + b)) (n := 3) (pc := 2) (rw_step.2.2.2 _ hb).2.2.1 (rw_step.2.2.2 _ hb).2.2.2.1 (rw_step.2.2.2 _ hb).2.2.2.2 (fm_inl (by decide)) (fm_dec dtX11_does 2 rfl) ?_
  refine pv_istoren (pc := 3) (n := 3) 3 rfl (by decide) rfl (fm_dec dtX11_does 3 rfl) ?_
  dsimp only [List.set_cons_zero, List.set_cons_succ]
  rw [ei]
  refine pv_aloadn (pc := 4) (n := 2) 2 rfl rfl (fm_dec dtX11_does 4 rfl) ?_
  refine pv_iconst (pc := 5) (v := 0) (by decide) (fm_dec dtX11_does 5 rfl) ?_
  refine pv_iald (k := (423 + b)) (n := 3) (pc := 6) (rw_step.2.2.2 _ hb).2.2.1 (rw_step.2.2.2 _ hb).2.2.2.1 (rw_step.2.2.2 _ hb).2.2.2.2 (fm_inl (by decide)) (fm_dec dtX11_does 6 rfl) ?_
  refine pv_table (pc := 7) 32 (by decide) (by have h9 : M.1 (423 + b) (Int32.toNatClampNeg 0) = nI 1 := hk; rw [h9]; decide) (fm_dec dtX11_does 7 rfl) ?_
  refine pv_aloadn (pc := 32) (n := 0) 0 rfl rfl (fm_dec dtX11_does 8 rfl) ?_
  refine pv_aloadn (pc := 33) (n := 1) 1 rfl rfl (fm_dec dtX11_does 9 rfl) ?_
  refine pv_iloadn (pc := 34) (n := 3) 3 rfl rfl (fm_dec dtX11_does 10 rfl) ?_
  refine pv_invV2 (k := 0) (d' := 1) (pc := 35) pcv_X11_296 (by decide) rfl (Nat.le_of_ble_eq_true rfl) (by decide) (fm_dec dtX11_does 11 rfl) ?_
  refine c_mmay hD hs ho hi (fun h35a h35b => ?_) (fun h35 => ?_)
  · refine pv_then1 ?_
    refine pv_if_eq (pc := 38) 74 (by decide) (fm_dec dtX11_does 12 rfl) (fun hc38 => by exfalso; revert hc38; decide) (fun _ => ?_)
    refine pv_aloadn (pc := 41) (n := 1) 1 rfl rfl (fm_dec dtX11_does 13 rfl) ?_
    refine pv_iloadn (pc := 42) (n := 3) 3 rfl rfl (fm_dec dtX11_does 14 rfl) ?_
    refine pv_iS2 (d' := 0) (pc := 43) pcs_X11_283 (Nat.le_of_ble_eq_true rfl) (by decide) (fm_dec dtX11_does 15 rfl) ?_
    refine c_hasPiece7 hi9 hi8 (fun h43 => ?_) (fun h43 => ?_)
    · refine pv_then1 ?_
      refine pv_aloadn (pc := 46) (n := 2) 2 rfl rfl (fm_dec dtX11_does 16 rfl) ?_
      refine pv_iconst (pc := 47) (v := 0) (by decide) (fm_dec dtX11_does 17 rfl) ?_
      refine pv_iald (k := (423 + b)) (n := 3) (pc := 48) (rw_step.2.2.2 _ hb).2.2.1 (rw_step.2.2.2 _ hb).2.2.2.1 (rw_step.2.2.2 _ hb).2.2.2.2 (fm_inl (by decide)) (fm_dec dtX11_does 18 rfl) ?_
      refine pv_iconst (pc := 49) (v := 1) (by decide) (fm_dec dtX11_does 19 rfl) ?_
      refine pv_icmp_ne (pc := 50) 57 (by decide) (fm_dec dtX11_does 20 rfl) (fun hc50 => by exfalso; apply hc50; rw [hk9]; decide) (fun _ => ?_)
      refine pv_iconst (pc := 53) (v := 1) (by decide) (fm_dec dtX11_does 21 rfl) ?_
      refine pv_goto (pc := 54) 58 (by decide) (fm_dec dtX11_does 22 rfl) ?_
      refine pv_icmp_ne (pc := 58) 74 (by decide) (fm_dec dtX11_does 24 rfl) (fun hc58 => by exfalso; revert hc58; decide) (fun _ => ?_)
      refine pv_aloadn (pc := 61) (n := 0) 0 rfl rfl (fm_dec dtX11_does 25 rfl) ?_
      refine pv_aloadn (pc := 62) (n := 1) 1 rfl rfl (fm_dec dtX11_does 26 rfl) ?_
      refine pv_iloadn (pc := 63) (n := 3) 3 rfl rfl (fm_dec dtX11_does 27 rfl) ?_
      refine pv_invV2 (k := 0) (d' := 2) (pc := 64) pcv_X11_290 (by decide) rfl (Nat.le_of_ble_eq_true rfl) (by decide) (fm_dec dtX11_does 28 rfl) ?_
      refine c_hours7 hi9 hi8 (h5_ne hD hY) ?_
      refine pv_then1 ?_
      refine pv_aloadn (pc := 67) (n := 1) 1 rfl rfl (fm_dec dtX11_does 29 rfl) ?_
      refine pv_bipush (pc := 68) (v := 9) (by decide) (fm_dec dtX11_does 30 rfl) ?_
      refine pv_iald (k := 7) (n := 14) (pc := 70) (by decide) rfl rfl (fm_inl (by decide)) (fm_dec dtX11_does 31 rfl) ?_
      refine pv_icmp_le (pc := 71) 76 (by decide) (fm_dec dtX11_does 32 rfl) (fun hc71 => ?_) (fun hc71 => ?_)
      · refine pv_aloadn (pc := 76) (n := 0) 0 rfl rfl (fm_dec dtX11_does 35 rfl) ?_
        refine pv_aloadn (pc := 77) (n := 1) 1 rfl rfl (fm_dec dtX11_does 36 rfl) ?_
        refine pv_iloadn (pc := 78) (n := 3) 3 rfl rfl (fm_dec dtX11_does 37 rfl) ?_
        refine pv_invV2 (k := 0) (d' := 3) (pc := 79) pcv_X11_299 (by decide) rfl (Nat.le_of_ble_eq_true rfl) (by decide) (fm_dec dtX11_does 38 rfl) ?_
        refine c_mwri hD hY hi ?_
        refine pv_then0 ?_
        refine pv_iconst (pc := 82) (v := 1) (by decide) (fm_dec dtX11_does 39 rfl) ?_
        exact pv_zreturn (pc := 83) rfl (by first | exact Or.inr rfl | exact Or.inl rfl) (fm_dec dtX11_does 40 rfl) (hq _ _ (by have hm : ¬ S.2 i = -1 := (fun h8 => h43 (hno.mpr h8)); show (if S.2 i = -1 then none else puS D S i) = _; rw [if_neg hm]; exact if_neg (by intro h8; rcases h8 with h8 | h8 | h8; exact h35a h8; exact h35b h8; rw [sc_le] at hc71; omega)) (wr_st hD hY hs ho hi (by rw [sc_le] at hc71; omega)) ((mFr.refl M).put.put))
      · refine pv_iconst (pc := 74) (v := 0) (by decide) (fm_dec dtX11_does 33 rfl) ?_
        exact pv_zreturn (pc := 75) rfl (by first | exact Or.inr rfl | exact Or.inl rfl) (fm_dec dtX11_does 34 rfl) (hn (by have hm : ¬ S.2 i = -1 := (fun h8 => h43 (hno.mpr h8)); show (if S.2 i = -1 then none else puS D S i) = _; rw [if_neg hm]; exact if_pos (Or.inr (Or.inr (by rw [sc_le] at hc71; omega)))))
    · refine pv_then1 ?_
      refine pv_aloadn (pc := 46) (n := 2) 2 rfl rfl (fm_dec dtX11_does 16 rfl) ?_
      refine pv_iconst (pc := 47) (v := 0) (by decide) (fm_dec dtX11_does 17 rfl) ?_
      refine pv_iald (k := (423 + b)) (n := 3) (pc := 48) (rw_step.2.2.2 _ hb).2.2.1 (rw_step.2.2.2 _ hb).2.2.2.1 (rw_step.2.2.2 _ hb).2.2.2.2 (fm_inl (by decide)) (fm_dec dtX11_does 18 rfl) ?_
      refine pv_iconst (pc := 49) (v := 1) (by decide) (fm_dec dtX11_does 19 rfl) ?_
      refine pv_icmp_ne (pc := 50) 57 (by decide) (fm_dec dtX11_does 20 rfl) (fun hc50 => by exfalso; apply hc50; rw [hk9]; decide) (fun _ => ?_)
      refine pv_iconst (pc := 53) (v := 1) (by decide) (fm_dec dtX11_does 21 rfl) ?_
      refine pv_goto (pc := 54) 58 (by decide) (fm_dec dtX11_does 22 rfl) ?_
      refine pv_icmp_ne (pc := 58) 74 (by decide) (fm_dec dtX11_does 24 rfl) (fun _ => ?_) (fun hc58 => by exfalso; revert hc58; decide)
      refine pv_iconst (pc := 74) (v := 0) (by decide) (fm_dec dtX11_does 33 rfl) ?_
      exact pv_zreturn (pc := 75) rfl (by first | exact Or.inr rfl | exact Or.inl rfl) (fm_dec dtX11_does 34 rfl) (hn (by have hm : S.2 i = -1 := hno.mp h43; show (if S.2 i = -1 then none else puS D S i) = _; rw [if_pos hm]))
  · refine pv_then1 ?_
    refine pv_if_eq (pc := 38) 74 (by decide) (fm_dec dtX11_does 12 rfl) (fun _ => ?_) (fun hc38 => by exfalso; revert hc38; decide)
    refine pv_iconst (pc := 74) (v := 0) (by decide) (fm_dec dtX11_does 33 rfl) ?_
    exact pv_zreturn (pc := 75) rfl (by first | exact Or.inr rfl | exact Or.inl rfl) (fm_dec dtX11_does 34 rfl) (hn (by show (if S.2 i = -1 then none else puS D S i) = _; by_cases hm : S.2 i = -1; (rw [if_pos hm]); (rw [if_neg hm]; exact if_pos (by rcases h35 with h | h; exact Or.inl h; exact Or.inr (Or.inl h)))))
set_option maxRecDepth 20000 in
theorem c_mds2 {M : fmM} {Q : fmR → fmM → Prop} {D : dD} {cs : tC} {S : aS} {b i : Nat} (hD : dOk D) (hY : mdw M D) (hL : lwM M cs) (hd : cs = [] ∨ dpB 23 0 cs = some 1) (hs : mst M D S) (ho : stO D S) (hb : b < 80) (hk : M.1 (423 + b) 0 = nI 2) (hi1 : (M.1 (423 + b) 1).toInt = (i : Int)) (hi : i < D.1) (hn : doS D cs S 2 i = none → Q (.inl (some (.int 0))) M) (hq : ∀ (M' : fmM) (S' : aS), doS D cs S 2 i = some S' → mst M' D S' → mFr M M' → Q (.inl (some (.int 1))) M') : pvGood Tm 9 qX11_does [.ref 0, .ref 7, .ref (423 + b)] M Q := by
  refine pvGood_of (Nat.le_of_ble_eq_true rfl) ?_
  show pvEv Tm 9 qX11_does 0 [some (.ref 0), some (.ref 7), some (.ref (423 + b)), none] [] M Q
  have d8 := hD.1
  have hi9 : (nI i).toInt = (i : Int) := nI_toInt (by omega)
  have hi8 : i < 8 := (by omega)
  have ei : M.1 (423 + b) (Int32.toNatClampNeg 1) = nI i := nI_is hi1 (by have := hD.1; omega)
  have e0 : M.1 7 (Int32.toNatClampNeg 0) = nI S.1.2.2.1 := nI_is hs.1 (by have := ho.2.2.1; omega)
  refine pv_aloadn (pc := 0) (n := 2) 2 rfl rfl (fm_dec dtX11_does 0 rfl) ?_
  refine pv_iconst (pc := 1) (v := 1) (by decide) (fm_dec dtX11_does 1 rfl) ?_
  refine pv_iald (k := (423 + b)) (n := 3) (pc := 2) (rw_step.2.2.2 _ hb).2.2.1 (rw_step.2.2.2 _ hb).2.2.2.1 (rw_step.2.2.2 _ hb).2.2.2.2 (fm_inl (by decide)) (fm_dec dtX11_does 2 rfl) ?_
  refine pv_istoren (pc := 3) (n := 3) 3 rfl (by decide) rfl (fm_dec dtX11_does 3 rfl) ?_
  dsimp only [List.set_cons_zero, List.set_cons_succ]
  rw [ei]
  refine pv_aloadn (pc := 4) (n := 2) 2 rfl rfl (fm_dec dtX11_does 4 rfl) ?_
  refine pv_iconst (pc := 5) (v := 0) (by decide) (fm_dec dtX11_does 5 rfl) ?_
  refine pv_iald (k := (423 + b)) (n := 3) (pc := 6) (rw_step.2.2.2 _ hb).2.2.1 (rw_step.2.2.2 _ hb).2.2.2.1 (rw_step.2.2.2 _ hb).2.2.2.2 (fm_inl (by decide)) (fm_dec dtX11_does 6 rfl) ?_
  refine pv_table (pc := 7) 84 (by decide) (by have h9 : M.1 (423 + b) (Int32.toNatClampNeg 0) = nI 2 := hk; rw [h9]; decide) (fm_dec dtX11_does 7 rfl) ?_
  refine pv_aloadn (pc := 84) (n := 1) 1 rfl rfl (fm_dec dtX11_does 41 rfl) ?_
  refine pv_iconst (pc := 85) (v := 0) (by decide) (fm_dec dtX11_does 42 rfl) ?_
  refine pv_iald (k := 7) (n := 14) (pc := 86) (by decide) rfl rfl (fm_inl (by decide)) (fm_dec dtX11_does 43 rfl) ?_
  refine pv_iloadn (pc := 87) (n := 3) 3 rfl rfl (fm_dec dtX11_does 44 rfl) ?_
  refine pv_iS2 (d' := 0) (pc := 88) pcs_X11_256 (Nat.le_of_ble_eq_true rfl) (by decide) (fm_dec dtX11_does 45 rfl) ?_
  refine c_has (fun h88 => ?_) (fun h88 => ?_)
  · refine pv_then1 ?_
    refine pv_if_eq (pc := 91) 96 (by decide) (fm_dec dtX11_does 46 rfl) (fun hc91 => by exfalso; revert hc91; decide) (fun _ => ?_)
    refine pv_iconst (pc := 94) (v := 0) (by decide) (fm_dec dtX11_does 47 rfl) ?_
    exact pv_zreturn (pc := 95) rfl (by first | exact Or.inr rfl | exact Or.inl rfl) (fm_dec dtX11_does 48 rfl) (hn (if_pos ((has8 _ ho.2.2.1 i hi8).mp (by rw [← e0]; exact h88))))
  · refine pv_then1 ?_
    refine pv_if_eq (pc := 91) 96 (by decide) (fm_dec dtX11_does 46 rfl) (fun _ => ?_) (fun hc91 => by exfalso; revert hc91; decide)
    refine pv_aloadn (pc := 96) (n := 0) 0 rfl rfl (fm_dec dtX11_does 49 rfl) ?_
    refine pv_aloadn (pc := 97) (n := 1) 1 rfl rfl (fm_dec dtX11_does 50 rfl) ?_
    refine pv_iloadn (pc := 98) (n := 3) 3 rfl rfl (fm_dec dtX11_does 51 rfl) ?_
    refine pv_invV2 (k := 0) (d' := 8) (pc := 99) pcv_X11_303 (by decide) rfl (Nat.le_of_ble_eq_true rfl) (by decide) (fm_dec dtX11_does 52 rfl) ?_
    refine c_mdie hD hY hL hd hs ho hi (Bool.eq_false_iff.mpr (fun h8 => h88 (by rw [e0]; exact (has8 _ ho.2.2.1 i hi8).mpr h8))) (fun M99 S99 e99 x99 f99 => ?_)
    refine pv_then0 ?_
    refine pv_iconst (pc := 102) (v := 1) (by decide) (fm_dec dtX11_does 53 rfl) ?_
    exact pv_zreturn (pc := 103) rfl (by first | exact Or.inr rfl | exact Or.inl rfl) (fm_dec dtX11_does 54 rfl) (hq M99 S99 e99 x99 f99)
set_option maxRecDepth 20000 in
theorem c_mds3 {M : fmM} {Q : fmR → fmM → Prop} {D : dD} {cs : tC} {S : aS} {b i : Nat} (hD : dOk D) (hY : mdw M D) (hL : lwM M cs) (hd : cs = [] ∨ dpB 23 0 cs = some 1) (hs : mst M D S) (ho : stO D S) (hb : b < 80) (hk : M.1 (423 + b) 0 = nI 3) (hn : doS D cs S 3 i = none → Q (.inl (some (.int 0))) M) (hq : ∀ (M' : fmM) (S' : aS), doS D cs S 3 i = some S' → mst M' D S' → mFr M M' → Q (.inl (some (.int 1))) M') : pvGood Tm 9 qX11_does [.ref 0, .ref 7, .ref (423 + b)] M Q := by
  refine pvGood_of (Nat.le_of_ble_eq_true rfl) ?_
  show pvEv Tm 9 qX11_does 0 [some (.ref 0), some (.ref 7), some (.ref (423 + b)), none] [] M Q
  refine pv_aloadn (pc := 0) (n := 2) 2 rfl rfl (fm_dec dtX11_does 0 rfl) ?_
  refine pv_iconst (pc := 1) (v := 1) (by decide) (fm_dec dtX11_does 1 rfl) ?_
  refine pv_iald (k := (423 + b)) (n := 3) (pc := 2) (rw_step.2.2.2 _ hb).2.2.1 (rw_step.2.2.2 _ hb).2.2.2.1 (rw_step.2.2.2 _ hb).2.2.2.2 (fm_inl (by decide)) (fm_dec dtX11_does 2 rfl) ?_
  refine pv_istoren (pc := 3) (n := 3) 3 rfl (by decide) rfl (fm_dec dtX11_does 3 rfl) ?_
  dsimp only [List.set_cons_zero, List.set_cons_succ]
  refine pv_aloadn (pc := 4) (n := 2) 2 rfl rfl (fm_dec dtX11_does 4 rfl) ?_
  refine pv_iconst (pc := 5) (v := 0) (by decide) (fm_dec dtX11_does 5 rfl) ?_
  refine pv_iald (k := (423 + b)) (n := 3) (pc := 6) (rw_step.2.2.2 _ hb).2.2.1 (rw_step.2.2.2 _ hb).2.2.2.1 (rw_step.2.2.2 _ hb).2.2.2.2 (fm_inl (by decide)) (fm_dec dtX11_does 6 rfl) ?_
  refine pv_table (pc := 7) 104 (by decide) (by have h9 : M.1 (423 + b) (Int32.toNatClampNeg 0) = nI 3 := hk; rw [h9]; decide) (fm_dec dtX11_does 7 rfl) ?_
  refine pv_aloadn (pc := 104) (n := 0) 0 rfl rfl (fm_dec dtX11_does 55 rfl) ?_
  refine pv_aloadn (pc := 105) (n := 1) 1 rfl rfl (fm_dec dtX11_does 56 rfl) ?_
  refine pv_invV1 (k := 0) (d' := 0) (pc := 106) pcv_X11_306 (by decide) rfl (Nat.le_of_ble_eq_true rfl) (by decide) (fm_dec dtX11_does 57 rfl) ?_
  refine c_mweek hD hY hs ho (fun h106 => ?_) (fun M9 S9 h106 x9 f9 => ?_)
  · refine pv_then1 ?_
    exact pv_zreturn (pc := 109) rfl (by first | exact Or.inr rfl | exact Or.inl rfl) (fm_dec dtX11_does 58 rfl) (hn h106)
  · refine pv_then1 ?_
    exact pv_zreturn (pc := 109) rfl (by first | exact Or.inr rfl | exact Or.inl rfl) (fm_dec dtX11_does 58 rfl) (hq M9 S9 h106 x9 f9)
end
-- P 18yb
section
def mAll (M : fmM) (D : dD) (cs : tC) (R : gR) : Prop := mdw M D ∧ lwM M cs ∧ (cs = [] ∨ dpB 23 0 cs = some 1) ∧ mst M D R.1 ∧ stO D R.1 ∧ (M.1 0 36).toInt = (R.2.1 : Int) ∧ (M.1 0 37).toInt = (R.2.2.1 : Int) ∧ (M.1 0 33).toInt = (R.2.2.2 : Int) ∧ R.2.2.1 + R.2.2.2 ≤ R.2.1 ∧ R.2.1 ≤ 200
def nFr (M M' : fmM) : Prop := (∀ k j, k ≠ 0 → k ≠ 5 → k ≠ 6 → k ≠ 7 → M'.1 k j = M.1 k j) ∧ (∀ j, j ≠ 33 → j ≠ 36 → j ≠ 37 → M'.1 0 j = M.1 0 j) ∧ M'.2 = M.2
theorem nFr.refl (M : fmM) : nFr M M := ⟨fun _ _ _ _ _ _ => rfl, fun _ _ _ _ => rfl, rfl⟩
theorem nFr.trans {M M1 M2 : fmM} (h : nFr M M1) (h' : nFr M1 M2) : nFr M M2 := ⟨fun k j a b c d => (h'.1 k j a b c d).trans (h.1 k j a b c d), fun j a b c => (h'.2.1 j a b c).trans (h.2.1 j a b c), h'.2.2.trans h.2.2⟩
theorem nFr.put {M M1 : fmM} {j : Nat} {x : Int32} (h : nFr M M1) (hj : j = 33 ∨ j = 36 ∨ j = 37) : nFr M (fmI M1 0 j x) := ⟨fun k' j' a b c d => by rw [fmI_k _ _ a]; exact h.1 k' j' a b c d, fun j' a b c => by rw [fmI_j _ _ (by omega)]; exact h.2.1 j' a b c, h.2.2⟩
theorem mFr.n {M M1 : fmM} (h : mFr M M1) : nFr M M1 := ⟨fun k j a b c d => h.1 k j b c d, fun j _ _ _ => h.1 0 j (by decide) (by decide) (by decide), h.2⟩
theorem stRep.n {M M' : fmM} {ss : tS} (h : stRep M 0 ss) (hf : nFr M M') : stRep M' 0 ss := fun i c hi => by
  rw [hf.1 _ _ (by omega) (by omega) (by omega) (by omega), hf.1 _ _ (by omega) (by omega) (by omega) (by omega), hf.1 _ _ (by omega) (by omega) (by omega) (by omega)]
  exact h i c hi
theorem lwM.f {M M' : fmM} {cs : tC} (h : lwM M cs) (e : M'.1 0 17 = M.1 0 17) (e2 : ∀ k j, 91 ≤ k → M'.1 k j = M.1 k j) : lwM M' cs := ⟨by rw [e]; exact h.1, h.2.1, h.2.2.1, fun i c hi => by rw [e2 _ _ (by omega), e2 _ _ (by omega)]; exact h.2.2.2 i c hi⟩
theorem mAll.put {M : fmM} {D : dD} {cs : tC} {R : gR} {j : Nat} {x : Int32} (hD : dOk D) (h : mAll M D cs R) (hj : j = 33 ∨ j = 36 ∨ j = 37) : mdw (fmI M 0 j x) D ∧ lwM (fmI M 0 j x) cs ∧ mst (fmI M 0 j x) D R.1 := ⟨h.1.k hD (fun k j' a => by rw [fmI_k _ _ (by omega)]), h.2.1.f (by rw [fmI_j _ _ (by omega)]) (fun k j' a => by rw [fmI_k _ _ (by omega)]), h.2.2.2.1.of (fun j' => by rw [fmI_k _ _ (by decide)])⟩
/-- one step, whatever its kind -/
theorem c_mds {M : fmM} {Q : fmR → fmM → Prop} {D : dD} {cs : tC} {S : aS} {b k i : Nat} (hD : dOk D) (hY : mdw M D) (hL : lwM M cs) (hd : cs = [] ∨ dpB 23 0 cs = some 1) (hs : mst M D S) (ho : stO D S) (hb : b < 80) (hk : (M.1 (423 + b) 0).toInt = (k : Int)) (hk4 : k < 4) (hi1 : k ≠ 3 → (M.1 (423 + b) 1).toInt = (i : Int)) (hi : k < 3 → i < D.1) (hn : doS D cs S k i = none → Q (.inl (some (.int 0))) M) (hq : ∀ (M' : fmM) (S' : aS), doS D cs S k i = some S' → mst M' D S' → mFr M M' → Q (.inl (some (.int 1))) M') : pvGood Tm 9 qX11_does [.ref 0, .ref 7, .ref (423 + b)] M Q := by
  have hx : M.1 (423 + b) 0 = nI k := nI_is hk (by omega)
  match k, hk4, hx, hi1, hi, hn, hq with
  | 0, _, hx, hi1, hi, hn, hq => exact c_mds0 hD hY hL hd hs ho hb hx (hi1 (by decide)) (hi (by decide)) hn hq
  | 1, _, hx, hi1, hi, hn, hq => exact c_mds1 hD hY hL hd hs ho hb hx (hi1 (by decide)) (hi (by decide)) hn hq
  | 2, _, hx, hi1, hi, hn, hq => exact c_mds2 hD hY hL hd hs ho hb hx (hi1 (by decide)) (hi (by decide)) hn hq
  | 3, _, hx, hi1, hi, hn, hq => exact c_mds3 hD hY hL hd hs ho hb hx hn hq
  | k + 4, h, _, _, _, _, _ => omega
def mgL (D : dD) (cs : tC) (ss : tS) (f : Nat) : Prop := ∀ (M : fmM) (Q : fmR → fmM → Prop) (a g d : Nat) (l : tS) (R : gR) (fr to sx : Int32) (v4 : Option Value), mAll M D cs R → stRep M 0 ss → seg ss a l → a + l.length ≤ ss.length → wnL g d a l → sx.toInt = (a : Int) → to.toInt = ((a + l.length : Nat) : Int) → 200 - R.2.1 < f → (∀ M' : fmM, mAll M' D cs (goL D cs f a l R) → nFr M M' → Q (.inl none) M') → pvEv Tm (12 + f) qX11_goes 2 [some (.ref 0), some (.int fr), some (.int to), some (.int sx), v4] [] M Q
theorem mgL.go {D : dD} {cs : tC} {ss : tS} {f : Nat} (h : mgL D cs ss f) {M : fmM} {Q : fmR → fmM → Prop} {a g d : Nat} {l : tS} {R : gR} {to fr : Int32} (h1 : mAll M D cs R) (h2 : stRep M 0 ss) (h3 : seg ss a l) (h4 : a + l.length ≤ ss.length) (h5 : wnL g d a l) (h7 : fr.toInt = (a : Int)) (h8 : to.toInt = ((a + l.length : Nat) : Int)) (h10 : 200 - R.2.1 < f) (hq : ∀ M' : fmM, mAll M' D cs (goL D cs f a l R) → nFr M M' → Q (.inl none) M') : pvGood Tm (12 + f) qX11_goes [.ref 0, .int fr, .int to] M Q := by
  refine pvGood_of (Nat.le_of_ble_eq_true rfl) ?_
  show pvEv Tm (12 + f) qX11_goes 0 [some (.ref 0), some (.int fr), some (.int to), none, none] [] M Q
  refine pv_iloadn (pc := 0) (n := 1) 1 rfl rfl (fm_dec dtX11_goes 0 rfl) ?_
  refine pv_istoren (pc := 1) (n := 3) 3 rfl (by decide) rfl (fm_dec dtX11_goes 1 rfl) ?_
  dsimp only [List.set_cons_zero, List.set_cons_succ]
  exact h M Q a g d l R fr to fr none h1 h2 h3 h4 h5 h7 h8 h10 hq
set_option maxRecDepth 20000 in
theorem mge_in {Q : fmR → fmM → Prop} {D : dD} {cs : tC} {ss : tS} {f : Nat} (h : mgL D cs ss f) {a g9 d9 v e : Nat} {s : Nat × Nat × Nat} {r : tS} {fr to sx : Int32} (hsa : ss[a]? = some s) (hs2 : s.2.1 = v) (hs3 : s.2.2 = e) (h4s : s.1 = 4) (hv20 : v ≤ 20) (hseg : seg ss (a + 1) r) (hlen : a + 1 + r.length ≤ ss.length) (hae : a + 1 ≤ e) (her : e ≤ a + 1 + r.length) (hwn : wnL g9 d9 (a + 1) (r.take (e - (a + 1)))) (ha : sx.toInt = (a : Int)) (ha80 : a < 80) : ∀ (q : Nat) (M : fmM) (R : gR) (c : Nat) (cc : Int32), mAll M D cs R → stRep M 0 ss → 200 - R.2.1 < f → cc.toInt = (c : Int) → c + q = v → (∀ (M' : fmM) (v4 : Option Value), mAll M' D cs (loR (goL D cs f (a + 1) (r.take (e - (a + 1)))) q R) → nFr M M' → pvEv Tm (12 + (f + 1)) qX11_goes 143 [some (.ref 0), some (.int fr), some (.int to), some (.int sx), v4] [] M' Q) → pvEv Tm (12 + (f + 1)) qX11_goes 42 [some (.ref 0), some (.int fr), some (.int to), some (.int sx), some (.int cc)] [] M Q := by
  intro q
  induction q with
  | zero =>
    intro M R c cc hA hW hg hc hcq hq
    have hrow := hW a s hsa
    rw [show 423 + 0 + a = 423 + a by omega] at hrow
    have hv9 : (M.1 (423 + a) (Int32.toNatClampNeg 1)).toInt = (v : Int) := (hrow.2.1 (by rw [h4s]; decide)).trans (by rw [hs2])
    have he9 : (M.1 (423 + a) (Int32.toNatClampNeg 2)).toInt = (e : Int) := hrow.2.2.trans (by rw [hs3])
    refine pv_iload (pc := 42) (i := 4) rfl (fm_dec dtX11_goes 25 rfl) ?_
    refine pv_aloadn (pc := 44) (n := 0) 0 rfl rfl (fm_dec dtX11_goes 26 rfl) ?_
    refine pv_getR (k := 0) (j := 25) (ci := 11) (pc := 45) 24 rfl (by decide) pfl_X11_58 (by decide) rfl (by decide) (fm_dec dtX11_goes 27 rfl) ?_
    refine pv_iloadn (pc := 48) (n := 3) 3 rfl rfl (fm_dec dtX11_goes 28 rfl) ?_
    refine pv_aald (k := 24) (n := 80) (r := (423 + a)) (pc := 49) (by decide) (Or.inr (Or.inr rfl)) rfl (rw_step.inb ha ha80) (rw_step.at ha ha80) (rw_step.2.2.2 _ ha80).2.1 (fm_dec dtX11_goes 29 rfl) ?_
    refine pv_iconst (pc := 50) (v := 1) (by decide) (fm_dec dtX11_goes 30 rfl) ?_
    refine pv_iald (k := (423 + a)) (n := 3) (pc := 51) (rw_step.2.2.2 _ ha80).2.2.1 (rw_step.2.2.2 _ ha80).2.2.2.1 (rw_step.2.2.2 _ ha80).2.2.2.2 (fm_inl (by decide)) (fm_dec dtX11_goes 31 rfl) ?_
    refine pv_icmp_ge (pc := 52) 86 (by decide) (fm_dec dtX11_goes 32 rfl) (fun _ => ?_) (fun hc52 => by exfalso; apply hc52; rw [sc_le]; omega)
    refine pv_goto (pc := 86) 143 (by decide) (fm_dec dtX11_goes 50 rfl) ?_
    exact hq M _ hA (nFr.refl M)
  | succ q ih =>
    intro M R c cc hA hW hg hc hcq hq
    have hrow := hW a s hsa
    rw [show 423 + 0 + a = 423 + a by omega] at hrow
    have hv9 : (M.1 (423 + a) (Int32.toNatClampNeg 1)).toInt = (v : Int) := (hrow.2.1 (by rw [h4s]; decide)).trans (by rw [hs2])
    have he9 : (M.1 (423 + a) (Int32.toNatClampNeg 2)).toInt = (e : Int) := hrow.2.2.trans (by rw [hs3])
    refine pv_iload (pc := 42) (i := 4) rfl (fm_dec dtX11_goes 25 rfl) ?_
    refine pv_aloadn (pc := 44) (n := 0) 0 rfl rfl (fm_dec dtX11_goes 26 rfl) ?_
    refine pv_getR (k := 0) (j := 25) (ci := 11) (pc := 45) 24 rfl (by decide) pfl_X11_58 (by decide) rfl (by decide) (fm_dec dtX11_goes 27 rfl) ?_
    refine pv_iloadn (pc := 48) (n := 3) 3 rfl rfl (fm_dec dtX11_goes 28 rfl) ?_
    refine pv_aald (k := 24) (n := 80) (r := (423 + a)) (pc := 49) (by decide) (Or.inr (Or.inr rfl)) rfl (rw_step.inb ha ha80) (rw_step.at ha ha80) (rw_step.2.2.2 _ ha80).2.1 (fm_dec dtX11_goes 29 rfl) ?_
    refine pv_iconst (pc := 50) (v := 1) (by decide) (fm_dec dtX11_goes 30 rfl) ?_
    refine pv_iald (k := (423 + a)) (n := 3) (pc := 51) (rw_step.2.2.2 _ ha80).2.2.1 (rw_step.2.2.2 _ ha80).2.2.2.1 (rw_step.2.2.2 _ ha80).2.2.2.2 (fm_inl (by decide)) (fm_dec dtX11_goes 31 rfl) ?_
    refine pv_icmp_ge (pc := 52) 86 (by decide) (fm_dec dtX11_goes 32 rfl) (fun hc52 => by exfalso; rw [sc_le] at hc52; omega) (fun _ => ?_)
    refine pv_aloadn (pc := 55) (n := 0) 0 rfl rfl (fm_dec dtX11_goes 33 rfl) ?_
    refine pv_getI (k := 0) (j := 36) (ci := 11) (pc := 56) pfl_X11_310 (by decide) rfl (by decide) (fm_dec dtX11_goes 34 rfl) ?_
    refine pv_sipush (pc := 59) (v := 200) (by decide) (fm_dec dtX11_goes 35 rfl) ?_
    refine pv_icmp_ge (pc := 62) 86 (by decide) (fm_dec dtX11_goes 36 rfl) (fun hc62 => ?_) (fun hc62 => ?_)
    · refine pv_goto (pc := 86) 143 (by decide) (fm_dec dtX11_goes 50 rfl) ?_
      have eL : loR (goL D cs f (a + 1) (r.take (e - (a + 1)))) (q + 1) R = R := if_neg (by rw [sc_le] at hc62; have z200 : (200 : Int32).toInt = 200 := (by decide); have h9 := hA.2.2.2.2.2.1; omega)
      rw [eL] at hq
      exact hq M _ hA (nFr.refl M)
    · have hg2 : R.2.1 < 200 := (by rw [sc_le] at hc62; have z200 : (200 : Int32).toInt = 200 := (by decide); have h9 := hA.2.2.2.2.2.1; omega)
      have eL : loR (goL D cs f (a + 1) (r.take (e - (a + 1)))) (q + 1) R = loR (goL D cs f (a + 1) (r.take (e - (a + 1)))) q ((goL D cs f (a + 1) (r.take (e - (a + 1)))) R) := if_pos hg2
      rw [eL] at hq
      refine pv_aloadn (pc := 65) (n := 0) 0 rfl rfl (fm_dec dtX11_goes 37 rfl) ?_
      refine pv_iloadn (pc := 66) (n := 3) 3 rfl rfl (fm_dec dtX11_goes 38 rfl) ?_
      refine pv_iconst (pc := 67) (v := 1) (by decide) (fm_dec dtX11_goes 39 rfl) ?_
      refine pv_iadd (pc := 68) (fm_dec dtX11_goes 40 rfl) ?_
      refine pv_aloadn (pc := 69) (n := 0) 0 rfl rfl (fm_dec dtX11_goes 41 rfl) ?_
      refine pv_getR (k := 0) (j := 25) (ci := 11) (pc := 70) 24 rfl (by decide) pfl_X11_58 (by decide) rfl (by decide) (fm_dec dtX11_goes 42 rfl) ?_
      refine pv_iloadn (pc := 73) (n := 3) 3 rfl rfl (fm_dec dtX11_goes 43 rfl) ?_
      refine pv_aald (k := 24) (n := 80) (r := (423 + a)) (pc := 74) (by decide) (Or.inr (Or.inr rfl)) rfl (rw_step.inb ha ha80) (rw_step.at ha ha80) (rw_step.2.2.2 _ ha80).2.1 (fm_dec dtX11_goes 44 rfl) ?_
      refine pv_iconst (pc := 75) (v := 2) (by decide) (fm_dec dtX11_goes 45 rfl) ?_
      refine pv_iald (k := (423 + a)) (n := 3) (pc := 76) (rw_step.2.2.2 _ ha80).2.2.1 (rw_step.2.2.2 _ ha80).2.2.2.1 (rw_step.2.2.2 _ ha80).2.2.2.2 (fm_inl (by decide)) (fm_dec dtX11_goes 46 rfl) ?_
      refine pv_invV2 (k := 0) (d' := (12 + f)) (pc := 77) pcv_X11_313 (by decide) rfl (Nat.le_of_ble_eq_true rfl) (by omega) (fm_dec dtX11_goes 47 rfl) ?_
      refine h.go (a := a + 1) (g := g9) (d := d9) hA hW (seg.tk hseg) (by rw [List.length_take]; omega) hwn (i32_p1 ha (by omega)) (by rw [he9, List.length_take]; omega) hg (fun M77 h77 f77 => ?_) 
      refine pv_then0 ?_
      refine pv_iincc (pc := 80) 4 1 (by decide) rfl (by decide) rfl (fm_dec dtX11_goes 48 rfl) ?_
      dsimp only [List.set_cons_zero, List.set_cons_succ]
      refine pv_goto (pc := 83) 42 (by decide) (fm_dec dtX11_goes 49 rfl) ?_
      exact ih M77 _ (c + 1) _ h77 (hW.n f77) (by have h9 := go_ge (D := D) (cs := cs) f (a + 1) (r.take (e - (a + 1))) R; omega) (i32_p1 hc (by omega)) (by omega) (fun M' v4 a1 b1 => hq M' v4 a1 (f77.trans b1))
set_option maxRecDepth 20000 in
theorem mg_E {D : dD} {cs : tC} {ss : tS} (hD : dOk D) (hN : nuO D ss) (h80 : ss.length ≤ 80) : ∀ f, mgL D cs ss f := by
  intro f
  induction f with
  | zero =>
    intro M Q a g d l R fr to sx v4 hA hW hseg hlen hwn ha ht hf hq
    omega
  | succ f ih =>
    intro M Q a g d l R fr to sx v4 hA hW hseg hlen hwn ha ht hf hq
    refine pv_iloadn (pc := 2) (n := 3) 3 rfl rfl (fm_dec dtX11_goes 2 rfl) ?_
    refine pv_iloadn (pc := 3) (n := 2) 2 rfl rfl (fm_dec dtX11_goes 3 rfl) ?_
    refine pv_icmp_ge (pc := 4) 155 (by decide) (fm_dec dtX11_goes 4 rfl) (fun hc4 => ?_) (fun hc4 => ?_)
    · exact pv_return (pc := 155) rfl (fm_dec dtX11_goes 88 rfl) (by have el : l = [] := (by cases l with | nil => rfl | cons s r => (rw [sc_le] at hc4; rw [List.length_cons] at ht; omega)); subst el; rw [go_0] at hq; exact hq M hA (nFr.refl M))
    · obtain ⟨s, r, rfl⟩ : ∃ s r, l = s :: r := (by cases l with | nil => (rw [sc_le] at hc4; rw [List.length_nil] at ht; omega) | cons s r => exact ⟨s, r, rfl⟩)
      rw [List.length_cons] at ht hlen
      have ha80 : a < 80 := (by omega)
      have hsa := hseg.hd
      have hnu := hN.2 s (List.mem_of_getElem? hsa)
      refine pv_aloadn (pc := 7) (n := 0) 0 rfl rfl (fm_dec dtX11_goes 5 rfl) ?_
      refine pv_getI (k := 0) (j := 36) (ci := 11) (pc := 8) pfl_X11_310 (by decide) rfl (by decide) (fm_dec dtX11_goes 6 rfl) ?_
      refine pv_sipush (pc := 11) (v := 200) (by decide) (fm_dec dtX11_goes 7 rfl) ?_
      refine pv_icmp_ge (pc := 14) 155 (by decide) (fm_dec dtX11_goes 8 rfl) (fun hc14 => ?_) (fun hc14 => ?_)
      · exact pv_return (pc := 155) rfl (fm_dec dtX11_goes 88 rfl) (by rw [go_s (by rw [sc_le] at hc14; have z200 : (200 : Int32).toInt = 200 := (by decide); have h9 := hA.2.2.2.2.2.1; omega)] at hq; exact hq M hA (nFr.refl M))
      · have hg2 : R.2.1 < 200 := (by rw [sc_le] at hc14; have z200 : (200 : Int32).toInt = 200 := (by decide); have h9 := hA.2.2.2.2.2.1; omega)
        have hP1 := hA.put hD (x := M.1 0 36 + 1) (Or.inr (Or.inl rfl))
        have e4 : ((fmI M 0 36 (M.1 0 36 + 1)).1 0 36).toInt = ((R.2.1 + 1 : Nat) : Int) := (by rw [fmI_s]; exact i32_p1 hA.2.2.2.2.2.1 (by omega))
        have f1 : nFr M (fmI M 0 36 (M.1 0 36 + 1)) := (nFr.refl M).put (Or.inr (Or.inl rfl))
        have hW1 : stRep (fmI M 0 36 (M.1 0 36 + 1)) 0 ss := hW.n f1
        have hA1 : mAll (fmI M 0 36 (M.1 0 36 + 1)) D cs (R.1, R.2.1 + 1, R.2.2) := ⟨hP1.1, hP1.2.1, hA.2.2.1, hP1.2.2, hA.2.2.2.2.1, e4, hA.2.2.2.2.2.2.1, hA.2.2.2.2.2.2.2.1, (by show R.2.2.1 + R.2.2.2 ≤ R.2.1 + 1; have := hA.2.2.2.2.2.2.2.2.1; omega), hg2⟩
        have hrow1 := hW1 a s hsa
        rw [show 423 + 0 + a = 423 + a by omega] at hrow1
        refine pv_aloadn (pc := 17) (n := 0) 0 rfl rfl (fm_dec dtX11_goes 9 rfl) ?_
        refine pv_dup (pc := 18) rfl (fm_dec dtX11_goes 10 rfl) ?_
        refine pv_getI (k := 0) (j := 36) (ci := 11) (pc := 19) pfl_X11_310 (by decide) rfl (by decide) (fm_dec dtX11_goes 11 rfl) ?_
        refine pv_iconst (pc := 22) (v := 1) (by decide) (fm_dec dtX11_goes 12 rfl) ?_
        refine pv_iadd (pc := 23) (fm_dec dtX11_goes 13 rfl) ?_
        refine pv_putI (k := 0) (j := 36) (ci := 11) (pc := 24) pfl_X11_310 (by decide) rfl (by decide) (fm_dec dtX11_goes 14 rfl) ?_
        refine pv_aloadn (pc := 27) (n := 0) 0 rfl rfl (fm_dec dtX11_goes 15 rfl) ?_
        refine pv_getR (k := 0) (j := 25) (ci := 11) (pc := 28) 24 rfl (by decide) pfl_X11_58 (by decide) rfl (by decide) (fm_dec dtX11_goes 16 rfl) ?_
        refine pv_iloadn (pc := 31) (n := 3) 3 rfl rfl (fm_dec dtX11_goes 17 rfl) ?_
        refine pv_aald (k := 24) (n := 80) (r := (423 + a)) (pc := 32) (by decide) (Or.inr (Or.inr rfl)) rfl (rw_step.inb ha ha80) (rw_step.at ha ha80) (rw_step.2.2.2 _ ha80).2.1 (fm_dec dtX11_goes 18 rfl) ?_
        refine pv_iconst (pc := 33) (v := 0) (by decide) (fm_dec dtX11_goes 19 rfl) ?_
        refine pv_iald (k := (423 + a)) (n := 3) (pc := 34) (rw_step.2.2.2 _ ha80).2.2.1 (rw_step.2.2.2 _ ha80).2.2.2.1 (rw_step.2.2.2 _ ha80).2.2.2.2 (fm_inl (by decide)) (fm_dec dtX11_goes 20 rfl) ?_
        refine pv_iconst (pc := 35) (v := 4) (by decide) (fm_dec dtX11_goes 21 rfl) ?_
        refine pv_icmp_ne (pc := 36) 89 (by decide) (fm_dec dtX11_goes 22 rfl) (fun hc36 => ?_) (fun hc36 => ?_)
        · have h4 : ¬ s.1 = 4 := (fun h9 => hc36 (i32_ext (by have h8 : ((fmI M 0 36 (M.1 0 36 + 1)).1 (423 + a) (Int32.toNatClampNeg 0)).toInt = (s.1 : Int) := hrow1.1; rw [h8, h9]; decide)))
          obtain ⟨hk4, hs2, g8, w8⟩ := wn_1 hwn h4
          rw [go_1 hg2 h4] at hq
          refine pv_aloadn (pc := 89) (n := 0) 0 rfl rfl (fm_dec dtX11_goes 51 rfl) ?_
          refine pv_aloadn (pc := 90) (n := 0) 0 rfl rfl (fm_dec dtX11_goes 52 rfl) ?_
          refine pv_getR (k := 0) (j := 27) (ci := 11) (pc := 91) 7 rfl (by decide) pfl_X11_61 (by decide) rfl (by decide) (fm_dec dtX11_goes 53 rfl) ?_
          refine pv_aloadn (pc := 94) (n := 0) 0 rfl rfl (fm_dec dtX11_goes 54 rfl) ?_
          refine pv_getR (k := 0) (j := 25) (ci := 11) (pc := 95) 24 rfl (by decide) pfl_X11_58 (by decide) rfl (by decide) (fm_dec dtX11_goes 55 rfl) ?_
          refine pv_iloadn (pc := 98) (n := 3) 3 rfl rfl (fm_dec dtX11_goes 56 rfl) ?_
          refine pv_aald (k := 24) (n := 80) (r := (423 + a)) (pc := 99) (by decide) (Or.inr (Or.inr rfl)) rfl (rw_step.inb ha ha80) (rw_step.at ha ha80) (rw_step.2.2.2 _ ha80).2.1 (fm_dec dtX11_goes 57 rfl) ?_
          refine pv_invV2 (k := 0) (d' := 9) (pc := 100) pcv_X11_316 (by decide) rfl (Nat.le_of_ble_eq_true rfl) (by omega) (fm_dec dtX11_goes 58 rfl) ?_
          refine c_mds (k := s.1) (i := s.2.1) hD hP1.1 hP1.2.1 hA.2.2.1 hP1.2.2 hA.2.2.2.2.1 ha80 hrow1.1 hk4 hrow1.2.1 (fun h9 => hnu.1 h9) (fun h100 => ?_) (fun M9 S9 h100 x100 f100 => ?_)  
          · refine pv_then1 ?_
            refine pv_istore (pc := 103) (i := 4) (by decide) rfl (fm_dec dtX11_goes 59 rfl) ?_
            dsimp only [List.set_cons_zero, List.set_cons_succ]
            refine pv_aloadn (pc := 105) (n := 0) 0 rfl rfl (fm_dec dtX11_goes 60 rfl) ?_
            refine pv_dup (pc := 106) rfl (fm_dec dtX11_goes 61 rfl) ?_
            refine pv_getI (k := 0) (j := 37) (ci := 11) (pc := 107) pfl_X11_320 (by decide) rfl (by decide) (fm_dec dtX11_goes 62 rfl) ?_
            refine pv_iload (pc := 110) (i := 4) rfl (fm_dec dtX11_goes 63 rfl) ?_
            refine pv_if_eq (pc := 112) 119 (by decide) (fm_dec dtX11_goes 64 rfl) (fun _ => ?_) (fun hc112 => by exfalso; revert hc112; decide)
            refine pv_iconst (pc := 119) (v := 0) (by decide) (fm_dec dtX11_goes 67 rfl) ?_
            refine pv_iadd (pc := 120) (fm_dec dtX11_goes 68 rfl) ?_
            refine pv_putI (k := 0) (j := 37) (ci := 11) (pc := 121) pfl_X11_320 (by decide) rfl (by decide) (fm_dec dtX11_goes 69 rfl) ?_
            refine pv_aloadn (pc := 124) (n := 0) 0 rfl rfl (fm_dec dtX11_goes 70 rfl) ?_
            refine pv_dup (pc := 125) rfl (fm_dec dtX11_goes 71 rfl) ?_
            refine pv_getI (k := 0) (j := 33) (ci := 11) (pc := 126) pfl_X11_203 (by decide) rfl (by decide) (fm_dec dtX11_goes 72 rfl) ?_
            refine pv_iload (pc := 129) (i := 4) rfl (fm_dec dtX11_goes 73 rfl) ?_
            refine pv_if_eq (pc := 131) 138 (by decide) (fm_dec dtX11_goes 74 rfl) (fun _ => ?_) (fun hc131 => by exfalso; revert hc131; decide)
            refine pv_iconst (pc := 138) (v := 1) (by decide) (fm_dec dtX11_goes 77 rfl) ?_
            refine pv_iadd (pc := 139) (fm_dec dtX11_goes 78 rfl) ?_
            refine pv_putI (k := 0) (j := 33) (ci := 11) (pc := 140) pfl_X11_203 (by decide) rfl (by decide) (fm_dec dtX11_goes 79 rfl) ?_
            refine pv_aloadn (pc := 143) (n := 0) 0 rfl rfl (fm_dec dtX11_goes 80 rfl) ?_
            refine pv_getR (k := 0) (j := 25) (ci := 11) (pc := 144) 24 rfl (by decide) pfl_X11_58 (by decide) rfl (by decide) (fm_dec dtX11_goes 81 rfl) ?_
            refine pv_iloadn (pc := 147) (n := 3) 3 rfl rfl (fm_dec dtX11_goes 82 rfl) ?_
            refine pv_aald (k := 24) (n := 80) (r := (423 + a)) (pc := 148) (by decide) (Or.inr (Or.inr rfl)) rfl (rw_step.inb ha ha80) (rw_step.at ha ha80) (rw_step.2.2.2 _ ha80).2.1 (fm_dec dtX11_goes 83 rfl) ?_
            refine pv_iconst (pc := 149) (v := 2) (by decide) (fm_dec dtX11_goes 84 rfl) ?_
            refine pv_iald (k := (423 + a)) (n := 3) (pc := 150) (rw_step.2.2.2 _ ha80).2.2.1 (rw_step.2.2.2 _ ha80).2.2.2.1 (rw_step.2.2.2 _ ha80).2.2.2.2 (fm_inl (by decide)) (fm_dec dtX11_goes 85 rfl) ?_
            refine pv_istoren (pc := 151) (n := 3) 3 rfl (by decide) rfl (fm_dec dtX11_goes 86 rfl) ?_
            dsimp only [List.set_cons_zero, List.set_cons_succ]
            refine pv_goto (pc := 152) 2 (by decide) (fm_dec dtX11_goes 87 rfl) ?_
            have eR : oneR D cs R s.1 s.2.1 = (R.1, R.2.1 + 1, R.2.2.1, R.2.2.2 + 1) := (by unfold oneR; rw [h100])
            rw [eR] at hq
            have fN : nFr M (fmI (fmI (fmI M 0 36 (M.1 0 36 + 1)) 0 37 ((fmI M 0 36 (M.1 0 36 + 1)).1 0 37 + 0)) 0 33 ((fmI (fmI M 0 36 (M.1 0 36 + 1)) 0 37 ((fmI M 0 36 (M.1 0 36 + 1)).1 0 37 + 0)).1 0 33 + 1)) := (f1.put (Or.inr (Or.inr rfl))).put (Or.inl rfl)
            have hb9 := hA.2.2.2.2.2.2.2.2.1
            have z0 : (0 : Int32).toInt = 0 := (by decide)
            have er9 : ((fmI (fmI (fmI M 0 36 (M.1 0 36 + 1)) 0 37 ((fmI M 0 36 (M.1 0 36 + 1)).1 0 37 + 0)) 0 33 ((fmI (fmI M 0 36 (M.1 0 36 + 1)) 0 37 ((fmI M 0 36 (M.1 0 36 + 1)).1 0 37 + 0)).1 0 33 + 1)).1 (423 + a) (Int32.toNatClampNeg 2)).toInt = ((a + 1 : Nat) : Int) := (by have h8 := (hW.n fN) a s hsa; rw [show 423 + 0 + a = 423 + a by omega] at h8; have h7 := h8.2.2; rw [hs2] at h7; exact h7)
            have xN : mAll (fmI (fmI (fmI M 0 36 (M.1 0 36 + 1)) 0 37 ((fmI M 0 36 (M.1 0 36 + 1)).1 0 37 + 0)) 0 33 ((fmI (fmI M 0 36 (M.1 0 36 + 1)) 0 37 ((fmI M 0 36 (M.1 0 36 + 1)).1 0 37 + 0)).1 0 33 + 1)) D cs (R.1, R.2.1 + 1, R.2.2.1, R.2.2.2 + 1) := ⟨hA.1.k hD (fun k j a1 => fN.1 k j (by omega) (by omega) (by omega) (by omega)), hA.2.1.f (fN.2.1 17 (by decide) (by decide) (by decide)) (fun k j a1 => fN.1 k j (by omega) (by omega) (by omega) (by omega)), hA.2.2.1, hA.2.2.2.1.of (fun j => rfl), hA.2.2.2.2.1, e4, (by show ((fmI M 0 36 (M.1 0 36 + 1)).1 0 37 + 0).toInt = (R.2.2.1 : Int); have h9 : ((fmI M 0 36 (M.1 0 36 + 1)).1 0 37).toInt = (R.2.2.1 : Int) := hA.2.2.2.2.2.2.1; rw [sc_add (by omega) (by omega)]; omega), (by show ((fmI M 0 36 (M.1 0 36 + 1)).1 0 33 + 1).toInt = _; exact i32_p1 hA.2.2.2.2.2.2.2.1 (by omega)), (by show R.2.2.1 + (R.2.2.2 + 1) ≤ R.2.1 + 1; omega), hg2⟩
            refine (ih _ Q (a + 1) g8 d r _ _ _ _ _ xN (hW.n fN) hseg.tl (by omega) w8 er9 (by rw [ht]; congr 1; omega) (by show 200 - (R.2.1 + 1) < f; omega) (fun M' h1 h2 => hq M' h1 (fN.trans h2))).up (by omega)
          · refine pv_then1 ?_
            refine pv_istore (pc := 103) (i := 4) (by decide) rfl (fm_dec dtX11_goes 59 rfl) ?_
            dsimp only [List.set_cons_zero, List.set_cons_succ]
            refine pv_aloadn (pc := 105) (n := 0) 0 rfl rfl (fm_dec dtX11_goes 60 rfl) ?_
            refine pv_dup (pc := 106) rfl (fm_dec dtX11_goes 61 rfl) ?_
            refine pv_getI (k := 0) (j := 37) (ci := 11) (pc := 107) pfl_X11_320 (by decide) rfl (by decide) (fm_dec dtX11_goes 62 rfl) ?_
            refine pv_iload (pc := 110) (i := 4) rfl (fm_dec dtX11_goes 63 rfl) ?_
            refine pv_if_eq (pc := 112) 119 (by decide) (fm_dec dtX11_goes 64 rfl) (fun hc112 => by exfalso; revert hc112; decide) (fun _ => ?_)
            refine pv_iconst (pc := 115) (v := 1) (by decide) (fm_dec dtX11_goes 65 rfl) ?_
            refine pv_goto (pc := 116) 120 (by decide) (fm_dec dtX11_goes 66 rfl) ?_
            refine pv_iadd (pc := 120) (fm_dec dtX11_goes 68 rfl) ?_
            refine pv_putI (k := 0) (j := 37) (ci := 11) (pc := 121) pfl_X11_320 (by decide) rfl (by decide) (fm_dec dtX11_goes 69 rfl) ?_
            refine pv_aloadn (pc := 124) (n := 0) 0 rfl rfl (fm_dec dtX11_goes 70 rfl) ?_
            refine pv_dup (pc := 125) rfl (fm_dec dtX11_goes 71 rfl) ?_
            refine pv_getI (k := 0) (j := 33) (ci := 11) (pc := 126) pfl_X11_203 (by decide) rfl (by decide) (fm_dec dtX11_goes 72 rfl) ?_
            refine pv_iload (pc := 129) (i := 4) rfl (fm_dec dtX11_goes 73 rfl) ?_
            refine pv_if_eq (pc := 131) 138 (by decide) (fm_dec dtX11_goes 74 rfl) (fun hc131 => by exfalso; revert hc131; decide) (fun _ => ?_)
            refine pv_iconst (pc := 134) (v := 0) (by decide) (fm_dec dtX11_goes 75 rfl) ?_
            refine pv_goto (pc := 135) 139 (by decide) (fm_dec dtX11_goes 76 rfl) ?_
            refine pv_iadd (pc := 139) (fm_dec dtX11_goes 78 rfl) ?_
            refine pv_putI (k := 0) (j := 33) (ci := 11) (pc := 140) pfl_X11_203 (by decide) rfl (by decide) (fm_dec dtX11_goes 79 rfl) ?_
            refine pv_aloadn (pc := 143) (n := 0) 0 rfl rfl (fm_dec dtX11_goes 80 rfl) ?_
            refine pv_getR (k := 0) (j := 25) (ci := 11) (pc := 144) 24 rfl (by decide) pfl_X11_58 (by decide) rfl (by decide) (fm_dec dtX11_goes 81 rfl) ?_
            refine pv_iloadn (pc := 147) (n := 3) 3 rfl rfl (fm_dec dtX11_goes 82 rfl) ?_
            refine pv_aald (k := 24) (n := 80) (r := (423 + a)) (pc := 148) (by decide) (Or.inr (Or.inr rfl)) rfl (rw_step.inb ha ha80) (rw_step.at ha ha80) (rw_step.2.2.2 _ ha80).2.1 (fm_dec dtX11_goes 83 rfl) ?_
            refine pv_iconst (pc := 149) (v := 2) (by decide) (fm_dec dtX11_goes 84 rfl) ?_
            refine pv_iald (k := (423 + a)) (n := 3) (pc := 150) (rw_step.2.2.2 _ ha80).2.2.1 (rw_step.2.2.2 _ ha80).2.2.2.1 (rw_step.2.2.2 _ ha80).2.2.2.2 (fm_inl (by decide)) (fm_dec dtX11_goes 85 rfl) ?_
            refine pv_istoren (pc := 151) (n := 3) 3 rfl (by decide) rfl (fm_dec dtX11_goes 86 rfl) ?_
            dsimp only [List.set_cons_zero, List.set_cons_succ]
            refine pv_goto (pc := 152) 2 (by decide) (fm_dec dtX11_goes 87 rfl) ?_
            have eR : oneR D cs R s.1 s.2.1 = (S9, R.2.1 + 1, R.2.2.1 + 1, R.2.2.2) := (by unfold oneR; rw [h100])
            rw [eR] at hq
            have fM : nFr M M9 := f1.trans f100.n
            have fS : nFr M (fmI (fmI M9 0 37 (M9.1 0 37 + 1)) 0 33 ((fmI M9 0 37 (M9.1 0 37 + 1)).1 0 33 + 0)) := (fM.put (Or.inr (Or.inr rfl))).put (Or.inl rfl)
            have hb9 := hA.2.2.2.2.2.2.2.2.1
            have z0 : (0 : Int32).toInt = 0 := (by decide)
            have q37 : (M9.1 0 37).toInt = (R.2.2.1 : Int) := (by rw [f100.1 0 37 (by decide) (by decide) (by decide)]; exact hA.2.2.2.2.2.2.1)
            have q33 : (M9.1 0 33).toInt = (R.2.2.2 : Int) := (by rw [f100.1 0 33 (by decide) (by decide) (by decide)]; exact hA.2.2.2.2.2.2.2.1)
            have q36 : (M9.1 0 36).toInt = ((R.2.1 + 1 : Nat) : Int) := (by rw [f100.1 0 36 (by decide) (by decide) (by decide)]; exact e4)
            have hO9 := do_ok hD hA.2.2.2.2.1 hnu.1 h100
            have er9 : ((fmI (fmI M9 0 37 (M9.1 0 37 + 1)) 0 33 ((fmI M9 0 37 (M9.1 0 37 + 1)).1 0 33 + 0)).1 (423 + a) (Int32.toNatClampNeg 2)).toInt = ((a + 1 : Nat) : Int) := (by have h8 := (hW.n fS) a s hsa; rw [show 423 + 0 + a = 423 + a by omega] at h8; have h7 := h8.2.2; rw [hs2] at h7; exact h7)
            have xS : mAll (fmI (fmI M9 0 37 (M9.1 0 37 + 1)) 0 33 ((fmI M9 0 37 (M9.1 0 37 + 1)).1 0 33 + 0)) D cs (S9, R.2.1 + 1, R.2.2.1 + 1, R.2.2.2) := ⟨hA.1.k hD (fun k j a1 => fS.1 k j (by omega) (by omega) (by omega) (by omega)), hA.2.1.f (fS.2.1 17 (by decide) (by decide) (by decide)) (fun k j a1 => fS.1 k j (by omega) (by omega) (by omega) (by omega)), hA.2.2.1, x100.of (fun j => rfl), hO9, q36, (by show (M9.1 0 37 + 1).toInt = _; exact i32_p1 q37 (by omega)), (by show (M9.1 0 33 + 0).toInt = (R.2.2.2 : Int); rw [sc_add (by omega) (by omega)]; omega), (by show R.2.2.1 + 1 + R.2.2.2 ≤ R.2.1 + 1; omega), hg2⟩
            refine (ih _ Q (a + 1) g8 d r _ _ _ _ _ xS (hW.n fS) hseg.tl (by omega) w8 er9 (by rw [ht]; congr 1; omega) (by show 200 - (R.2.1 + 1) < f; omega) (fun M' h1 h2 => hq M' h1 (fS.trans h2))).up (by omega)
        · have h4 : s.1 = 4 := (by have h9 := congrArg Int32.toInt hc36; have h8 : ((fmI M 0 36 (M.1 0 36 + 1)).1 (423 + a) (Int32.toNatClampNeg 0)).toInt = (s.1 : Int) := hrow1.1; rw [h8] at h9; have z4 : (4 : Int32).toInt = 4 := (by decide); omega)
          have hwn := wn_4 hwn h4
          rw [go_4 hg2 h4] at hq
          refine pv_iconst (pc := 39) (v := 0) (by decide) (fm_dec dtX11_goes 23 rfl) ?_
          refine pv_istore (pc := 40) (i := 4) (by decide) rfl (fm_dec dtX11_goes 24 rfl) ?_
          dsimp only [List.set_cons_zero, List.set_cons_succ]
          obtain ⟨w1, w2, w3, ⟨g9, w4⟩, g8, w5⟩ := hwn
          have hlt : R.2.1 + 1 ≤ (loR (goL D cs f (a + 1) (r.take (s.2.2 - (a + 1)))) s.2.1 (R.1, R.2.1 + 1, R.2.2)).2.1 := lo_ge (fun R => go_ge f _ _ R) s.2.1 (R.1, R.2.1 + 1, R.2.2)
          refine mge_in ih hsa rfl rfl h4 hnu.2 hseg.tl (by omega) w2 w3 w4 ha ha80 s.2.1 _ _ 0 0 hA1 hW1 (by show 200 - (R.2.1 + 1) < f; omega) (by decide) (by omega) (fun M9 v9 a9 f9 => ?_)
          have hr9 := (hW1.n f9) a s hsa
          rw [show 423 + 0 + a = 423 + a by omega] at hr9
          refine pv_aloadn (pc := 143) (n := 0) 0 rfl rfl (fm_dec dtX11_goes 80 rfl) ?_
          refine pv_getR (k := 0) (j := 25) (ci := 11) (pc := 144) 24 rfl (by decide) pfl_X11_58 (by decide) rfl (by decide) (fm_dec dtX11_goes 81 rfl) ?_
          refine pv_iloadn (pc := 147) (n := 3) 3 rfl rfl (fm_dec dtX11_goes 82 rfl) ?_
          refine pv_aald (k := 24) (n := 80) (r := (423 + a)) (pc := 148) (by decide) (Or.inr (Or.inr rfl)) rfl (rw_step.inb ha ha80) (rw_step.at ha ha80) (rw_step.2.2.2 _ ha80).2.1 (fm_dec dtX11_goes 83 rfl) ?_
          refine pv_iconst (pc := 149) (v := 2) (by decide) (fm_dec dtX11_goes 84 rfl) ?_
          refine pv_iald (k := (423 + a)) (n := 3) (pc := 150) (rw_step.2.2.2 _ ha80).2.2.1 (rw_step.2.2.2 _ ha80).2.2.2.1 (rw_step.2.2.2 _ ha80).2.2.2.2 (fm_inl (by decide)) (fm_dec dtX11_goes 85 rfl) ?_
          refine pv_istoren (pc := 151) (n := 3) 3 rfl (by decide) rfl (fm_dec dtX11_goes 86 rfl) ?_
          dsimp only [List.set_cons_zero, List.set_cons_succ]
          refine pv_goto (pc := 152) 2 (by decide) (fm_dec dtX11_goes 87 rfl) ?_
          refine (ih M9 Q s.2.2 g8 d (r.drop (s.2.2 - (a + 1))) _ _ _ _ _ a9 (hW1.n f9) (by have h8 := hseg.tl.dp (n := s.2.2 - (a + 1)); rw [show a + 1 + (s.2.2 - (a + 1)) = s.2.2 by omega] at h8; exact h8) (by rw [List.length_drop]; omega) w5 hr9.2.2 (by rw [ht, List.length_drop]; congr 1; omega) (by omega) (fun M' h1 h2 => hq M' h1 ((f1.trans f9).trans h2))).up (by omega)
end
-- P 18yd
section
-- STATES KEPT
/-- cells of a state: the object, its ages -/
abbrev stC (k a : Nat) : Prop := k < 190 ∧ Tx.2.1 k = 12 ∧ Tx.2.2.1 k = 7 ∧ Tx.2.2.2 k 0 = a ∧ a < 190 ∧ Tx.2.1 a = 0 ∧ Tx.2.2.1 a = 8
/-- cells of a shelf -/
abbrev shO (z : Nat) : Prop := z < 4 ∧ Tx.2.1 (46 + 36 * z) = 11 ∧ Tx.2.2.1 (46 + 36 * z) = 3 ∧ Tx.2.2.2 (46 + 36 * z) 0 = 47 + 36 * z ∧ Tx.2.2.2 (46 + 36 * z) 1 = 49 + 36 * z ∧ Tx.2.1 (49 + 36 * z) = 4 ∧ Tx.2.2.1 (49 + 36 * z) = 16 ∧ ∀ w, w < 16 → Tx.2.2.2 (49 + 36 * z) w = 50 + 36 * z + w
theorem ho_all : ∀ z, z < 4 → shO z := by decide +kernel
theorem so_n : ∀ z, z < 4 → stC (47 + 36 * z) (48 + 36 * z) := by decide +kernel
theorem so_now {z : Nat} (h : z < 4) : stC (47 + 36 * z) (48 + 36 * z) := so_n z h
theorem so_b : ∀ z, z < 4 → ∀ w, w < 16 → stC (50 + 36 * z + w) (66 + 36 * z + w) := by decide +kernel
theorem so_bef {z w : Nat} (h : z < 4) (hw : w < 16) : stC (50 + 36 * z + w) (66 + 36 * z + w) := so_b z h w hw
/-- a state as it stands in the cells k, a -/
def xsA (k a : Nat) (M : fmM) (D : dD) (S : aS) : Prop := (M.1 k 1).toInt = (S.1.2.2.1 : Int) ∧ (M.1 k 2).toInt = (S.1.1 : Int) ∧ (M.1 k 3).toInt = (S.1.2.1 : Int) ∧ (M.1 k 4).toInt = (S.1.2.2.2.1 : Int) ∧ (M.1 k 5).toInt = (S.1.2.2.2.2.1 : Int) ∧ (M.2 k 6).toInt = S.1.2.2.2.2.2 ∧ ∀ i, i < D.1 → (M.1 a i).toInt = S.2 i
theorem xst_A {M : fmM} {D : dD} {S : aS} : xst M D S ↔ xsA 47 48 M D S := Iff.rfl
/-- the state in d, da is as it was in s, sa -/
def smS (d da s sa : Nat) (M M' : fmM) : Prop := (∀ j, 1 ≤ j → j ≤ 5 → M'.1 d j = M.1 s j) ∧ M'.2 d 6 = M.2 s 6 ∧ ∀ i, i < 8 → M'.1 da i = M.1 sa i
theorem smS.st {d da s sa : Nat} {M M' : fmM} {D : dD} {S : aS} (h : smS d da s sa M M') (hD : D.1 ≤ 8) (hs : xsA s sa M D S) : xsA d da M' D S := by
  obtain ⟨a, b, c, e, f, g, i⟩ := hs
  exact ⟨by rw [h.1 1 (by decide) (by decide)]; exact a, by rw [h.1 2 (by decide) (by decide)]; exact b, by rw [h.1 3 (by decide) (by decide)]; exact c, by rw [h.1 4 (by decide) (by decide)]; exact e, by rw [h.1 5 (by decide) (by decide)]; exact f, by rw [h.2.1]; exact g, fun j hj => by rw [h.2.2 j (by omega)]; exact i j hj⟩
def cpR (d da s sa : Nat) (M M' : fmM) : Prop := smS d da s sa M M' ∧ (∀ k j, k ≠ d → k ≠ da → M'.1 k j = M.1 k j) ∧ ∀ k j, k ≠ d → M'.2 k j = M.2 k j
theorem smS.fr {d da s sa : Nat} {M M' M'' : fmM} (h : smS d da s sa M M') (h1 : ∀ j, M''.1 d j = M'.1 d j) (h2 : ∀ j, M''.1 da j = M'.1 da j) (h3 : M''.2 d 6 = M'.2 d 6) : smS d da s sa M M'' := ⟨fun j a b => (h1 j).trans (h.1 j a b), h3.trans h.2.1, fun i hi => (h2 i).trans (h.2.2 i hi)⟩
theorem smS.src {d da s sa : Nat} {M0 M M' : fmM} (h : smS d da s sa M M') (h1 : ∀ j, M.1 s j = M0.1 s j) (h2 : ∀ j, M.1 sa j = M0.1 sa j) (h3 : M.2 s 6 = M0.2 s 6) : smS d da s sa M0 M' := ⟨fun j a b => (h.1 j a b).trans (h1 j), h.2.1.trans h3, fun i hi => (h.2.2 i hi).trans (h2 i)⟩
def cpN (m : fmM) (d s : Nat) : Nat → fmM
  | 0 => m
  | n + 1 => fmI (cpN m d s n) d (n + 1) ((cpN m d s n).1 s (n + 1))
theorem cpN_at {m : fmM} {d s : Nat} (h : d ≠ s) : ∀ n k j, (cpN m d s n).1 k j = if k = d ∧ 1 ≤ j ∧ j ≤ n then m.1 s j else m.1 k j := by
  intro n
  induction n with
  | zero =>
    intro k j
    rw [if_neg (by omega)]
    rfl
  | succ n ih =>
    intro k j
    show (fmI (cpN m d s n) d (n + 1) ((cpN m d s n).1 s (n + 1))).1 k j = _
    rw [fmI_at]
    by_cases e : k = d ∧ j = n + 1
    · rw [if_pos e, if_pos ⟨e.1, by omega, by omega⟩, ih, if_neg (fun h9 => h h9.1.symm), e.2]
    · rw [if_neg e, ih]
      by_cases e2 : k = d ∧ 1 ≤ j ∧ j ≤ n
      · rw [if_pos e2, if_pos ⟨e2.1, e2.2.1, by omega⟩]
      · rw [if_neg e2, if_neg (by omega)]
theorem cpN_2 {m : fmM} {d s : Nat} : ∀ n, (cpN m d s n).2 = m.2 := by
  intro n
  induction n with
  | zero => rfl
  | succ n ih => exact ih
def cpZ (M : fmM) (d da s sa : Nat) : fmM := fmJ (cpN (cpA M da sa 8) d s 5) d 6 ((cpN (cpA M da sa 8) d s 5).2 s 6)
theorem cpA_at {M : fmM} {da sa k j : Nat} : (cpA M da sa 8).1 k j = if k = da ∧ j < 8 then M.1 sa j else M.1 k j := by
  have e : ∀ j, va_cpy (M.1 sa) (M.1 da) (Int32.toNatClampNeg 0) (Int32.toNatClampNeg 0) (Int32.toNatClampNeg 8) j = if j < 8 then M.1 sa j else M.1 da j := fun j => scq_cpy (M.1 sa) (M.1 da) 8 j
  unfold cpA
  by_cases h : k = da
  · subst h
    rw [fmA_ss, e]
    by_cases h8 : j < 8
    · rw [if_pos h8, if_pos ⟨rfl, h8⟩]
    · rw [if_neg h8, if_neg (fun h9 => h8 h9.2)]
  · rw [fmA_kk h, if_neg (fun h9 => h h9.1)]
theorem cpZ_R {M : fmM} {d da s sa : Nat} (h : d ≠ s ∧ d ≠ sa ∧ da ≠ s ∧ da ≠ sa ∧ d ≠ da) : cpR d da s sa M (cpZ M d da s sa) := by
  obtain ⟨h1, h2, h3, h4, h5⟩ := h
  have e1 : ∀ k j, (cpZ M d da s sa).1 k j = if k = d ∧ 1 ≤ j ∧ j ≤ 5 then (cpA M da sa 8).1 s j else (cpA M da sa 8).1 k j := fun k j => cpN_at h1 5 k j
  have e2 : ∀ k j, (cpZ M d da s sa).2 k j = if k = d then vp_updL (M.2 d) 6 (M.2 s 6) j else M.2 k j := fun k j => by
    show (if k = d then vp_updL ((cpN (cpA M da sa 8) d s 5).2 d) 6 ((cpN (cpA M da sa 8) d s 5).2 s 6) else (cpN (cpA M da sa 8) d s 5).2 k) j = _
    rw [cpN_2]
    by_cases h : k = d
    · rw [if_pos h, if_pos h]
      rfl
    · rw [if_neg h, if_neg h]
      rfl
  refine ⟨⟨fun j a b => ?_, ?_, fun i hi => ?_⟩, fun k j a b => ?_, fun k j a => ?_⟩
  · rw [e1, if_pos ⟨rfl, a, b⟩, cpA_at, if_neg (fun h9 => h3 h9.1.symm)]
  · rw [e2, if_pos rfl]
    simp [vp_updL]
  · rw [e1, if_neg (fun h9 => h5 h9.1.symm), cpA_at, if_pos ⟨rfl, hi⟩]
  · rw [e1, if_neg (fun h9 => a h9.1), cpA_at, if_neg (fun h9 => b h9.1)]
  · rw [e2, if_neg a]
set_option maxRecDepth 20000 in
theorem c_cpS {M : fmM} {Q : fmR → fmM → Prop} {d da s sa : Nat} (hd : stC d da) (hs : stC s sa) (hq : Q (.inl none) (cpZ M d da s sa)) : pvGood Tx 0 qX6_copyFrom [.ref d, .ref s] M Q := by
  refine pvGood_of (Nat.le_of_ble_eq_true rfl) ?_
  show pvEv Tx 0 qX6_copyFrom 0 [some (.ref d), some (.ref s)] [] M Q
  refine pv_aloadn (pc := 0) (n := 1) 1 rfl rfl (fm_dec dtX6_copyFrom 0 rfl) ?_
  refine pv_getR (k := (s)) (j := 0) (ci := 6) (pc := 1) (sa) hs.2.2.2.1 (by have := hs.2.2.2.2.1; omega) pfl_X6_9 hs.1 (hs.2.1.trans rfl) (by rw [hs.2.2.1]; decide) (fm_dec dtX6_copyFrom 1 rfl) ?_
  refine pv_iconst (pc := 4) (v := 0) (by decide) (fm_dec dtX6_copyFrom 2 rfl) ?_
  refine pv_aloadn (pc := 5) (n := 0) 0 rfl rfl (fm_dec dtX6_copyFrom 3 rfl) ?_
  refine pv_getR (k := (d)) (j := 0) (ci := 6) (pc := 6) (da) hd.2.2.2.1 (by have := hd.2.2.2.2.1; omega) pfl_X6_9 hd.1 (hd.2.1.trans rfl) (by rw [hd.2.2.1]; decide) (fm_dec dtX6_copyFrom 4 rfl) ?_
  refine pv_iconst (pc := 9) (v := 0) (by decide) (fm_dec dtX6_copyFrom 5 rfl) ?_
  refine pv_bipush (pc := 10) (v := 8) (by decide) (fm_dec dtX6_copyFrom 6 rfl) ?_
  refine pv_copy (k0 := (sa)) (k1 := (da)) (n0 := 8) (n1 := 8) (pc := 12) pcm_X6_20 pcc_X6_20 hs.2.2.2.2.1 hs.2.2.2.2.2.1 hs.2.2.2.2.2.2 hd.2.2.2.2.1 hd.2.2.2.2.2.1 hd.2.2.2.2.2.2 (by decide) (by decide) (by decide) (by decide) (by decide) (Nat.le_of_ble_eq_true rfl) (fm_dec dtX6_copyFrom 7 rfl) ?_
  show pvEv Tx 0 qX6_copyFrom _ _ _ (cpA M da sa 8) Q
  refine pv_aloadn (pc := 15) (n := 0) 0 rfl rfl (fm_dec dtX6_copyFrom 8 rfl) ?_
  refine pv_aloadn (pc := 16) (n := 1) 1 rfl rfl (fm_dec dtX6_copyFrom 9 rfl) ?_
  refine pv_getI (k := (s)) (j := 1) (ci := 6) (pc := 17) pfl_X6_26 hs.1 (hs.2.1.trans rfl) (by rw [hs.2.2.1]; decide) (fm_dec dtX6_copyFrom 10 rfl) ?_
  refine pv_putI (k := (d)) (j := 1) (ci := 6) (pc := 20) pfl_X6_26 hd.1 (hd.2.1.trans rfl) (by rw [hd.2.2.1]; decide) (fm_dec dtX6_copyFrom 11 rfl) ?_
  show pvEv Tx 0 qX6_copyFrom _ _ _ (cpN (cpA M da sa 8) d s 1) Q
  refine pv_aloadn (pc := 23) (n := 0) 0 rfl rfl (fm_dec dtX6_copyFrom 12 rfl) ?_
  refine pv_aloadn (pc := 24) (n := 1) 1 rfl rfl (fm_dec dtX6_copyFrom 13 rfl) ?_
  refine pv_getI (k := (s)) (j := 2) (ci := 6) (pc := 25) pfl_X6_30 hs.1 (hs.2.1.trans rfl) (by rw [hs.2.2.1]; decide) (fm_dec dtX6_copyFrom 14 rfl) ?_
  refine pv_putI (k := (d)) (j := 2) (ci := 6) (pc := 28) pfl_X6_30 hd.1 (hd.2.1.trans rfl) (by rw [hd.2.2.1]; decide) (fm_dec dtX6_copyFrom 15 rfl) ?_
  show pvEv Tx 0 qX6_copyFrom _ _ _ (cpN (cpA M da sa 8) d s 2) Q
  refine pv_aloadn (pc := 31) (n := 0) 0 rfl rfl (fm_dec dtX6_copyFrom 16 rfl) ?_
  refine pv_aloadn (pc := 32) (n := 1) 1 rfl rfl (fm_dec dtX6_copyFrom 17 rfl) ?_
  refine pv_getI (k := (s)) (j := 3) (ci := 6) (pc := 33) pfl_X6_36 hs.1 (hs.2.1.trans rfl) (by rw [hs.2.2.1]; decide) (fm_dec dtX6_copyFrom 18 rfl) ?_
  refine pv_putI (k := (d)) (j := 3) (ci := 6) (pc := 36) pfl_X6_36 hd.1 (hd.2.1.trans rfl) (by rw [hd.2.2.1]; decide) (fm_dec dtX6_copyFrom 19 rfl) ?_
  show pvEv Tx 0 qX6_copyFrom _ _ _ (cpN (cpA M da sa 8) d s 3) Q
  refine pv_aloadn (pc := 39) (n := 0) 0 rfl rfl (fm_dec dtX6_copyFrom 20 rfl) ?_
  refine pv_aloadn (pc := 40) (n := 1) 1 rfl rfl (fm_dec dtX6_copyFrom 21 rfl) ?_
  refine pv_getI (k := (s)) (j := 4) (ci := 6) (pc := 41) pfl_X6_39 hs.1 (hs.2.1.trans rfl) (by rw [hs.2.2.1]; decide) (fm_dec dtX6_copyFrom 22 rfl) ?_
  refine pv_putI (k := (d)) (j := 4) (ci := 6) (pc := 44) pfl_X6_39 hd.1 (hd.2.1.trans rfl) (by rw [hd.2.2.1]; decide) (fm_dec dtX6_copyFrom 23 rfl) ?_
  show pvEv Tx 0 qX6_copyFrom _ _ _ (cpN (cpA M da sa 8) d s 4) Q
  refine pv_aloadn (pc := 47) (n := 0) 0 rfl rfl (fm_dec dtX6_copyFrom 24 rfl) ?_
  refine pv_aloadn (pc := 48) (n := 1) 1 rfl rfl (fm_dec dtX6_copyFrom 25 rfl) ?_
  refine pv_getI (k := (s)) (j := 5) (ci := 6) (pc := 49) pfl_X6_42 hs.1 (hs.2.1.trans rfl) (by rw [hs.2.2.1]; decide) (fm_dec dtX6_copyFrom 26 rfl) ?_
  refine pv_putI (k := (d)) (j := 5) (ci := 6) (pc := 52) pfl_X6_42 hd.1 (hd.2.1.trans rfl) (by rw [hd.2.2.1]; decide) (fm_dec dtX6_copyFrom 27 rfl) ?_
  show pvEv Tx 0 qX6_copyFrom _ _ _ (cpN (cpA M da sa 8) d s 5) Q
  refine pv_aloadn (pc := 55) (n := 0) 0 rfl rfl (fm_dec dtX6_copyFrom 28 rfl) ?_
  refine pv_aloadn (pc := 56) (n := 1) 1 rfl rfl (fm_dec dtX6_copyFrom 29 rfl) ?_
  refine pv_getJ (k := (s)) (j := 6) (ci := 6) (pc := 57) pfl_X6_45 hs.1 (hs.2.1.trans rfl) (by rw [hs.2.2.1]; decide) (fm_dec dtX6_copyFrom 30 rfl) ?_
  refine pv_putJ (k := (d)) (j := 6) (ci := 6) (pc := 60) pfl_X6_45 hd.1 (hd.2.1.trans rfl) (by rw [hd.2.2.1]; decide) (fm_dec dtX6_copyFrom 31 rfl) ?_
  show pvEv Tx 0 qX6_copyFrom _ _ _ (cpZ M d da s sa) Q
  exact pv_return (pc := 63) rfl (fm_dec dtX6_copyFrom 32 rfl) hq
theorem cp_S {M : fmM} {Q : fmR → fmM → Prop} {d da s sa : Nat} (hd : stC d da) (hs : stC s sa) (hne : d ≠ s ∧ d ≠ sa ∧ da ≠ s ∧ da ≠ sa ∧ d ≠ da) (hq : ∀ M' : fmM, cpR d da s sa M M' → Q (.inl none) M') : pvGood Tx 0 qX6_copyFrom [.ref d, .ref s] M Q := c_cpS hd hs (hq _ (cpZ_R hne))
/-- a shelf as another was: z1 is written, z2 is read -/
def shC (z1 z2 n : Nat) (M M' : fmM) : Prop := smS (47 + 36 * z1) (48 + 36 * z1) (47 + 36 * z2) (48 + 36 * z2) M M' ∧ M'.1 (46 + 36 * z1) 2 = M.1 (46 + 36 * z2) 2 ∧ (∀ w, w < n → w < 16 → smS (50 + 36 * z1 + w) (66 + 36 * z1 + w) (50 + 36 * z2 + w) (66 + 36 * z2 + w) M M') ∧ ∀ k, ¬ (46 + 36 * z1 ≤ k ∧ k < 82 + 36 * z1) → ∀ j, M'.1 k j = M.1 k j ∧ M'.2 k j = M.2 k j
theorem shC.next {z1 z2 n : Nat} {M0 M M' : fmM} (hz : z1 ≠ z2) (hn : n < 16) (h : shC z1 z2 n M0 M) (hc : cpR (50 + 36 * z1 + n) (66 + 36 * z1 + n) (50 + 36 * z2 + n) (66 + 36 * z2 + n) M M') : shC z1 z2 (n + 1) M0 M' := by
  obtain ⟨h1, h2, h3, h4⟩ := h
  obtain ⟨c1, c2, c3⟩ := hc
  refine ⟨h1.fr (fun j => c2 _ j (by omega) (by omega)) (fun j => c2 _ j (by omega) (by omega)) (c3 _ _ (by omega)), (c2 _ _ (by omega) (by omega)).trans h2, fun w hw hw16 => ?_, fun k hk j => ⟨(c2 k j (by omega) (by omega)).trans (h4 k hk j).1, (c3 k j (by omega)).trans (h4 k hk j).2⟩⟩
  by_cases e : w = n
  · subst e
    exact c1.src (fun j => (h4 _ (by omega) j).1) (fun j => (h4 _ (by omega) j).1) (h4 _ (by omega) 6).2
  · exact (h3 w (by omega) hw16).fr (fun j => c2 _ j (by omega) (by omega)) (fun j => c2 _ j (by omega) (by omega)) (c3 _ _ (by omega))
set_option maxRecDepth 20000 in
theorem shc_loop {Q : fmR → fmM → Prop} {z1 z2 : Nat} {M0 : fmM} (h1 : shO z1) (h2 : shO z2) (hz : z1 ≠ z2) (hq : ∀ (M' : fmM) (n : Nat), shC z1 z2 n M0 M' → (M'.1 (46 + 36 * z1) 2).toInt ≤ (n : Int) ∨ 16 ≤ n → Q (.inl none) M') : ∀ (m : Nat) (n : Nat) (M : fmM), n ≤ 16 → 16 - n = m → shC z1 z2 n M0 M → pvEv Tx 1 qX5_copyFrom 21 [some (.ref (46 + 36 * z1)), some (.ref (46 + 36 * z2)), some (.int (nI n))] [] M Q := by
  intro m
  induction m using Nat.strongRecOn with
  | _ m ih =>
    intro n M hn16 hm hK
    have hn9 : (nI n).toInt = (n : Int) := nI_toInt (by omega)
    refine pv_iloadn (pc := 21) (n := 2) 2 rfl rfl (fm_dec dtX5_copyFrom 11 rfl) ?_
    refine pv_aloadn (pc := 22) (n := 0) 0 rfl rfl (fm_dec dtX5_copyFrom 12 rfl) ?_
    refine pv_getI (k := (46 + 36 * z1)) (j := 2) (ci := 5) (pc := 23) pfl_X5_22 (show 46 + 36 * z1 < 190 by have := h1.1; omega) (h1.2.1.trans rfl) (by rw [h1.2.2.1]; decide) (fm_dec dtX5_copyFrom 13 rfl) ?_
    refine pv_icmp_ge (pc := 26) 56 (by decide) (fm_dec dtX5_copyFrom 14 rfl) (fun hc26 => ?_) (fun hc26 => ?_)
    · exact pv_return (pc := 56) rfl (fm_dec dtX5_copyFrom 29 rfl) (hq M n hK (by rw [sc_le] at hc26; omega))
    · refine pv_iloadn (pc := 29) (n := 2) 2 rfl rfl (fm_dec dtX5_copyFrom 15 rfl) ?_
      refine pv_bipush (pc := 30) (v := 16) (by decide) (fm_dec dtX5_copyFrom 16 rfl) ?_
      refine pv_icmp_ge (pc := 32) 56 (by decide) (fm_dec dtX5_copyFrom 17 rfl) (fun hc32 => ?_) (fun hc32 => ?_)
      · exact pv_return (pc := 56) rfl (fm_dec dtX5_copyFrom 29 rfl) (hq M n hK (by rw [sc_le] at hc32; have z16 : (16 : Int32).toInt = 16 := (by decide); omega))
      · have hn : n < 16 := (by rw [sc_le] at hc32; have z16 : (16 : Int32).toInt = 16 := (by decide); omega)
        refine pv_aloadn (pc := 35) (n := 0) 0 rfl rfl (fm_dec dtX5_copyFrom 18 rfl) ?_
        refine pv_getR (k := (46 + 36 * z1)) (j := 1) (ci := 5) (pc := 36) (49 + 36 * z1) h1.2.2.2.2.1 (by have := h1.1; omega) pfl_X5_18 (show 46 + 36 * z1 < 190 by have := h1.1; omega) (h1.2.1.trans rfl) (by rw [h1.2.2.1]; decide) (fm_dec dtX5_copyFrom 19 rfl) ?_
        refine pv_iloadn (pc := 39) (n := 2) 2 rfl rfl (fm_dec dtX5_copyFrom 20 rfl) ?_
        refine pv_aald (k := (49 + 36 * z1)) (n := 16) (r := (50 + 36 * z1 + n)) (pc := 40) (show 49 + 36 * z1 < 190 by have := h1.1; omega) (Or.inr (Or.inl h1.2.2.2.2.2.1)) h1.2.2.2.2.2.2.1 (ix_in hn9 hn) (by rw [i32_cl hn9]; exact h1.2.2.2.2.2.2.2 n hn) (by have := h1.1; omega) (fm_dec dtX5_copyFrom 21 rfl) ?_
        refine pv_aloadn (pc := 41) (n := 1) 1 rfl rfl (fm_dec dtX5_copyFrom 22 rfl) ?_
        refine pv_getR (k := (46 + 36 * z2)) (j := 1) (ci := 5) (pc := 42) (49 + 36 * z2) h2.2.2.2.2.1 (by have := h2.1; omega) pfl_X5_18 (show 46 + 36 * z2 < 190 by have := h2.1; omega) (h2.2.1.trans rfl) (by rw [h2.2.2.1]; decide) (fm_dec dtX5_copyFrom 23 rfl) ?_
        refine pv_iloadn (pc := 45) (n := 2) 2 rfl rfl (fm_dec dtX5_copyFrom 24 rfl) ?_
        refine pv_aald (k := (49 + 36 * z2)) (n := 16) (r := (50 + 36 * z2 + n)) (pc := 46) (show 49 + 36 * z2 < 190 by have := h2.1; omega) (Or.inr (Or.inl h2.2.2.2.2.2.1)) h2.2.2.2.2.2.2.1 (ix_in hn9 hn) (by rw [i32_cl hn9]; exact h2.2.2.2.2.2.2.2 n hn) (by have := h2.1; omega) (fm_dec dtX5_copyFrom 25 rfl) ?_
        refine pv_invV1 (k := (50 + 36 * z1 + n)) (d' := 0) (pc := 47) pcv_X5_26 (show 50 + 36 * z1 + n < 190 by have := h1.1; omega) ((so_bef h1.1 hn).2.1.trans rfl) (Nat.le_of_ble_eq_true rfl) (by decide) (fm_dec dtX5_copyFrom 26 rfl) ?_
        refine cp_S (so_bef h1.1 hn) (so_bef h2.1 hn) ⟨by omega, by omega, by omega, by omega, by omega⟩ (fun M47 c47 => ?_) 
        refine pv_then0 ?_
        refine pv_iincc (pc := 50) 2 1 (by decide) rfl (by decide) rfl (fm_dec dtX5_copyFrom 27 rfl) ?_
        dsimp only [List.set_cons_zero, List.set_cons_succ]
        refine pv_goto (pc := 53) 21 (by decide) (fm_dec dtX5_copyFrom 28 rfl) ?_
        rw [nI_succ1]
        exact ih (16 - (n + 1)) (by omega) (n + 1) M47 (by omega) rfl (hK.next hz hn c47)
theorem shC.all {z1 z2 n : Nat} {M M' : fmM} (h : shC z1 z2 n M M') (hn : (M'.1 (46 + 36 * z1) 2).toInt ≤ (n : Int) ∨ 16 ≤ n) : ∀ w : Nat, (w : Int) < (M.1 (46 + 36 * z2) 2).toInt → w < 16 → smS (50 + 36 * z1 + w) (66 + 36 * z1 + w) (50 + 36 * z2 + w) (66 + 36 * z2 + w) M M' := fun w hw h16 => h.2.2.1 w (by have e := congrArg Int32.toInt h.2.1; omega) h16
set_option maxRecDepth 20000 in
theorem c_shc {M : fmM} {Q : fmR → fmM → Prop} {z1 z2 : Nat} (h1 : shO z1) (h2 : shO z2) (hz : z1 ≠ z2) (hq : ∀ (M' : fmM) (n : Nat), shC z1 z2 n M M' → (M'.1 (46 + 36 * z1) 2).toInt ≤ (n : Int) ∨ 16 ≤ n → Q (.inl none) M') : pvGood Tx 1 qX5_copyFrom [.ref (46 + 36 * z1), .ref (46 + 36 * z2)] M Q := by
  refine pvGood_of (Nat.le_of_ble_eq_true rfl) ?_
  show pvEv Tx 1 qX5_copyFrom 0 [some (.ref (46 + 36 * z1)), some (.ref (46 + 36 * z2)), none] [] M Q
  refine pv_aloadn (pc := 0) (n := 0) 0 rfl rfl (fm_dec dtX5_copyFrom 0 rfl) ?_
  refine pv_getR (k := (46 + 36 * z1)) (j := 0) (ci := 5) (pc := 1) (47 + 36 * z1) h1.2.2.2.1 (by have := h1.1; omega) pfl_X5_12 (show 46 + 36 * z1 < 190 by have := h1.1; omega) (h1.2.1.trans rfl) (by rw [h1.2.2.1]; decide) (fm_dec dtX5_copyFrom 1 rfl) ?_
  refine pv_aloadn (pc := 4) (n := 1) 1 rfl rfl (fm_dec dtX5_copyFrom 2 rfl) ?_
  refine pv_getR (k := (46 + 36 * z2)) (j := 0) (ci := 5) (pc := 5) (47 + 36 * z2) h2.2.2.2.1 (by have := h2.1; omega) pfl_X5_12 (show 46 + 36 * z2 < 190 by have := h2.1; omega) (h2.2.1.trans rfl) (by rw [h2.2.2.1]; decide) (fm_dec dtX5_copyFrom 3 rfl) ?_
  refine pv_invV1 (k := (47 + 36 * z1)) (d' := 0) (pc := 8) pcv_X5_26 (show 47 + 36 * z1 < 190 by have := h1.1; omega) ((so_now h1.1).2.1.trans rfl) (Nat.le_of_ble_eq_true rfl) (by decide) (fm_dec dtX5_copyFrom 4 rfl) ?_
  refine cp_S (so_now h1.1) (so_now h2.1) ⟨by omega, by omega, by omega, by omega, by omega⟩ (fun M8 c8 => ?_) 
  refine pv_then0 ?_
  refine pv_aloadn (pc := 11) (n := 0) 0 rfl rfl (fm_dec dtX5_copyFrom 5 rfl) ?_
  refine pv_aloadn (pc := 12) (n := 1) 1 rfl rfl (fm_dec dtX5_copyFrom 6 rfl) ?_
  refine pv_getI (k := (46 + 36 * z2)) (j := 2) (ci := 5) (pc := 13) pfl_X5_22 (show 46 + 36 * z2 < 190 by have := h2.1; omega) (h2.2.1.trans rfl) (by rw [h2.2.2.1]; decide) (fm_dec dtX5_copyFrom 7 rfl) ?_
  refine pv_putI (k := (46 + 36 * z1)) (j := 2) (ci := 5) (pc := 16) pfl_X5_22 (show 46 + 36 * z1 < 190 by have := h1.1; omega) (h1.2.1.trans rfl) (by rw [h1.2.2.1]; decide) (fm_dec dtX5_copyFrom 8 rfl) ?_
  refine pv_iconst (pc := 19) (v := 0) (by decide) (fm_dec dtX5_copyFrom 9 rfl) ?_
  refine pv_istoren (pc := 20) (n := 2) 2 rfl (by decide) rfl (fm_dec dtX5_copyFrom 10 rfl) ?_
  dsimp only [List.set_cons_zero, List.set_cons_succ]
  exact shc_loop h1 h2 hz hq 16 0 _ (by decide) rfl ⟨c8.1.fr (fun j => by rw [fmI_k _ _ (by omega)]) (fun j => by rw [fmI_k _ _ (by omega)]) rfl, by rw [fmI_s]; exact c8.2.1 _ _ (by omega) (by omega), fun w hw => absurd hw (Nat.not_lt_zero _), fun k hk j => ⟨by rw [fmI_k _ _ (by omega)]; exact c8.2.1 k j (by omega) (by omega), c8.2.2 k j (by omega)⟩⟩
set_option maxRecDepth 20000 in
theorem c_keepS {M : fmM} {Q : fmR → fmM → Prop} {w : Nat} (hw : (M.1 46 2).toInt = (w : Int)) (h16 : w < 16) (hq : ∀ M' : fmM, cpR (50 + w) (66 + w) 47 48 M M' → Q (.inl none) (fmI M' 46 2 (M.1 46 2 + 1))) : pvGood Tx 1 qX5_keep [.ref 46] M Q := by
  refine pvGood_of (Nat.le_of_ble_eq_true rfl) ?_
  show pvEv Tx 1 qX5_keep 0 [some (.ref 46)] [] M Q
  refine pv_aloadn (pc := 0) (n := 0) 0 rfl rfl (fm_dec dtX5_keep 0 rfl) ?_
  refine pv_getI (k := 46) (j := 2) (ci := 5) (pc := 1) pfl_X5_22 (by decide) rfl (by decide) (fm_dec dtX5_keep 1 rfl) ?_
  refine pv_if_lt (pc := 4) 42 (by decide) (fm_dec dtX5_keep 2 rfl) (fun hc4 => by exfalso; rw [sc_lt] at hc4; have z0 : (0 : Int32).toInt = 0 := (by decide); omega) (fun _ => ?_)
  refine pv_aloadn (pc := 7) (n := 0) 0 rfl rfl (fm_dec dtX5_keep 3 rfl) ?_
  refine pv_getI (k := 46) (j := 2) (ci := 5) (pc := 8) pfl_X5_22 (by decide) rfl (by decide) (fm_dec dtX5_keep 4 rfl) ?_
  refine pv_bipush (pc := 11) (v := 16) (by decide) (fm_dec dtX5_keep 5 rfl) ?_
  refine pv_icmp_ge (pc := 13) 42 (by decide) (fm_dec dtX5_keep 6 rfl) (fun hc13 => by exfalso; rw [sc_le] at hc13; have z16 : (16 : Int32).toInt = 16 := (by decide); omega) (fun _ => ?_)
  refine pv_aloadn (pc := 16) (n := 0) 0 rfl rfl (fm_dec dtX5_keep 7 rfl) ?_
  refine pv_getR (k := 46) (j := 1) (ci := 5) (pc := 17) 49 rfl (by decide) pfl_X5_18 (by decide) rfl (by decide) (fm_dec dtX5_keep 8 rfl) ?_
  refine pv_aloadn (pc := 20) (n := 0) 0 rfl rfl (fm_dec dtX5_keep 9 rfl) ?_
  refine pv_getI (k := 46) (j := 2) (ci := 5) (pc := 21) pfl_X5_22 (by decide) rfl (by decide) (fm_dec dtX5_keep 10 rfl) ?_
  refine pv_aald (k := 49) (n := 16) (r := (50 + w)) (pc := 24) (by decide) (Or.inr (Or.inl rfl)) rfl (ix_in hw h16) (by rw [i32_cl hw]; exact (ho_all 0 (by decide)).2.2.2.2.2.2.2 w (by omega)) (by omega) (fm_dec dtX5_keep 11 rfl) ?_
  refine pv_aloadn (pc := 25) (n := 0) 0 rfl rfl (fm_dec dtX5_keep 12 rfl) ?_
  refine pv_getR (k := 46) (j := 0) (ci := 5) (pc := 26) 47 rfl (by decide) pfl_X5_12 (by decide) rfl (by decide) (fm_dec dtX5_keep 13 rfl) ?_
  refine pv_invV1 (k := (50 + w)) (d' := 0) (pc := 29) pcv_X5_26 (show 50 + w < 190 by omega) ((so_bef (z := 0) (by decide) (show w < 16 by omega)).2.1.trans rfl) (Nat.le_of_ble_eq_true rfl) (by decide) (fm_dec dtX5_keep 14 rfl) ?_
  refine cp_S (so_bef (z := 0) (by decide) h16) (so_now (z := 0) (by decide)) ⟨by omega, by omega, by omega, by omega, by omega⟩ (fun M29 c29 => ?_) 
  refine pv_then0 ?_
  refine pv_aloadn (pc := 32) (n := 0) 0 rfl rfl (fm_dec dtX5_keep 15 rfl) ?_
  refine pv_dup (pc := 33) rfl (fm_dec dtX5_keep 16 rfl) ?_
  refine pv_getI (k := 46) (j := 2) (ci := 5) (pc := 34) pfl_X5_22 (by decide) rfl (by decide) (fm_dec dtX5_keep 17 rfl) ?_
  refine pv_iconst (pc := 37) (v := 1) (by decide) (fm_dec dtX5_keep 18 rfl) ?_
  refine pv_iadd (pc := 38) (fm_dec dtX5_keep 19 rfl) ?_
  refine pv_putI (k := 46) (j := 2) (ci := 5) (pc := 39) pfl_X5_22 (by decide) rfl (by decide) (fm_dec dtX5_keep 20 rfl) ?_
  exact pv_return (pc := 42) rfl (fm_dec dtX5_keep 21 rfl) (by have h9 := hq M29 c29; rw [← c29.2.1 46 2 (by omega) (by omega)] at h9; exact h9)
set_option maxRecDepth 20000 in
theorem c_gbS {M : fmM} {Q : fmR → fmM → Prop} {w : Nat} (hw : (M.1 46 2).toInt = (w : Int)) (h0 : 0 < w) (h16 : w ≤ 16) (hq : ∀ M' : fmM, cpR 47 48 (50 + (w - 1)) (66 + (w - 1)) (fmI M 46 2 (M.1 46 2 - 1)) M' → Q (.inl none) M') : pvGood Tx 1 qX5_goBack [.ref 46] M Q := by
  refine pvGood_of (Nat.le_of_ble_eq_true rfl) ?_
  show pvEv Tx 1 qX5_goBack 0 [some (.ref 46)] [] M Q
  have e1 : (M.1 46 2 - 1).toInt = ((w - 1 : Nat) : Int) := (by have z1 : (1 : Int32).toInt = 1 := (by decide); rw [sc_sub (by omega) (by omega)]; omega)
  refine pv_aloadn (pc := 0) (n := 0) 0 rfl rfl (fm_dec dtX5_goBack 0 rfl) ?_
  refine pv_getI (k := 46) (j := 2) (ci := 5) (pc := 1) pfl_X5_22 (by decide) rfl (by decide) (fm_dec dtX5_goBack 1 rfl) ?_
  refine pv_if_le (pc := 4) 42 (by decide) (fm_dec dtX5_goBack 2 rfl) (fun hc4 => by exfalso; rw [sc_le] at hc4; have z0 : (0 : Int32).toInt = 0 := (by decide); omega) (fun _ => ?_)
  refine pv_aloadn (pc := 7) (n := 0) 0 rfl rfl (fm_dec dtX5_goBack 3 rfl) ?_
  refine pv_getI (k := 46) (j := 2) (ci := 5) (pc := 8) pfl_X5_22 (by decide) rfl (by decide) (fm_dec dtX5_goBack 4 rfl) ?_
  refine pv_bipush (pc := 11) (v := 16) (by decide) (fm_dec dtX5_goBack 5 rfl) ?_
  refine pv_icmp_gt (pc := 13) 42 (by decide) (fm_dec dtX5_goBack 6 rfl) (fun hc13 => by exfalso; rw [sc_lt] at hc13; have z16 : (16 : Int32).toInt = 16 := (by decide); omega) (fun _ => ?_)
  refine pv_aloadn (pc := 16) (n := 0) 0 rfl rfl (fm_dec dtX5_goBack 7 rfl) ?_
  refine pv_dup (pc := 17) rfl (fm_dec dtX5_goBack 8 rfl) ?_
  refine pv_getI (k := 46) (j := 2) (ci := 5) (pc := 18) pfl_X5_22 (by decide) rfl (by decide) (fm_dec dtX5_goBack 9 rfl) ?_
  refine pv_iconst (pc := 21) (v := 1) (by decide) (fm_dec dtX5_goBack 10 rfl) ?_
  refine pv_isub (pc := 22) (fm_dec dtX5_goBack 11 rfl) ?_
  refine pv_putI (k := 46) (j := 2) (ci := 5) (pc := 23) pfl_X5_22 (by decide) rfl (by decide) (fm_dec dtX5_goBack 12 rfl) ?_
  refine pv_aloadn (pc := 26) (n := 0) 0 rfl rfl (fm_dec dtX5_goBack 13 rfl) ?_
  refine pv_getR (k := 46) (j := 0) (ci := 5) (pc := 27) 47 rfl (by decide) pfl_X5_12 (by decide) rfl (by decide) (fm_dec dtX5_goBack 14 rfl) ?_
  refine pv_aloadn (pc := 30) (n := 0) 0 rfl rfl (fm_dec dtX5_goBack 15 rfl) ?_
  refine pv_getR (k := 46) (j := 1) (ci := 5) (pc := 31) 49 rfl (by decide) pfl_X5_18 (by decide) rfl (by decide) (fm_dec dtX5_goBack 16 rfl) ?_
  refine pv_aloadn (pc := 34) (n := 0) 0 rfl rfl (fm_dec dtX5_goBack 17 rfl) ?_
  refine pv_getI (k := 46) (j := 2) (ci := 5) (pc := 35) pfl_X5_22 (by decide) rfl (by decide) (fm_dec dtX5_goBack 18 rfl) ?_
  refine pv_aald (k := 49) (n := 16) (r := (50 + (w - 1))) (pc := 38) (by decide) (Or.inr (Or.inl rfl)) rfl (ix_in e1 (by omega)) (by rw [fmI_s, i32_cl e1]; exact (ho_all 0 (by decide)).2.2.2.2.2.2.2 (w - 1) (by omega)) (by omega) (fm_dec dtX5_goBack 19 rfl) ?_
  refine pv_invV1 (k := 47) (d' := 0) (pc := 39) pcv_X5_26 (by decide) rfl (Nat.le_of_ble_eq_true rfl) (by decide) (fm_dec dtX5_goBack 20 rfl) ?_
  refine cp_S (so_now (z := 0) (by decide)) (so_bef (z := 0) (by decide) (show w - 1 < 16 by omega)) ⟨by omega, by omega, by omega, by omega, by omega⟩ (fun M39 c39 => ?_) 
  refine pv_then0 ?_
  exact pv_return (pc := 42) rfl (fm_dec dtX5_goBack 21 rfl) (hq M39 c39)
/-- a shelf, all of it, as another was -/
def shA (z1 z2 : Nat) (M M' : fmM) : Prop := smS (47 + 36 * z1) (48 + 36 * z1) (47 + 36 * z2) (48 + 36 * z2) M M' ∧ M'.1 (46 + 36 * z1) 2 = M.1 (46 + 36 * z2) 2 ∧ (∀ w : Nat, (w : Int) < (M.1 (46 + 36 * z2) 2).toInt → w < 16 → smS (50 + 36 * z1 + w) (66 + 36 * z1 + w) (50 + 36 * z2 + w) (66 + 36 * z2 + w) M M') ∧ ∀ k, ¬ (46 + 36 * z1 ≤ k ∧ k < 82 + 36 * z1) → ∀ j, M'.1 k j = M.1 k j ∧ M'.2 k j = M.2 k j
theorem c_shA {M : fmM} {Q : fmR → fmM → Prop} {z1 z2 : Nat} (h1 : z1 < 4) (h2 : z2 < 4) (hz : z1 ≠ z2) (hq : ∀ M' : fmM, shA z1 z2 M M' → Q (.inl none) M') : pvGood Tx 1 qX5_copyFrom [.ref (46 + 36 * z1), .ref (46 + 36 * z2)] M Q := c_shc (ho_all z1 h1) (ho_all z2 h2) hz (fun M' n h hn => hq M' ⟨h.1, h.2.1, h.all hn, h.2.2.2⟩)
set_option maxRecDepth 20000 in
theorem c_ximS {M : fmM} {Q : fmR → fmM → Prop} {i : Nat} (hi : (M.1 0 13).toInt = (i : Int)) (h4 : i ≤ 3) (hn : i = 3 → Q (.inl (some (.int (-1)))) M) (hq : i < 3 → ∀ (M1 : fmM), shA (1 + i) 0 M M1 → Q (.inl (some (.int (M.1 0 13 + 1)))) (fmI M1 0 13 (M.1 0 13 + 1))) : pvGood Tx 2 qX10_image [.ref 0] M Q := by
  refine pvGood_of (Nat.le_of_ble_eq_true rfl) ?_
  show pvEv Tx 2 qX10_image 0 [some (.ref 0)] [] M Q
  refine pv_aloadn (pc := 0) (n := 0) 0 rfl rfl (fm_dec dtX10_image 0 rfl) ?_
  refine pv_getI (k := 0) (j := 13) (ci := 10) (pc := 1) pfl_X10_129 (by decide) rfl (by decide) (fm_dec dtX10_image 1 rfl) ?_
  refine pv_iconst (pc := 4) (v := 3) (by decide) (fm_dec dtX10_image 2 rfl) ?_
  refine pv_icmp_lt (pc := 5) 10 (by decide) (fm_dec dtX10_image 3 rfl) (fun hc5 => ?_) (fun hc5 => ?_)
  · have z3 : (3 : Int32).toInt = 3 := (by decide)
    have h3 : i < 3 := (by rw [sc_lt] at hc5; omega)
    refine pv_aloadn (pc := 10) (n := 0) 0 rfl rfl (fm_dec dtX10_image 6 rfl) ?_
    refine pv_getR (k := 0) (j := 10) (ci := 10) (pc := 11) 43 rfl (by decide) pfl_X10_79 (by decide) rfl (by decide) (fm_dec dtX10_image 7 rfl) ?_
    refine pv_aloadn (pc := 14) (n := 0) 0 rfl rfl (fm_dec dtX10_image 8 rfl) ?_
    refine pv_getI (k := 0) (j := 13) (ci := 10) (pc := 15) pfl_X10_129 (by decide) rfl (by decide) (fm_dec dtX10_image 9 rfl) ?_
    refine pv_aald (k := 43) (n := 3) (r := (46 + 36 * (1 + i))) (pc := 18) (by decide) (Or.inl rfl) rfl (ix_in hi h3) (by have h9 := xi_at hi h3; rw [show 46 + 36 * (1 + i) = 82 + 36 * i by omega]; exact h9) (by omega) (fm_dec dtX10_image 10 rfl) ?_
    refine pv_aloadn (pc := 19) (n := 0) 0 rfl rfl (fm_dec dtX10_image 11 rfl) ?_
    refine pv_getR (k := 0) (j := 9) (ci := 10) (pc := 20) 46 rfl (by decide) pfl_X10_75 (by decide) rfl (by decide) (fm_dec dtX10_image 12 rfl) ?_
    refine pv_invV1 (k := (46 + 36 * (1 + i))) (d' := 1) (pc := 23) pcv_X10_360 (show 46 + 36 * (1 + i) < 190 by omega) ((ho_all (1 + i) (by omega)).2.1.trans rfl) (Nat.le_of_ble_eq_true rfl) (by decide) (fm_dec dtX10_image 13 rfl) ?_
    refine c_shA (z1 := 1 + i) (z2 := 0) (by omega) (by decide) (by omega) (fun M23 k23 => ?_) 
    refine pv_then0 ?_
    refine pv_aloadn (pc := 26) (n := 0) 0 rfl rfl (fm_dec dtX10_image 14 rfl) ?_
    refine pv_dup (pc := 27) rfl (fm_dec dtX10_image 15 rfl) ?_
    refine pv_getI (k := 0) (j := 13) (ci := 10) (pc := 28) pfl_X10_129 (by decide) rfl (by decide) (fm_dec dtX10_image 16 rfl) ?_
    refine pv_iconst (pc := 31) (v := 1) (by decide) (fm_dec dtX10_image 17 rfl) ?_
    refine pv_iadd (pc := 32) (fm_dec dtX10_image 18 rfl) ?_
    refine pv_putI (k := 0) (j := 13) (ci := 10) (pc := 33) pfl_X10_129 (by decide) rfl (by decide) (fm_dec dtX10_image 19 rfl) ?_
    refine pv_aloadn (pc := 36) (n := 0) 0 rfl rfl (fm_dec dtX10_image 20 rfl) ?_
    refine pv_getI (k := 0) (j := 13) (ci := 10) (pc := 37) pfl_X10_129 (by decide) rfl (by decide) (fm_dec dtX10_image 21 rfl) ?_
    exact pv_ireturn (pc := 40) rfl (fm_dec dtX10_image 22 rfl) (by have h9 := hq h3 M23 k23; have e9 : M23.1 0 13 = M.1 0 13 := (k23.2.2.2 0 (by omega) 13).1; rw [e9, fmI_s]; exact h9)
  · refine pv_iconst (pc := 8) (v := (-1)) (by decide) (fm_dec dtX10_image 4 rfl) ?_
    exact pv_ireturn (pc := 9) rfl (fm_dec dtX10_image 5 rfl) (hn (by have z3 : (3 : Int32).toInt = 3 := (by decide); rw [sc_lt] at hc5; omega))
set_option maxRecDepth 20000 in
theorem c_fgt {M : fmM} {Q : fmR → fmM → Prop}  (hq : Q (.inl none) (fmI M 34 5 0)) : pvGood Tx 0 qX3_forget [.ref 34] M Q := by
  refine pvGood_of (Nat.le_of_ble_eq_true rfl) ?_
  show pvEv Tx 0 qX3_forget 0 [some (.ref 34)] [] M Q
  refine pv_aloadn (pc := 0) (n := 0) 0 rfl rfl (fm_dec dtX3_forget 0 rfl) ?_
  refine pv_iconst (pc := 1) (v := 0) (by decide) (fm_dec dtX3_forget 1 rfl) ?_
  refine pv_putI (k := 34) (j := 5) (ci := 3) (pc := 2) pfl_X3_29 (by decide) rfl (by decide) (fm_dec dtX3_forget 2 rfl) ?_
  exact pv_return (pc := 5) rfl (fm_dec dtX3_forget 3 rfl) hq
theorem fmI_s' {M : fmM} {k j : Nat} {x : Int32} : (fmI M k j x).1 k j = x := fmI_s M k j x
set_option maxRecDepth 20000 in
theorem c_xreS {M : fmM} {Q : fmR → fmM → Prop} {i : Nat} (hi : (M.1 0 13).toInt = (i : Int)) (h4 : i ≤ 3) (hn : i = 0 → Q (.inl (some (.int (-1)))) M) (hq : 0 < i → ∀ M1 : fmM, shA 0 (1 + (i - 1)) (fmI M 0 13 (M.1 0 13 - 1)) M1 → Q (.inl (some (.int (M.1 0 13 - 1)))) (fmI (fmI M1 0 14 0) 34 5 0)) : pvGood Tx 2 qX10_restore [.ref 0] M Q := by
  refine pvGood_of (Nat.le_of_ble_eq_true rfl) ?_
  show pvEv Tx 2 qX10_restore 0 [some (.ref 0)] [] M Q
  refine pv_aloadn (pc := 0) (n := 0) 0 rfl rfl (fm_dec dtX10_restore 0 rfl) ?_
  refine pv_getI (k := 0) (j := 13) (ci := 10) (pc := 1) pfl_X10_129 (by decide) rfl (by decide) (fm_dec dtX10_restore 1 rfl) ?_
  refine pv_if_gt (pc := 4) 9 (by decide) (fm_dec dtX10_restore 2 rfl) (fun hc4 => ?_) (fun hc4 => ?_)
  · have z0 : (0 : Int32).toInt = 0 := (by decide)
    have h0 : 0 < i := (by rw [sc_lt] at hc4; omega)
    have e1 : (M.1 0 13 - 1).toInt = ((i - 1 : Nat) : Int) := (by have z1 : (1 : Int32).toInt = 1 := (by decide); rw [sc_sub (by omega) (by omega)]; omega)
    refine pv_aloadn (pc := 9) (n := 0) 0 rfl rfl (fm_dec dtX10_restore 5 rfl) ?_
    refine pv_dup (pc := 10) rfl (fm_dec dtX10_restore 6 rfl) ?_
    refine pv_getI (k := 0) (j := 13) (ci := 10) (pc := 11) pfl_X10_129 (by decide) rfl (by decide) (fm_dec dtX10_restore 7 rfl) ?_
    refine pv_iconst (pc := 14) (v := 1) (by decide) (fm_dec dtX10_restore 8 rfl) ?_
    refine pv_isub (pc := 15) (fm_dec dtX10_restore 9 rfl) ?_
    refine pv_putI (k := 0) (j := 13) (ci := 10) (pc := 16) pfl_X10_129 (by decide) rfl (by decide) (fm_dec dtX10_restore 10 rfl) ?_
    refine pv_aloadn (pc := 19) (n := 0) 0 rfl rfl (fm_dec dtX10_restore 11 rfl) ?_
    refine pv_getR (k := 0) (j := 9) (ci := 10) (pc := 20) 46 rfl (by decide) pfl_X10_75 (by decide) rfl (by decide) (fm_dec dtX10_restore 12 rfl) ?_
    refine pv_aloadn (pc := 23) (n := 0) 0 rfl rfl (fm_dec dtX10_restore 13 rfl) ?_
    refine pv_getR (k := 0) (j := 10) (ci := 10) (pc := 24) 43 rfl (by decide) pfl_X10_79 (by decide) rfl (by decide) (fm_dec dtX10_restore 14 rfl) ?_
    refine pv_aloadn (pc := 27) (n := 0) 0 rfl rfl (fm_dec dtX10_restore 15 rfl) ?_
    refine pv_getI (k := 0) (j := 13) (ci := 10) (pc := 28) pfl_X10_129 (by decide) rfl (by decide) (fm_dec dtX10_restore 16 rfl) ?_
    refine pv_aald (k := 43) (n := 3) (r := (46 + 36 * (1 + (i - 1)))) (pc := 31) (by decide) (Or.inl rfl) rfl (ix_in e1 (by omega)) (by have h9 := xi_at e1 (by omega); rw [show 46 + 36 * (1 + (i - 1)) = 82 + 36 * (i - 1) by omega]; exact h9) (by omega) (fm_dec dtX10_restore 17 rfl) ?_
    refine pv_invV1 (k := 46) (d' := 1) (pc := 32) pcv_X10_360 (by decide) rfl (Nat.le_of_ble_eq_true rfl) (by decide) (fm_dec dtX10_restore 18 rfl) ?_
    refine c_shA (z1 := 0) (z2 := 1 + (i - 1)) (by decide) (by omega) (by omega) (fun M32 k32 => ?_) 
    refine pv_then0 ?_
    refine pv_aloadn (pc := 35) (n := 0) 0 rfl rfl (fm_dec dtX10_restore 19 rfl) ?_
    refine pv_iconst (pc := 36) (v := 0) (by decide) (fm_dec dtX10_restore 20 rfl) ?_
    refine pv_putI (k := 0) (j := 14) (ci := 10) (pc := 37) pfl_X10_132 (by decide) rfl (by decide) (fm_dec dtX10_restore 21 rfl) ?_
    refine pv_aloadn (pc := 40) (n := 0) 0 rfl rfl (fm_dec dtX10_restore 22 rfl) ?_
    refine pv_getR (k := 0) (j := 7) (ci := 10) (pc := 41) 34 rfl (by decide) pfl_X10_61 (by decide) rfl (by decide) (fm_dec dtX10_restore 23 rfl) ?_
    refine pv_invV0 (k := 34) (d' := 0) (pc := 44) pcv_X10_135 (by decide) rfl (Nat.le_of_ble_eq_true rfl) (by decide) (fm_dec dtX10_restore 24 rfl) ?_
    refine c_fgt ?_
    refine pv_then0 ?_
    refine pv_aloadn (pc := 47) (n := 0) 0 rfl rfl (fm_dec dtX10_restore 25 rfl) ?_
    refine pv_getI (k := 0) (j := 13) (ci := 10) (pc := 48) pfl_X10_129 (by decide) rfl (by decide) (fm_dec dtX10_restore 26 rfl) ?_
    exact pv_ireturn (pc := 51) rfl (fm_dec dtX10_restore 27 rfl) (by have h9 := hq h0 M32 k32; have e9 : M32.1 0 13 = M.1 0 13 - 1 := ((k32.2.2.2 0 (by omega) 13).1).trans fmI_s'; rw [← e9] at h9; exact h9)
  · refine pv_iconst (pc := 7) (v := (-1)) (by decide) (fm_dec dtX10_restore 3 rfl) ?_
    exact pv_ireturn (pc := 8) rfl (fm_dec dtX10_restore 4 rfl) (hn (by have z0 : (0 : Int32).toInt = 0 := (by decide); rw [sc_lt] at hc4; omega))
set_option maxRecDepth 20000 in
theorem c_xunS {M : fmM} {Q : fmR → fmM → Prop} {w : Nat} (hw : (M.1 46 2).toInt = (w : Int)) (h16 : w ≤ 16) (hn : w = 0 → Q (.inl (some (.int (-1)))) M) (hq : 0 < w → ∀ M1 : fmM, cpR 47 48 (50 + (w - 1)) (66 + (w - 1)) (fmI M 46 2 (M.1 46 2 - 1)) M1 → Q (.inl (some (.int (M.1 46 2 - 1)))) (fmI (fmI M1 0 14 0) 34 5 0)) : pvGood Tx 2 qX10_undo [.ref 0] M Q := by
  refine pvGood_of (Nat.le_of_ble_eq_true rfl) ?_
  show pvEv Tx 2 qX10_undo 0 [some (.ref 0)] [] M Q
  refine pv_aloadn (pc := 0) (n := 0) 0 rfl rfl (fm_dec dtX10_undo 0 rfl) ?_
  refine pv_getR (k := 0) (j := 9) (ci := 10) (pc := 1) 46 rfl (by decide) pfl_X10_75 (by decide) rfl (by decide) (fm_dec dtX10_undo 1 rfl) ?_
  refine pv_getI (k := 46) (j := 2) (ci := 5) (pc := 4) pfl_X10_126 (by decide) rfl (by decide) (fm_dec dtX10_undo 2 rfl) ?_
  refine pv_if_gt (pc := 7) 12 (by decide) (fm_dec dtX10_undo 3 rfl) (fun hc7 => ?_) (fun hc7 => ?_)
  · have z0 : (0 : Int32).toInt = 0 := (by decide)
    have h0 : 0 < w := (by rw [sc_lt] at hc7; omega)
    refine pv_aloadn (pc := 12) (n := 0) 0 rfl rfl (fm_dec dtX10_undo 6 rfl) ?_
    refine pv_getR (k := 0) (j := 9) (ci := 10) (pc := 13) 46 rfl (by decide) pfl_X10_75 (by decide) rfl (by decide) (fm_dec dtX10_undo 7 rfl) ?_
    refine pv_invV0 (k := 46) (d' := 1) (pc := 16) pcv_X10_166 (by decide) rfl (Nat.le_of_ble_eq_true rfl) (by decide) (fm_dec dtX10_undo 8 rfl) ?_
    refine c_gbS hw h0 h16 (fun M16 k16 => ?_) 
    refine pv_then0 ?_
    refine pv_aloadn (pc := 19) (n := 0) 0 rfl rfl (fm_dec dtX10_undo 9 rfl) ?_
    refine pv_iconst (pc := 20) (v := 0) (by decide) (fm_dec dtX10_undo 10 rfl) ?_
    refine pv_putI (k := 0) (j := 14) (ci := 10) (pc := 21) pfl_X10_132 (by decide) rfl (by decide) (fm_dec dtX10_undo 11 rfl) ?_
    refine pv_aloadn (pc := 24) (n := 0) 0 rfl rfl (fm_dec dtX10_undo 12 rfl) ?_
    refine pv_getR (k := 0) (j := 7) (ci := 10) (pc := 25) 34 rfl (by decide) pfl_X10_61 (by decide) rfl (by decide) (fm_dec dtX10_undo 13 rfl) ?_
    refine pv_invV0 (k := 34) (d' := 0) (pc := 28) pcv_X10_135 (by decide) rfl (Nat.le_of_ble_eq_true rfl) (by decide) (fm_dec dtX10_undo 14 rfl) ?_
    refine c_fgt ?_
    refine pv_then0 ?_
    refine pv_aloadn (pc := 31) (n := 0) 0 rfl rfl (fm_dec dtX10_undo 15 rfl) ?_
    refine pv_getR (k := 0) (j := 9) (ci := 10) (pc := 32) 46 rfl (by decide) pfl_X10_75 (by decide) rfl (by decide) (fm_dec dtX10_undo 16 rfl) ?_
    refine pv_getI (k := 46) (j := 2) (ci := 5) (pc := 35) pfl_X10_126 (by decide) rfl (by decide) (fm_dec dtX10_undo 17 rfl) ?_
    exact pv_ireturn (pc := 38) rfl (fm_dec dtX10_undo 18 rfl) (by have h9 := hq h0 M16 k16; have e9 : M16.1 46 2 = M.1 46 2 - 1 := (k16.2.1 46 2 (by decide) (by decide)).trans fmI_s'; rw [← e9] at h9; exact h9)
  · refine pv_iconst (pc := 10) (v := (-1)) (by decide) (fm_dec dtX10_undo 4 rfl) ?_
    exact pv_ireturn (pc := 11) rfl (fm_dec dtX10_undo 5 rfl) (hn (by have z0 : (0 : Int32).toInt = 0 := (by decide); rw [sc_lt] at hc7; omega))
-- the reference's side
def cpB (a b n : Nat) (M M' : fmM) : Prop := (∀ j, j < n → M'.1 b j = M.1 a j) ∧ (∀ k j, ¬ (k = b ∧ j < n) → M'.1 k j = M.1 k j) ∧ M'.2 = M.2
abbrev rwC (a : Nat) : Prop := a < 522 ∧ Tm.2.1 a = 0 ∧ Tm.2.2.1 a = 14
theorem cpB.next {a b n : Nat} {M0 M : fmM} (h : cpB a b n M0 M) (hab : a ≠ b) : cpB a b (n + 1) M0 (fmI M b n (M.1 a n)) := by
  obtain ⟨h1, h2, h3⟩ := h
  refine ⟨fun j hj => ?_, fun k j hk => ?_, h3⟩
  · rw [fmI_at]
    by_cases e : j = n
    · subst e
      rw [if_pos ⟨rfl, rfl⟩]
      exact h2 a j (fun h9 => hab h9.1)
    · rw [if_neg (fun h9 => e h9.2)]
      exact h1 j (by omega)
  · rw [fmI_at, if_neg (by omega)]
    exact h2 k j (by omega)
theorem ro_7 : rwC 7 := by decide +kernel
theorem ro_b : ∀ w, w < 16 → rwC (503 + w) := by decide +kernel
theorem sl_d : ∀ t, t < 239 → ((sl t).1 = 0 ∧ (sl t).2 = 32) ∨ (sl t).1 = 7 ∨ (503 ≤ (sl t).1 ∧ (sl t).1 < 519) := by decide +kernel
set_option maxRecDepth 20000 in
theorem mcp_loop {Q : fmR → fmM → Prop} {a b : Nat} {M0 : fmM} (ha : rwC a) (hb : rwC b) (hab : a ≠ b) (hq : ∀ M' : fmM, cpB a b 14 M0 M' → Q (.inl none) M') : ∀ (m : Nat) (n : Nat) (M : fmM), n ≤ 14 → 14 - n = m → cpB a b n M0 M → pvEv Tm 0 qX11_copies 2 [some (.ref a), some (.ref b), some (.int (nI n))] [] M Q := by
  intro m
  induction m using Nat.strongRecOn with
  | _ m ih =>
    intro n M hn14 hm hK
    have hn9 : (nI n).toInt = (n : Int) := nI_toInt (by omega)
    refine pv_iloadn (pc := 2) (n := 2) 2 rfl rfl (fm_dec dtX11_copies 2 rfl) ?_
    refine pv_bipush (pc := 3) (v := 14) (by decide) (fm_dec dtX11_copies 3 rfl) ?_
    refine pv_icmp_ge (pc := 5) 20 (by decide) (fm_dec dtX11_copies 4 rfl) (fun hc5 => ?_) (fun hc5 => ?_)
    · exact pv_return (pc := 20) rfl (fm_dec dtX11_copies 13 rfl) (by have e9 : n = 14 := (by rw [sc_le] at hc5; have z14 : (14 : Int32).toInt = 14 := (by decide); omega); subst e9; exact hq M hK)
    · have hn : n < 14 := (by rw [sc_le] at hc5; have z14 : (14 : Int32).toInt = 14 := (by decide); omega)
      refine pv_aloadn (pc := 8) (n := 1) 1 rfl rfl (fm_dec dtX11_copies 5 rfl) ?_
      refine pv_iloadn (pc := 9) (n := 2) 2 rfl rfl (fm_dec dtX11_copies 6 rfl) ?_
      refine pv_aloadn (pc := 10) (n := 0) 0 rfl rfl (fm_dec dtX11_copies 7 rfl) ?_
      refine pv_iloadn (pc := 11) (n := 2) 2 rfl rfl (fm_dec dtX11_copies 8 rfl) ?_
      refine pv_iald (k := (a)) (n := 14) (pc := 12) ha.1 ha.2.1 ha.2.2 (ix_in hn9 hn) (fm_dec dtX11_copies 9 rfl) ?_
      rw [i32_cl hn9]
      refine pv_iast (k := (b)) (n := 14) (pc := 13) hb.1 hb.2.1 hb.2.2 (ix_in hn9 hn) (fm_dec dtX11_copies 10 rfl) ?_
      rw [i32_cl hn9]
      refine pv_iincc (pc := 14) 2 1 (by decide) rfl (by decide) rfl (fm_dec dtX11_copies 11 rfl) ?_
      dsimp only [List.set_cons_zero, List.set_cons_succ]
      refine pv_goto (pc := 17) 2 (by decide) (fm_dec dtX11_copies 12 rfl) ?_
      rw [nI_succ1]
      exact ih (14 - (n + 1)) (by omega) (n + 1) _ (by omega) rfl (hK.next hab)
set_option maxRecDepth 20000 in
theorem c_mcp {M : fmM} {Q : fmR → fmM → Prop} {a b : Nat} (ha : rwC a) (hb : rwC b) (hab : a ≠ b) (hq : ∀ M' : fmM, cpB a b 14 M M' → Q (.inl none) M') : pvGood Tm 0 qX11_copies [.ref a, .ref b] M Q := by
  refine pvGood_of (Nat.le_of_ble_eq_true rfl) ?_
  show pvEv Tm 0 qX11_copies 0 [some (.ref a), some (.ref b), none] [] M Q
  refine pv_iconst (pc := 0) (v := 0) (by decide) (fm_dec dtX11_copies 0 rfl) ?_
  refine pv_istoren (pc := 1) (n := 2) 2 rfl (by decide) rfl (fm_dec dtX11_copies 1 rfl) ?_
  dsimp only [List.set_cons_zero, List.set_cons_succ]
  exact mcp_loop ha hb hab hq 14 0 M (by decide) rfl ⟨fun j hj => absurd hj (Nat.not_lt_zero _), fun _ _ _ => rfl, rfl⟩
set_option maxRecDepth 20000 in
theorem c_mimS {M : fmM} {Q : fmR → fmM → Prop} {i : Nat} (hi : (M.1 0 34).toInt = (i : Int)) (h4 : i ≤ 3) (hn : i = 3 → Q (.inl (some (.int (-1)))) (fmI M 0 0 0)) (hq : i < 3 → ∀ (M1 : fmM), pa0 (fmI M 0 0 0) i 239 M1 → Q (.inl (some (.int (M.1 0 34 + 1)))) (fmI M1 0 34 (M.1 0 34 + 1))) : pvGood Tm 2 qX11_image [.ref 0] M Q := by
  refine pvGood_of (Nat.le_of_ble_eq_true rfl) ?_
  show pvEv Tm 2 qX11_image 0 [some (.ref 0)] [] M Q
  refine pv_aloadn (pc := 0) (n := 0) 0 rfl rfl (fm_dec dtX11_image 0 rfl) ?_
  refine pv_iconst (pc := 1) (v := 0) (by decide) (fm_dec dtX11_image 1 rfl) ?_
  refine pv_putI (k := 0) (j := 0) (ci := 11) (pc := 2) pfl_X11_101 (by decide) rfl (by decide) (fm_dec dtX11_image 2 rfl) ?_
  refine pv_aloadn (pc := 5) (n := 0) 0 rfl rfl (fm_dec dtX11_image 3 rfl) ?_
  refine pv_getI (k := 0) (j := 34) (ci := 11) (pc := 6) pfl_X11_206 (by decide) rfl (by decide) (fm_dec dtX11_image 4 rfl) ?_
  refine pv_iconst (pc := 9) (v := 3) (by decide) (fm_dec dtX11_image 5 rfl) ?_
  refine pv_icmp_ne (pc := 10) 15 (by decide) (fm_dec dtX11_image 6 rfl) (fun hc10 => ?_) (fun hc10 => ?_)
  · have z3 : (3 : Int32).toInt = 3 := (by decide)
    have h3 : i < 3 := (by have h9 : ¬ i = 3 := (fun h9 => hc10 (i32_ext (by show (M.1 0 34).toInt = _; omega))); omega)
    refine pv_aloadn (pc := 15) (n := 0) 0 rfl rfl (fm_dec dtX11_image 9 rfl) ?_
    refine pv_aloadn (pc := 16) (n := 0) 0 rfl rfl (fm_dec dtX11_image 10 rfl) ?_
    refine pv_getR (k := 0) (j := 30) (ci := 11) (pc := 17) 26 rfl (by decide) pfl_X11_70 (by decide) rfl (by decide) (fm_dec dtX11_image 11 rfl) ?_
    refine pv_aloadn (pc := 20) (n := 0) 0 rfl rfl (fm_dec dtX11_image 12 rfl) ?_
    refine pv_getI (k := 0) (j := 34) (ci := 11) (pc := 21) pfl_X11_206 (by decide) rfl (by decide) (fm_dec dtX11_image 13 rfl) ?_
    refine pv_aald (k := 26) (n := 3) (r := (519 + i)) (pc := 24) (by decide) (Or.inr (Or.inr rfl)) rfl (rw_kept.inb hi h3) (rw_kept.at hi h3) (rw_kept.2.2.2 i h3).2.1 (fm_dec dtX11_image 14 rfl) ?_
    refine pv_iconst (pc := 25) (v := 0) (by decide) (fm_dec dtX11_image 15 rfl) ?_
    refine pv_invV2 (k := 0) (d' := 1) (pc := 26) pcv_X11_443 (by decide) rfl (Nat.le_of_ble_eq_true rfl) (by decide) (fm_dec dtX11_image 16 rfl) ?_
    refine c_putsAll0 h3 (fun M26 p26 => ?_)
    refine pv_then0 ?_
    refine pv_aloadn (pc := 29) (n := 0) 0 rfl rfl (fm_dec dtX11_image 17 rfl) ?_
    refine pv_dup (pc := 30) rfl (fm_dec dtX11_image 18 rfl) ?_
    refine pv_getI (k := 0) (j := 34) (ci := 11) (pc := 31) pfl_X11_206 (by decide) rfl (by decide) (fm_dec dtX11_image 19 rfl) ?_
    refine pv_iconst (pc := 34) (v := 1) (by decide) (fm_dec dtX11_image 20 rfl) ?_
    refine pv_iadd (pc := 35) (fm_dec dtX11_image 21 rfl) ?_
    refine pv_putI (k := 0) (j := 34) (ci := 11) (pc := 36) pfl_X11_206 (by decide) rfl (by decide) (fm_dec dtX11_image 22 rfl) ?_
    refine pv_aloadn (pc := 39) (n := 0) 0 rfl rfl (fm_dec dtX11_image 23 rfl) ?_
    refine pv_getI (k := 0) (j := 34) (ci := 11) (pc := 40) pfl_X11_206 (by decide) rfl (by decide) (fm_dec dtX11_image 24 rfl) ?_
    exact pv_ireturn (pc := 43) rfl (fm_dec dtX11_image 25 rfl) (by have h9 := hq h3 M26 p26; have e9 : M26.1 0 34 = M.1 0 34 := p26.2.1 0 34 (by omega) (by decide); rw [e9, fmI_s]; exact h9)
  · refine pv_iconst (pc := 13) (v := (-1)) (by decide) (fm_dec dtX11_image 7 rfl) ?_
    exact pv_ireturn (pc := 14) rfl (fm_dec dtX11_image 8 rfl) (hn (by have z3 : (3 : Int32).toInt = 3 := (by decide); have h9 : (M.1 0 34).toInt = (3 : Int32).toInt := congrArg Int32.toInt hc10; omega))
set_option maxRecDepth 20000 in
theorem c_mreS {M : fmM} {Q : fmR → fmM → Prop} {i : Nat} (hi : (M.1 0 34).toInt = (i : Int)) (h4 : i ≤ 3) (hn : i = 0 → Q (.inl (some (.int (-1)))) (fmI M 0 0 0)) (hq : 0 < i → ∀ (M1 : fmM), pa1 (fmI (fmI M 0 0 0) 0 34 (M.1 0 34 - 1)) (i - 1) 239 M1 → Q (.inl (some (.int (M.1 0 34 - 1)))) (fmI M1 0 33 0)) : pvGood Tm 2 qX11_restore [.ref 0] M Q := by
  refine pvGood_of (Nat.le_of_ble_eq_true rfl) ?_
  show pvEv Tm 2 qX11_restore 0 [some (.ref 0)] [] M Q
  refine pv_aloadn (pc := 0) (n := 0) 0 rfl rfl (fm_dec dtX11_restore 0 rfl) ?_
  refine pv_iconst (pc := 1) (v := 0) (by decide) (fm_dec dtX11_restore 1 rfl) ?_
  refine pv_putI (k := 0) (j := 0) (ci := 11) (pc := 2) pfl_X11_101 (by decide) rfl (by decide) (fm_dec dtX11_restore 2 rfl) ?_
  refine pv_aloadn (pc := 5) (n := 0) 0 rfl rfl (fm_dec dtX11_restore 3 rfl) ?_
  refine pv_getI (k := 0) (j := 34) (ci := 11) (pc := 6) pfl_X11_206 (by decide) rfl (by decide) (fm_dec dtX11_restore 4 rfl) ?_
  refine pv_if_ne (pc := 9) 14 (by decide) (fm_dec dtX11_restore 5 rfl) (fun hc9 => ?_) (fun hc9 => ?_)
  · have hi0 : ((fmI M 0 0 0).1 0 34).toInt = (i : Int) := hi
    have h0 : 0 < i := (by have h9 : ¬ i = 0 := (fun h9 => hc9 (i32_ext (by show (M.1 0 34).toInt = _; rw [hi, h9]; decide))); omega)
    have e1 : ((fmI M 0 0 0).1 0 34 - 1).toInt = ((i - 1 : Nat) : Int) := (by have z1 : (1 : Int32).toInt = 1 := (by decide); rw [sc_sub (by omega) (by omega)]; omega)
    refine pv_aloadn (pc := 14) (n := 0) 0 rfl rfl (fm_dec dtX11_restore 8 rfl) ?_
    refine pv_dup (pc := 15) rfl (fm_dec dtX11_restore 9 rfl) ?_
    refine pv_getI (k := 0) (j := 34) (ci := 11) (pc := 16) pfl_X11_206 (by decide) rfl (by decide) (fm_dec dtX11_restore 10 rfl) ?_
    refine pv_iconst (pc := 19) (v := 1) (by decide) (fm_dec dtX11_restore 11 rfl) ?_
    refine pv_isub (pc := 20) (fm_dec dtX11_restore 12 rfl) ?_
    refine pv_putI (k := 0) (j := 34) (ci := 11) (pc := 21) pfl_X11_206 (by decide) rfl (by decide) (fm_dec dtX11_restore 13 rfl) ?_
    refine pv_aloadn (pc := 24) (n := 0) 0 rfl rfl (fm_dec dtX11_restore 14 rfl) ?_
    refine pv_aloadn (pc := 25) (n := 0) 0 rfl rfl (fm_dec dtX11_restore 15 rfl) ?_
    refine pv_getR (k := 0) (j := 30) (ci := 11) (pc := 26) 26 rfl (by decide) pfl_X11_70 (by decide) rfl (by decide) (fm_dec dtX11_restore 16 rfl) ?_
    refine pv_aloadn (pc := 29) (n := 0) 0 rfl rfl (fm_dec dtX11_restore 17 rfl) ?_
    refine pv_getI (k := 0) (j := 34) (ci := 11) (pc := 30) pfl_X11_206 (by decide) rfl (by decide) (fm_dec dtX11_restore 18 rfl) ?_
    refine pv_aald (k := 26) (n := 3) (r := (519 + (i - 1))) (pc := 33) (by decide) (Or.inr (Or.inr rfl)) rfl (rw_kept.inb e1 (by omega)) (rw_kept.at e1 (by omega)) (rw_kept.2.2.2 (i - 1) (by omega)).2.1 (fm_dec dtX11_restore 19 rfl) ?_
    refine pv_iconst (pc := 34) (v := 1) (by decide) (fm_dec dtX11_restore 20 rfl) ?_
    refine pv_invV2 (k := 0) (d' := 1) (pc := 35) pcv_X11_443 (by decide) rfl (Nat.le_of_ble_eq_true rfl) (by decide) (fm_dec dtX11_restore 21 rfl) ?_
    refine c_putsAll1 (i := i - 1) (by omega) (fun M35 p35 => ?_)
    refine pv_then0 ?_
    refine pv_aloadn (pc := 38) (n := 0) 0 rfl rfl (fm_dec dtX11_restore 22 rfl) ?_
    refine pv_iconst (pc := 39) (v := 0) (by decide) (fm_dec dtX11_restore 23 rfl) ?_
    refine pv_putI (k := 0) (j := 33) (ci := 11) (pc := 40) pfl_X11_203 (by decide) rfl (by decide) (fm_dec dtX11_restore 24 rfl) ?_
    refine pv_aloadn (pc := 43) (n := 0) 0 rfl rfl (fm_dec dtX11_restore 25 rfl) ?_
    refine pv_getI (k := 0) (j := 34) (ci := 11) (pc := 44) pfl_X11_206 (by decide) rfl (by decide) (fm_dec dtX11_restore 26 rfl) ?_
    exact pv_ireturn (pc := 47) rfl (fm_dec dtX11_restore 27 rfl) (by have h9 := hq h0 M35 p35; have e9 : M35.1 0 34 = M.1 0 34 - 1 := (p35.2.1 0 34 (fun t ht h8 => by have := sl_d t ht; omega) (by decide)).trans rfl; rw [← e9] at h9; exact h9)
  · refine pv_iconst (pc := 12) (v := (-1)) (by decide) (fm_dec dtX11_restore 6 rfl) ?_
    exact pv_ireturn (pc := 13) rfl (fm_dec dtX11_restore 7 rfl) (hn (by have h9 : (M.1 0 34).toInt = (0 : Int32).toInt := congrArg Int32.toInt hc9; have z0 : (0 : Int32).toInt = 0 := (by decide); omega))
set_option maxRecDepth 20000 in
theorem c_munS {M : fmM} {Q : fmR → fmM → Prop} {w : Nat} (hw : (M.1 0 32).toInt = (w : Int)) (h16 : w ≤ 16) (hn : w = 0 → Q (.inl (some (.int (-1)))) (fmI M 0 0 0)) (hq : 0 < w → ∀ M1 : fmM, cpB (503 + (w - 1)) 7 14 (fmI (fmI M 0 0 0) 0 32 (M.1 0 32 - 1)) M1 → Q (.inl (some (.int (M.1 0 32 - 1)))) (fmI M1 0 33 0)) : pvGood Tm 1 qX11_undo [.ref 0] M Q := by
  refine pvGood_of (Nat.le_of_ble_eq_true rfl) ?_
  show pvEv Tm 1 qX11_undo 0 [some (.ref 0)] [] M Q
  refine pv_aloadn (pc := 0) (n := 0) 0 rfl rfl (fm_dec dtX11_undo 0 rfl) ?_
  refine pv_iconst (pc := 1) (v := 0) (by decide) (fm_dec dtX11_undo 1 rfl) ?_
  refine pv_putI (k := 0) (j := 0) (ci := 11) (pc := 2) pfl_X11_101 (by decide) rfl (by decide) (fm_dec dtX11_undo 2 rfl) ?_
  refine pv_aloadn (pc := 5) (n := 0) 0 rfl rfl (fm_dec dtX11_undo 3 rfl) ?_
  refine pv_getI (k := 0) (j := 32) (ci := 11) (pc := 6) pfl_X11_200 (by decide) rfl (by decide) (fm_dec dtX11_undo 4 rfl) ?_
  refine pv_if_ne (pc := 9) 14 (by decide) (fm_dec dtX11_undo 5 rfl) (fun hc9 => ?_) (fun hc9 => ?_)
  · have h0 : 0 < w := (by have h9 : ¬ w = 0 := (fun h9 => hc9 (i32_ext (by show (M.1 0 32).toInt = _; rw [hw, h9]; decide))); omega)
    have e1 : ((fmI M 0 0 0).1 0 32 - 1).toInt = ((w - 1 : Nat) : Int) := (by have z1 : (1 : Int32).toInt = 1 := (by decide); have hw0 : ((fmI M 0 0 0).1 0 32).toInt = (w : Int) := hw; rw [sc_sub (by omega) (by omega)]; omega)
    refine pv_aloadn (pc := 14) (n := 0) 0 rfl rfl (fm_dec dtX11_undo 8 rfl) ?_
    refine pv_dup (pc := 15) rfl (fm_dec dtX11_undo 9 rfl) ?_
    refine pv_getI (k := 0) (j := 32) (ci := 11) (pc := 16) pfl_X11_200 (by decide) rfl (by decide) (fm_dec dtX11_undo 10 rfl) ?_
    refine pv_iconst (pc := 19) (v := 1) (by decide) (fm_dec dtX11_undo 11 rfl) ?_
    refine pv_isub (pc := 20) (fm_dec dtX11_undo 12 rfl) ?_
    refine pv_putI (k := 0) (j := 32) (ci := 11) (pc := 21) pfl_X11_200 (by decide) rfl (by decide) (fm_dec dtX11_undo 13 rfl) ?_
    refine pv_aloadn (pc := 24) (n := 0) 0 rfl rfl (fm_dec dtX11_undo 14 rfl) ?_
    refine pv_getR (k := 0) (j := 29) (ci := 11) (pc := 25) 25 rfl (by decide) pfl_X11_67 (by decide) rfl (by decide) (fm_dec dtX11_undo 15 rfl) ?_
    refine pv_aloadn (pc := 28) (n := 0) 0 rfl rfl (fm_dec dtX11_undo 16 rfl) ?_
    refine pv_getI (k := 0) (j := 32) (ci := 11) (pc := 29) pfl_X11_200 (by decide) rfl (by decide) (fm_dec dtX11_undo 17 rfl) ?_
    refine pv_aald (k := 25) (n := 16) (r := (503 + (w - 1))) (pc := 32) (by decide) (Or.inr (Or.inr rfl)) rfl (rw_before.inb e1 (by omega)) (rw_before.at e1 (by omega)) (rw_before.2.2.2 (w - 1) (by omega)).2.1 (fm_dec dtX11_undo 18 rfl) ?_
    refine pv_aloadn (pc := 33) (n := 0) 0 rfl rfl (fm_dec dtX11_undo 19 rfl) ?_
    refine pv_getR (k := 0) (j := 27) (ci := 11) (pc := 34) 7 rfl (by decide) pfl_X11_61 (by decide) rfl (by decide) (fm_dec dtX11_undo 20 rfl) ?_
    refine pv_iS2 (d' := 0) (pc := 37) pcs_X11_323 (Nat.le_of_ble_eq_true rfl) (by decide) (fm_dec dtX11_undo 21 rfl) ?_
    refine c_mcp (ro_b (w - 1) (by omega)) ro_7 (by omega) (fun M37 k37 => ?_) 
    refine pv_then0 ?_
    refine pv_aloadn (pc := 40) (n := 0) 0 rfl rfl (fm_dec dtX11_undo 22 rfl) ?_
    refine pv_iconst (pc := 41) (v := 0) (by decide) (fm_dec dtX11_undo 23 rfl) ?_
    refine pv_putI (k := 0) (j := 33) (ci := 11) (pc := 42) pfl_X11_203 (by decide) rfl (by decide) (fm_dec dtX11_undo 24 rfl) ?_
    refine pv_aloadn (pc := 45) (n := 0) 0 rfl rfl (fm_dec dtX11_undo 25 rfl) ?_
    refine pv_getI (k := 0) (j := 32) (ci := 11) (pc := 46) pfl_X11_200 (by decide) rfl (by decide) (fm_dec dtX11_undo 26 rfl) ?_
    exact pv_ireturn (pc := 49) rfl (fm_dec dtX11_undo 27 rfl) (by have h9 := hq h0 M37 k37; have e9 : M37.1 0 32 = M.1 0 32 - 1 := (k37.2.1 0 32 (by omega)).trans rfl; rw [← e9] at h9; exact h9)
  · refine pv_iconst (pc := 12) (v := (-1)) (by decide) (fm_dec dtX11_undo 6 rfl) ?_
    exact pv_ireturn (pc := 13) rfl (fm_dec dtX11_undo 7 rfl) (hn (by have h9 : (M.1 0 32).toInt = (0 : Int32).toInt := congrArg Int32.toInt hc9; have z0 : (0 : Int32).toInt = 0 := (by decide); omega))
-- THE STATES OF BOTH SIDES
/-- a state as the reference's row f has it -/
def msA (f : Nat → Int32) (D : dD) (S : aS) : Prop := (f 0).toInt = (S.1.2.2.1 : Int) ∧ (f 10).toInt = (S.1.1 : Int) ∧ (f 9).toInt = (S.1.2.1 : Int) ∧ (f 11).toInt = (S.1.2.2.2.1 : Int) ∧ (f 12).toInt = (S.1.2.2.2.2.1 : Int) ∧ (f 13).toInt = S.1.2.2.2.2.2 ∧ ∀ i, i < D.1 → (f (1 + i)).toInt = if S.2 i = -1 then -1000 else (S.1.1 : Int) - S.2 i
theorem mst_A {M : fmM} {D : dD} {S : aS} : mst M D S ↔ msA (M.1 7) D S := Iff.rfl
theorem msA.of {f g : Nat → Int32} {D : dD} {S : aS} (h : msA f D S) (hD : D.1 ≤ 8) (e : ∀ j, j < 14 → g j = f j) : msA g D S := by
  obtain ⟨a, b, c, d, e1, f1, g1⟩ := h
  exact ⟨by rw [e 0 (by decide)]; exact a, by rw [e 10 (by decide)]; exact b, by rw [e 9 (by decide)]; exact c, by rw [e 11 (by decide)]; exact d, by rw [e 12 (by decide)]; exact e1, by rw [e 13 (by decide)]; exact f1, fun i hi => by rw [e (1 + i) (by omega)]; exact g1 i hi⟩
/-- cells k, a of the first side and the row f speak of one state -/
def pairS (k a : Nat) (f : Nat → Int32) (M : fmM) (D : dD) : Prop := ∃ S, xsA k a M D S ∧ msA f D S ∧ stO D S
theorem pairS.cp {k a k' a' : Nat} {f g : Nat → Int32} {M M' : fmM} {D : dD} (h : pairS k a f M D) (hD : D.1 ≤ 8) (hc : smS k' a' k a M M') (e : ∀ j, j < 14 → g j = f j) : pairS k' a' g M' D := by
  obtain ⟨S, h1, h2, h3⟩ := h
  exact ⟨S, hc.st hD h1, h2.of hD e, h3⟩
theorem smS.same {k a : Nat} {M M' : fmM} (h1 : ∀ j, M'.1 k j = M.1 k j) (h2 : ∀ j, M'.1 a j = M.1 a j) (h3 : M'.2 k 6 = M.2 k 6) : smS k a k a M M' := ⟨fun j _ _ => h1 j, h3, fun i _ => h2 i⟩
/-- shelf z, and what the reference keeps of it: how many works, the state now, those ahead -/
def shP (z : Nat) (W : Int32) (N : Nat → Int32) (B : Nat → Nat → Int32) (M : fmM) (D : dD) : Prop := M.1 (46 + 36 * z) 2 = W ∧ pairS (47 + 36 * z) (48 + 36 * z) N M D ∧ ∀ w : Nat, (w : Int) < W.toInt → w < 16 → pairS (50 + 36 * z + w) (66 + 36 * z + w) (B w) M D
theorem shP.cp {z1 z2 : Nat} {W W' : Int32} {N N' : Nat → Int32} {B B' : Nat → Nat → Int32} {M M' : fmM} {D : dD} (h : shP z2 W N B M D) (hD : D.1 ≤ 8) (c1 : smS (47 + 36 * z1) (48 + 36 * z1) (47 + 36 * z2) (48 + 36 * z2) M M') (c2 : M'.1 (46 + 36 * z1) 2 = M.1 (46 + 36 * z2) 2) (c3 : ∀ w : Nat, (w : Int) < (M.1 (46 + 36 * z2) 2).toInt → w < 16 → smS (50 + 36 * z1 + w) (66 + 36 * z1 + w) (50 + 36 * z2 + w) (66 + 36 * z2 + w) M M') (eW : W' = W) (eN : ∀ j, j < 14 → N' j = N j) (eB : ∀ w, w < 16 → ∀ j, j < 14 → B' w j = B w j) : shP z1 W' N' B' M' D := by
  obtain ⟨h1, h2, h3⟩ := h
  subst eW
  exact ⟨c2.trans h1, h2.cp hD c1 eN, fun w hw h16 => (h3 w hw h16).cp hD (c3 w (by rw [h1]; exact hw) h16) (eB w h16)⟩
theorem shP.keep {z : Nat} {W W' : Int32} {N N' : Nat → Int32} {B B' : Nat → Nat → Int32} {M M' : fmM} {D : dD} (h : shP z W N B M D) (hD : D.1 ≤ 8) (hM : ∀ k, 46 + 36 * z ≤ k → k < 82 + 36 * z → ∀ j, M'.1 k j = M.1 k j ∧ M'.2 k j = M.2 k j) (eW : W' = W) (eN : ∀ j, j < 14 → N' j = N j) (eB : ∀ w, w < 16 → ∀ j, j < 14 → B' w j = B w j) : shP z W' N' B' M' D :=
  h.cp hD (smS.same (fun j => (hM _ (by omega) (by omega) j).1) (fun j => (hM _ (by omega) (by omega) j).1) (hM _ (by omega) (by omega) 6).2) (hM _ (by omega) (by omega) 2).1 (fun w _ h16 => smS.same (fun j => (hM _ (by omega) (by omega) j).1) (fun j => (hM _ (by omega) (by omega) j).1) (hM _ (by omega) (by omega) 6).2) eW eN eB
/-- all states of both sides -/
def rSt (M M2 : fmM) (D : dD) : Prop := shP 0 (M2.1 0 32) (M2.1 7) (fun w => M2.1 (503 + w)) M D ∧ M.1 0 13 = M2.1 0 34 ∧ ∀ i : Nat, (i : Int) < (M.1 0 13).toInt → i < 3 → shP (1 + i) (M2.1 (519 + i) 0) (fun j => M2.1 (519 + i) (1 + j)) (fun w j => M2.1 (519 + i) (15 + 14 * w + j)) M D
theorem sl_n : ∀ j, j < 14 → sl (1 + j) = (7, j) := by decide +kernel
theorem sl_w : ∀ w, w < 16 → ∀ j, j < 14 → sl (15 + 14 * w + j) = (503 + w, j) := by decide +kernel
/-- what queries and texts leave -/
def skX (M M' : fmM) : Prop := (∀ k, 46 ≤ k → k < 190 → ∀ j, M'.1 k j = M.1 k j ∧ M'.2 k j = M.2 k j) ∧ M'.1 0 13 = M.1 0 13
def skM (M M' : fmM) : Prop := (∀ k j, k = 7 ∨ (503 ≤ k ∧ k < 522) → M'.1 k j = M.1 k j) ∧ M'.1 0 32 = M.1 0 32 ∧ M'.1 0 34 = M.1 0 34
theorem rSt.keep {M M' M2 M2' : fmM} {D : dD} (h : rSt M M2 D) (hD : D.1 ≤ 8) (k1 : skX M M') (k2 : skM M2 M2') : rSt M' M2' D := by
  obtain ⟨h1, h2, h3⟩ := h
  refine ⟨h1.keep hD (fun k a b => k1.1 k (by omega) (by omega)) k2.2.1 (fun j _ => k2.1 7 j (Or.inl rfl)) (fun w hw j _ => k2.1 _ j (Or.inr ⟨by omega, by omega⟩)), k1.2.trans (h2.trans k2.2.2.symm), fun i hi h3' => ?_⟩
  rw [k1.2] at hi
  exact (h3 i hi h3').keep hD (fun k a b => k1.1 k (by omega) (by omega)) (k2.1 _ 0 (Or.inr ⟨by omega, by omega⟩)) (fun j _ => k2.1 _ _ (Or.inr ⟨by omega, by omega⟩)) (fun w hw j _ => k2.1 _ _ (Or.inr ⟨by omega, by omega⟩))
/-- image -/
theorem rSt.im {M M1 M2 M3 : fmM} {D : dD} {i : Nat} (h : rSt M M2 D) (hD : D.1 ≤ 8) (hi : (M.1 0 13).toInt = (i : Int)) (h3 : i < 3) (c : shA (1 + i) 0 M M1) (p : pa0 (fmI M2 0 0 0) i 239 M3) : rSt (fmI M1 0 13 (M.1 0 13 + 1)) (fmI M3 0 34 (M2.1 0 34 + 1)) D := by
  obtain ⟨h1, h2, h4⟩ := h
  have ep : ∀ k j, ¬ (k = 519 + i ∧ j < 239) → ¬ (k = 0 ∧ j = 35) → ¬ (k = 0 ∧ j = 0) → ¬ (k = 0 ∧ j = 34) → (fmI M3 0 34 (M2.1 0 34 + 1)).1 k j = M2.1 k j := fun k j a b c d => by
    rw [fmI_at, if_neg d, p.2.1 k j a b, fmI_at, if_neg c]
  have es : ∀ t, t < 239 → (fmI M3 0 34 (M2.1 0 34 + 1)).1 (519 + i) t = M2.1 (sl t).1 (sl t).2 := fun t ht => by
    rw [fmI_k _ _ (by omega), p.1 t ht, fmI_at, if_neg (by have := sl_d t ht; omega)]
  have ec : ∀ k, ¬ (46 + 36 * (1 + i) ≤ k ∧ k < 82 + 36 * (1 + i)) → ¬ k = 0 → ∀ j, (fmI M1 0 13 (M.1 0 13 + 1)).1 k j = M.1 k j ∧ (fmI M1 0 13 (M.1 0 13 + 1)).2 k j = M.2 k j := fun k a b j => by
    rw [fmI_k _ _ b]
    exact c.2.2.2 k a j
  refine ⟨h1.keep hD (fun k a b j => ec k (by omega) (by omega) j) (ep 0 32 (by omega) (by omega) (by omega) (by omega)) (fun j _ => ep 7 j (by omega) (by omega) (by omega) (by omega)) (fun w _ j _ => ep _ j (by omega) (by omega) (by omega) (by omega)), ?_, fun i' hi' h3' => ?_⟩
  · rw [fmI_s, fmI_s, h2]
  · rw [fmI_s, i32_p1 hi (by omega)] at hi'
    by_cases e : i' = i
    · subst e
      refine h1.cp hD (c.1.fr (fun j => by rw [fmI_k _ _ (by omega)]) (fun j => by rw [fmI_k _ _ (by omega)]) rfl) (by rw [fmI_k _ _ (by omega)]; exact c.2.1) (fun w hw h16 => (c.2.2.1 w hw h16).fr (fun j => by rw [fmI_k _ _ (by omega)]) (fun j => by rw [fmI_k _ _ (by omega)]) rfl) (by rw [es 0 (by decide)]; rfl) (fun j hj => ?_) (fun w hw j hj => ?_)
      · show (fmI M3 0 34 (M2.1 0 34 + 1)).1 (519 + i') (1 + j) = M2.1 7 j
        rw [es (1 + j) (by omega), sl_n j hj]
      · show (fmI M3 0 34 (M2.1 0 34 + 1)).1 (519 + i') (15 + 14 * w + j) = M2.1 (503 + w) j
        rw [es (15 + 14 * w + j) (by omega), sl_w w hw j hj]
    · exact (h4 i' (by omega) h3').keep hD (fun k a b j => ec k (by omega) (by omega) j) (ep _ 0 (by omega) (by omega) (by omega) (by omega)) (fun j hj => ep _ _ (by omega) (by omega) (by omega) (by omega)) (fun w hw j hj => ep _ _ (by omega) (by omega) (by omega) (by omega))
/-- and back -/
theorem rSt.re {M M1 M2 M3 : fmM} {D : dD} {i : Nat} (h : rSt M M2 D) (hD : D.1 ≤ 8) (hi : (M.1 0 13).toInt = (i : Int)) (h0 : 0 < i) (h3 : i ≤ 3) (c : shA 0 (1 + (i - 1)) (fmI M 0 13 (M.1 0 13 - 1)) M1) (p : pa1 (fmI (fmI M2 0 0 0) 0 34 (M2.1 0 34 - 1)) (i - 1) 239 M3) : rSt (fmI (fmI M1 0 14 0) 34 5 0) (fmI M3 0 33 0) D := by
  obtain ⟨h1, h2, h4⟩ := h
  have e1 : (M.1 0 13 - 1).toInt = ((i - 1 : Nat) : Int) := by
    have z1 : (1 : Int32).toInt = 1 := by decide
    rw [sc_sub (by omega) (by omega)]
    omega
  have ex : ∀ k, 82 ≤ k → ∀ j, (fmI (fmI M1 0 14 0) 34 5 0).1 k j = M.1 k j ∧ (fmI (fmI M1 0 14 0) 34 5 0).2 k j = M.2 k j := fun k a j => by
    rw [fmI_k _ _ (by omega), fmI_k _ _ (by omega)]
    have h9 := c.2.2.2 k (by omega) j
    rw [fmI_k _ _ (by omega)] at h9
    exact h9
  have e13 : (fmI (fmI M1 0 14 0) 34 5 0).1 0 13 = M.1 0 13 - 1 := by
    rw [fmI_k _ _ (by decide), fmI_j _ _ (by decide), (c.2.2.2 0 (by omega) 13).1, fmI_s]
  have em : ∀ k j, k ≠ 0 → k ≠ 7 → ¬ (503 ≤ k ∧ k < 519) → (fmI M3 0 33 0).1 k j = M2.1 k j := fun k j a b c => by
    rw [fmI_k _ _ a, p.2.1 k j (fun t ht h9 => by have := sl_d t ht; omega) (by omega), fmI_k _ _ a, fmI_k _ _ a]
  have e34 : (fmI M3 0 33 0).1 0 34 = M2.1 0 34 - 1 := by
    rw [fmI_j _ _ (by decide), p.2.1 0 34 (fun t ht h9 => by have := sl_d t ht; omega) (by decide), fmI_s]
  have es : ∀ t, t < 239 → M3.1 (sl t).1 (sl t).2 = M2.1 (519 + (i - 1)) t := fun t ht => by
    rw [p.1 t ht, fmI_k _ _ (by omega), fmI_k _ _ (by omega)]
  have hz := h4 (i - 1) (by omega) (by omega)
  refine ⟨?_, ?_, fun i' hi' h3' => ?_⟩
  · have hz0 : shP (1 + (i - 1)) (M2.1 (519 + (i - 1)) 0) (fun j => M2.1 (519 + (i - 1)) (1 + j)) (fun w j => M2.1 (519 + (i - 1)) (15 + 14 * w + j)) (fmI M 0 13 (M.1 0 13 - 1)) D := hz.keep hD (fun k a b j => ⟨by rw [fmI_k _ _ (by omega)], rfl⟩) rfl (fun _ _ => rfl) (fun _ _ _ _ => rfl)
    have kk : ∀ k j, k ≠ 0 → k ≠ 34 → (fmI (fmI M1 0 14 0) 34 5 0).1 k j = M1.1 k j := fun k j a b => by rw [fmI_k _ _ b, fmI_k _ _ a]
    refine hz0.cp hD (c.1.fr (fun j => kk _ _ (by omega) (by omega)) (fun j => kk _ _ (by omega) (by omega)) rfl) ((kk _ _ (by omega) (by omega)).trans c.2.1) (fun w hw h16 => (c.2.2.1 w hw h16).fr (fun j => kk _ _ (by omega) (by omega)) (fun j => kk _ _ (by omega) (by omega)) rfl) ?_ (fun j hj => ?_) (fun w hw j hj => ?_)
    · rw [fmI_j _ _ (by decide)]
      exact es 0 (by decide)
    · show (fmI M3 0 33 0).1 7 j = M2.1 (519 + (i - 1)) (1 + j)
      have h9 := es (1 + j) (by omega)
      rw [sl_n j hj] at h9
      rw [fmI_k _ _ (by decide)]
      exact h9
    · show (fmI M3 0 33 0).1 (503 + w) j = M2.1 (519 + (i - 1)) (15 + 14 * w + j)
      have h9 := es (15 + 14 * w + j) (by omega)
      rw [sl_w w hw j hj] at h9
      rw [fmI_k _ _ (by omega)]
      exact h9
  · rw [e13, e34, h2]
  · rw [e13, e1] at hi'
    exact (h4 i' (by omega) h3').keep hD (fun k a b j => ex k (by omega) j) (em _ _ (by omega) (by omega) (by omega)) (fun j hj => em _ _ (by omega) (by omega) (by omega)) (fun w hw j hj => em _ _ (by omega) (by omega) (by omega))
/-- a work undone -/
theorem rSt.un {M M1 M2 M3 : fmM} {D : dD} {w : Nat} (h : rSt M M2 D) (hD : D.1 ≤ 8) (hw : (M.1 46 2).toInt = (w : Int)) (h0 : 0 < w) (h16 : w ≤ 16) (c : cpR 47 48 (50 + (w - 1)) (66 + (w - 1)) (fmI M 46 2 (M.1 46 2 - 1)) M1) (p : cpB (503 + (w - 1)) 7 14 (fmI (fmI M2 0 0 0) 0 32 (M2.1 0 32 - 1)) M3) : rSt (fmI (fmI M1 0 14 0) 34 5 0) (fmI M3 0 33 0) D := by
  obtain ⟨⟨h1, h2, h3⟩, h4, h5⟩ := h
  have e1 : (M.1 46 2 - 1).toInt = ((w - 1 : Nat) : Int) := by
    have z1 : (1 : Int32).toInt = 1 := by decide
    rw [sc_sub (by omega) (by omega)]
    omega
  have h1 : M.1 46 2 = M2.1 0 32 := h1
  have kk : ∀ k j, k ≠ 0 → k ≠ 34 → (fmI (fmI M1 0 14 0) 34 5 0).1 k j = M1.1 k j := fun k j a b => by rw [fmI_k _ _ b, fmI_k _ _ a]
  have kx : ∀ k, k ≠ 0 → k ≠ 34 → k ≠ 46 → k ≠ 47 → k ≠ 48 → ∀ j, (fmI (fmI M1 0 14 0) 34 5 0).1 k j = M.1 k j ∧ (fmI (fmI M1 0 14 0) 34 5 0).2 k j = M.2 k j := fun k a b d e f j => ⟨by rw [kk k j a b, c.2.1 k j e f, fmI_k _ _ d], c.2.2 k j e⟩
  have em : ∀ k j, k ≠ 0 → k ≠ 7 → (fmI M3 0 33 0).1 k j = M2.1 k j := fun k j a b => by
    rw [fmI_k _ _ a, p.2.1 k j (by omega), fmI_k _ _ a, fmI_k _ _ a]
  have e32 : (fmI M3 0 33 0).1 0 32 = M2.1 0 32 - 1 := by
    rw [fmI_j _ _ (by decide), p.2.1 0 32 (by omega), fmI_s]
  have e34 : (fmI M3 0 33 0).1 0 34 = M2.1 0 34 := by
    rw [fmI_j _ _ (by decide), p.2.1 0 34 (by omega), fmI_j _ _ (by decide), fmI_j _ _ (by decide)]
  have e13 : (fmI (fmI M1 0 14 0) 34 5 0).1 0 13 = M.1 0 13 := by
    rw [fmI_k _ _ (by decide), fmI_j _ _ (by decide), c.2.1 0 13 (by decide) (by decide), fmI_k _ _ (by decide)]
  refine ⟨⟨?_, ?_, fun w' hw' h16' => ?_⟩, ?_, fun i' hi' h3' => ?_⟩
  · show (fmI (fmI M1 0 14 0) 34 5 0).1 46 2 = _
    rw [kk _ _ (by decide) (by decide), c.2.1 46 2 (by decide) (by decide), fmI_s, e32, h1]
  · have h9 := h3 (w - 1) (by rw [← h1]; omega) (by omega)
    have h8 : pairS (50 + (w - 1)) (66 + (w - 1)) (M2.1 (503 + (w - 1))) (fmI M 46 2 (M.1 46 2 - 1)) D := h9.cp hD (smS.same (fun j => by rw [fmI_k _ _ (by omega)]) (fun j => by rw [fmI_k _ _ (by omega)]) rfl) (fun _ _ => rfl)
    refine h8.cp hD (c.1.fr (fun j => kk _ _ (by decide) (by decide)) (fun j => kk _ _ (by decide) (by decide)) rfl) (fun j hj => ?_)
    show (fmI M3 0 33 0).1 7 j = M2.1 (503 + (w - 1)) j
    rw [fmI_k _ _ (by decide), p.1 j hj, fmI_k _ _ (by omega), fmI_k _ _ (by omega)]
  · rw [e32, ← h1, e1] at hw'
    exact (h3 w' (by rw [← h1]; omega) h16').cp hD (smS.same (fun j => (kx _ (by omega) (by omega) (by omega) (by omega) (by omega) j).1) (fun j => (kx _ (by omega) (by omega) (by omega) (by omega) (by omega) j).1) (kx _ (by omega) (by omega) (by omega) (by omega) (by omega) 6).2) (fun j _ => em _ _ (by omega) (by omega))
  · rw [e13, e34]
    exact h4
  · rw [e13] at hi'
    exact (h5 i' hi' h3').keep hD (fun k a b j => kx k (by omega) (by omega) (by omega) (by omega) (by omega) j) (em _ _ (by omega) (by omega)) (fun j hj => em _ _ (by omega) (by omega)) (fun w hw j hj => em _ _ (by omega) (by omega))
end
-- P 18ye
section
-- THE STATE BEHIND A DRAWER
def stNew (M : fmM) (D : dD) : Prop := M.1 47 1 = 0 ∧ M.1 47 2 = 0 ∧ (M.1 47 3).toInt = D.2.2.2.2 2 ∧ M.1 47 4 = 0 ∧ M.1 47 5 = 0 ∧ M.2 47 6 = 0 ∧ (∀ i, i < D.1 → (M.1 48 i).toInt = D.2.1 i 4) ∧ M.1 0 14 = 0
def bgK (M M' : fmM) : Prop := M'.1 47 1 = 0 ∧ M'.1 47 2 = 0 ∧ M'.1 47 3 = M.1 3 11 ∧ M'.1 47 4 = 0 ∧ M'.1 47 5 = 0 ∧ M'.2 47 6 = 0 ∧ ∀ i, i < 8 → M'.1 48 i = M.1 8 i
set_option maxRecDepth 20000 in
theorem c_xbegin {M : fmM} {Q : fmR → fmM → Prop}  (hq : ∀ M' : fmM, bgK M M' → Q (.inl none) M') : pvGood Tx 0 qX6_begin [.ref 47, .ref 3] M Q := by
  refine pvGood_of (Nat.le_of_ble_eq_true rfl) ?_
  show pvEv Tx 0 qX6_begin 0 [some (.ref 47), some (.ref 3)] [] M Q
  refine pv_aloadn (pc := 0) (n := 1) 1 rfl rfl (fm_dec dtX6_begin 0 rfl) ?_
  refine pv_getR (k := 3) (j := 4) (ci := 8) (pc := 1) 8 rfl (by decide) pfl_X6_15 (by decide) rfl (by decide) (fm_dec dtX6_begin 1 rfl) ?_
  refine pv_iconst (pc := 4) (v := 0) (by decide) (fm_dec dtX6_begin 2 rfl) ?_
  refine pv_aloadn (pc := 5) (n := 0) 0 rfl rfl (fm_dec dtX6_begin 3 rfl) ?_
  refine pv_getR (k := 47) (j := 0) (ci := 6) (pc := 6) 48 rfl (by decide) pfl_X6_9 (by decide) rfl (by decide) (fm_dec dtX6_begin 4 rfl) ?_
  refine pv_iconst (pc := 9) (v := 0) (by decide) (fm_dec dtX6_begin 5 rfl) ?_
  refine pv_bipush (pc := 10) (v := 8) (by decide) (fm_dec dtX6_begin 6 rfl) ?_
  refine pv_copy (k0 := 8) (k1 := 48) (n0 := 8) (n1 := 8) (pc := 12) pcm_X6_20 pcc_X6_20 (by decide) rfl rfl (by decide) rfl rfl (by decide) (by decide) (by decide) (by decide) (by decide) (Nat.le_of_ble_eq_true rfl) (fm_dec dtX6_begin 7 rfl) ?_
  show pvEv Tx 0 qX6_begin _ _ _ (cpA M 48 8 8) Q
  refine pv_aloadn (pc := 15) (n := 0) 0 rfl rfl (fm_dec dtX6_begin 8 rfl) ?_
  refine pv_iconst (pc := 16) (v := 0) (by decide) (fm_dec dtX6_begin 9 rfl) ?_
  refine pv_putI (k := 47) (j := 1) (ci := 6) (pc := 17) pfl_X6_26 (by decide) rfl (by decide) (fm_dec dtX6_begin 10 rfl) ?_
  refine pv_aloadn (pc := 20) (n := 0) 0 rfl rfl (fm_dec dtX6_begin 11 rfl) ?_
  refine pv_iconst (pc := 21) (v := 0) (by decide) (fm_dec dtX6_begin 12 rfl) ?_
  refine pv_putI (k := 47) (j := 2) (ci := 6) (pc := 22) pfl_X6_30 (by decide) rfl (by decide) (fm_dec dtX6_begin 13 rfl) ?_
  refine pv_aloadn (pc := 25) (n := 0) 0 rfl rfl (fm_dec dtX6_begin 14 rfl) ?_
  refine pv_aloadn (pc := 26) (n := 1) 1 rfl rfl (fm_dec dtX6_begin 15 rfl) ?_
  refine pv_getI (k := 3) (j := 11) (ci := 8) (pc := 27) pfl_X6_33 (by decide) rfl (by decide) (fm_dec dtX6_begin 16 rfl) ?_
  refine pv_putI (k := 47) (j := 3) (ci := 6) (pc := 30) pfl_X6_36 (by decide) rfl (by decide) (fm_dec dtX6_begin 17 rfl) ?_
  refine pv_aloadn (pc := 33) (n := 0) 0 rfl rfl (fm_dec dtX6_begin 18 rfl) ?_
  refine pv_iconst (pc := 34) (v := 0) (by decide) (fm_dec dtX6_begin 19 rfl) ?_
  refine pv_putI (k := 47) (j := 4) (ci := 6) (pc := 35) pfl_X6_39 (by decide) rfl (by decide) (fm_dec dtX6_begin 20 rfl) ?_
  refine pv_aloadn (pc := 38) (n := 0) 0 rfl rfl (fm_dec dtX6_begin 21 rfl) ?_
  refine pv_iconst (pc := 39) (v := 0) (by decide) (fm_dec dtX6_begin 22 rfl) ?_
  refine pv_putI (k := 47) (j := 5) (ci := 6) (pc := 40) pfl_X6_42 (by decide) rfl (by decide) (fm_dec dtX6_begin 23 rfl) ?_
  refine pv_aloadn (pc := 43) (n := 0) 0 rfl rfl (fm_dec dtX6_begin 24 rfl) ?_
  refine pv_lconst (pc := 44) (v := 0) (by decide) (fm_dec dtX6_begin 25 rfl) ?_
  refine pv_putJ (k := 47) (j := 6) (ci := 6) (pc := 45) pfl_X6_45 (by decide) rfl (by decide) (fm_dec dtX6_begin 26 rfl) ?_
  exact pv_return (pc := 48) rfl (fm_dec dtX6_begin 27 rfl) (hq _ ⟨rfl, rfl, rfl, rfl, rfl, rfl, fun i hi => (by show (cpA M 48 8 8).1 48 i = _; rw [cpA_at, if_pos ⟨rfl, hi⟩])⟩)
theorem x_begin {M : fmM} {Q : fmR → fmM → Prop} (hI : scInv Tx invX M) (hq : ∀ M' : fmM, scInv Tx invX M' → scFr [(47, 1, 6), (48, 0, 8)] M M' → bgK M M' → Q (.inl none) M') : pvGood Tx 0 qX6_begin [.ref 47, .ref 3] M Q := ((c_xbegin (Q := fun r M' => r = .inl none ∧ bgK M M') (fun M' h => ⟨rfl, h⟩)).and (s_begin6 (Q := fun _ M' => scInv Tx invX M' ∧ scFr [(47, 1, 6), (48, 0, 8)] M M') hI (fun M' h1 h2 => ⟨h1, h2⟩))).imp (fun r M' h => by
  obtain ⟨⟨rfl, e⟩, h1, h2⟩ := h
  exact hq M' h1 h2 e)
set_option maxRecDepth 20000 in
theorem c_xdrawS {M : fmM} {Q : fmR → fmM → Prop} {T : Nat → tX} {nn : Int32} (hI : scInv Tx invX M) (hT : txF M T) (hrf : ¬ txP nn 600 (M.1 1 1).toInt → Q (.inr fmIAE) (fmI M 0 16 (M.1 0 16 + 1))) (hok : ∀ (n : Nat) (M' : fmM) (D : dD) (r : Int32), nn.toInt = (n : Int) → txP nn 600 (M.1 1 1).toInt → spDrawer (T n) n = .inr D → r.toInt = (D.1 : Int) → dwNew M' D → stNew M' D → Q (.inl (some (.int r))) M') (hbad : ∀ (n k a : Nat) (M' : fmM) (r : Int32), nn.toInt = (n : Int) → txP nn 600 (M.1 1 1).toInt → spDrawer (T n) n = .inl (k, a) → r.toInt = (k : Int) - 10 → tbad (opM M nn) M' k a → Q (.inl (some (.int r))) M') : pvGood Tx 41 qX10_drawer [.ref 0, .int nn] M Q := by
  refine pvGood_of (Nat.le_of_ble_eq_true rfl) ?_
  show pvEv Tx 41 qX10_drawer 0 [some (.ref 0), some (.int nn)] [] M Q
  refine pv_aloadn (pc := 0) (n := 0) 0 rfl rfl (fm_dec dtX10_drawer 0 rfl) ?_
  refine pv_iloadn (pc := 1) (n := 1) 1 rfl rfl (fm_dec dtX10_drawer 1 rfl) ?_
  refine pv_sipush (pc := 2) (v := 600) (by decide) (fm_dec dtX10_drawer 2 rfl) ?_
  refine pv_invV2 (k := 0) (d' := 1) (pc := 5) pcv_X10_108 (by decide) rfl (Nat.le_of_ble_eq_true rfl) (by decide) (fm_dec dtX10_drawer 3 rfl) ?_
  refine c_openT (fun h5 => ?_) (fun h5 => ?_)
  · refine pv_then0 ?_
    have h56 : nn.toInt ≤ 600 := h5.2.1
    obtain ⟨n, hn⟩ : ∃ n : Nat, nn.toInt = (n : Int) := ⟨nn.toInt.toNat, by have := h5.1; omega⟩
    have hI5 := inv_open (n := nn) hI h5.1 (by omega)
    have hT9 := hT n (by have := h5.2.2; omega)
    have hS := op_S hn hT9.1 hT9.2
    have hf5 : (opM M nn).1 1 4 = 0 := rfl
    refine pv_aloadn (pc := 8) (n := 0) 0 rfl rfl (fm_dec dtX10_drawer 4 rfl) ?_
    refine pv_getR (k := 0) (j := 2) (ci := 10) (pc := 9) 13 rfl (by decide) pfl_X10_23 (by decide) rfl (by decide) (fm_dec dtX10_drawer 5 rfl) ?_
    refine pv_aloadn (pc := 12) (n := 0) 0 rfl rfl (fm_dec dtX10_drawer 6 rfl) ?_
    refine pv_getR (k := 0) (j := 0) (ci := 10) (pc := 13) 1 rfl (by decide) pfl_X10_12 (by decide) rfl (by decide) (fm_dec dtX10_drawer 7 rfl) ?_
    refine pv_invV1 (k := 13) (d' := 7) (pc := 16) pcv_X10_112 (by decide) rfl (Nat.le_of_ble_eq_true rfl) (by decide) (fm_dec dtX10_drawer 8 rfl) ?_
    refine c_xdread hS hf5 hI5 (fun M16 D16 e16 k16 => ?_) (fun Mb kb ab eb hB => ?_)  
    · refine pv_then1 ?_
      refine pv_if_ne (pc := 19) 33 (by decide) (fm_dec dtX10_drawer 9 rfl) (fun _ => ?_) (fun hc19 => by exfalso; revert hc19; decide)
      refine pv_aloadn (pc := 33) (n := 0) 0 rfl rfl (fm_dec dtX10_drawer 16 rfl) ?_
      refine pv_getR (k := 0) (j := 1) (ci := 10) (pc := 34) 3 rfl (by decide) pfl_X10_19 (by decide) rfl (by decide) (fm_dec dtX10_drawer 17 rfl) ?_
      refine pv_aloadn (pc := 37) (n := 0) 0 rfl rfl (fm_dec dtX10_drawer 18 rfl) ?_
      refine pv_getR (k := 0) (j := 2) (ci := 10) (pc := 38) 13 rfl (by decide) pfl_X10_23 (by decide) rfl (by decide) (fm_dec dtX10_drawer 19 rfl) ?_
      refine pv_invV1 (k := 3) (d' := 0) (pc := 41) pcv_X10_119 (by decide) rfl (Nat.le_of_ble_eq_true rfl) (by decide) (fm_dec dtX10_drawer 20 rfl) ?_
      refine x_copy k16.2.2.2.2 k16.1 k16.2.1 (fun M41 hI41 hW41 f41 => ?_)
      refine pv_then0 ?_
      refine pv_aloadn (pc := 44) (n := 0) 0 rfl rfl (fm_dec dtX10_drawer 21 rfl) ?_
      refine pv_getR (k := 0) (j := 3) (ci := 10) (pc := 45) 23 rfl (by decide) pfl_X10_29 (by decide) rfl (by decide) (fm_dec dtX10_drawer 22 rfl) ?_
      refine pv_invV0 (k := 23) (d' := 0) (pc := 48) pcv_X10_122 (by decide) rfl (Nat.le_of_ble_eq_true rfl) (by decide) (fm_dec dtX10_drawer 23 rfl) ?_
      refine x_clr1 hI41 (fun M48 hI48 f48 c48 => ?_)
      refine pv_then0 ?_
      refine pv_aloadn (pc := 51) (n := 0) 0 rfl rfl (fm_dec dtX10_drawer 24 rfl) ?_
      refine pv_getR (k := 0) (j := 4) (ci := 10) (pc := 52) 27 rfl (by decide) pfl_X10_36 (by decide) rfl (by decide) (fm_dec dtX10_drawer 25 rfl) ?_
      refine pv_invV0 (k := 27) (d' := 0) (pc := 55) pcv_X10_125 (by decide) rfl (Nat.le_of_ble_eq_true rfl) (by decide) (fm_dec dtX10_drawer 26 rfl) ?_
      refine x_clr2 hI48 (fun M55 hI55 f55 c55 => ?_)
      refine pv_then0 ?_
      refine pv_aloadn (pc := 58) (n := 0) 0 rfl rfl (fm_dec dtX10_drawer 27 rfl) ?_
      refine pv_getR (k := 0) (j := 9) (ci := 10) (pc := 59) 46 rfl (by decide) pfl_X10_75 (by decide) rfl (by decide) (fm_dec dtX10_drawer 28 rfl) ?_
      refine pv_getR (k := 46) (j := 0) (ci := 5) (pc := 62) 47 rfl (by decide) pfl_X10_90 (by decide) rfl (by decide) (fm_dec dtX10_drawer 29 rfl) ?_
      refine pv_aloadn (pc := 65) (n := 0) 0 rfl rfl (fm_dec dtX10_drawer 30 rfl) ?_
      refine pv_getR (k := 0) (j := 1) (ci := 10) (pc := 66) 3 rfl (by decide) pfl_X10_19 (by decide) rfl (by decide) (fm_dec dtX10_drawer 31 rfl) ?_
      refine pv_invV1 (k := 47) (d' := 0) (pc := 69) pcv_X10_94 (by decide) rfl (Nat.le_of_ble_eq_true rfl) (by decide) (fm_dec dtX10_drawer 32 rfl) ?_
      refine x_begin hI55 (fun M69 hI69 f69 c69 => ?_)
      refine pv_then0 ?_
      refine pv_aloadn (pc := 72) (n := 0) 0 rfl rfl (fm_dec dtX10_drawer 33 rfl) ?_
      refine pv_getR (k := 0) (j := 9) (ci := 10) (pc := 73) 46 rfl (by decide) pfl_X10_75 (by decide) rfl (by decide) (fm_dec dtX10_drawer 34 rfl) ?_
      refine pv_iconst (pc := 76) (v := 0) (by decide) (fm_dec dtX10_drawer 35 rfl) ?_
      refine pv_putI (k := 46) (j := 2) (ci := 5) (pc := 77) pfl_X10_126 (by decide) rfl (by decide) (fm_dec dtX10_drawer 36 rfl) ?_
      refine pv_aloadn (pc := 80) (n := 0) 0 rfl rfl (fm_dec dtX10_drawer 37 rfl) ?_
      refine pv_iconst (pc := 81) (v := 0) (by decide) (fm_dec dtX10_drawer 38 rfl) ?_
      refine pv_putI (k := 0) (j := 13) (ci := 10) (pc := 82) pfl_X10_129 (by decide) rfl (by decide) (fm_dec dtX10_drawer 39 rfl) ?_
      refine pv_aloadn (pc := 85) (n := 0) 0 rfl rfl (fm_dec dtX10_drawer 40 rfl) ?_
      refine pv_iconst (pc := 86) (v := 0) (by decide) (fm_dec dtX10_drawer 41 rfl) ?_
      refine pv_putI (k := 0) (j := 14) (ci := 10) (pc := 87) pfl_X10_132 (by decide) rfl (by decide) (fm_dec dtX10_drawer 42 rfl) ?_
      refine pv_aloadn (pc := 90) (n := 0) 0 rfl rfl (fm_dec dtX10_drawer 43 rfl) ?_
      refine pv_getR (k := 0) (j := 7) (ci := 10) (pc := 91) 34 rfl (by decide) pfl_X10_61 (by decide) rfl (by decide) (fm_dec dtX10_drawer 44 rfl) ?_
      refine pv_invV0 (k := 34) (d' := 0) (pc := 94) pcv_X10_135 (by decide) rfl (Nat.le_of_ble_eq_true rfl) (by decide) (fm_dec dtX10_drawer 45 rfl) ?_
      refine s_forget (xInv.put (xInv.put (xInv.put hI69 (by decide)) (by decide)) (scq_t 0)) (fun M94 hI94 f94 => ?_)
      refine pv_then0 ?_
      refine pv_aloadn (pc := 97) (n := 0) 0 rfl rfl (fm_dec dtX10_drawer 46 rfl) ?_
      refine pv_getR (k := 0) (j := 1) (ci := 10) (pc := 98) 3 rfl (by decide) pfl_X10_19 (by decide) rfl (by decide) (fm_dec dtX10_drawer 47 rfl) ?_
      refine pv_getI (k := 3) (j := 9) (ci := 8) (pc := 101) pfl_X10_138 (by decide) rfl (by decide) (fm_dec dtX10_drawer 48 rfl) ?_
      exact pv_ireturn (pc := 104) rfl (fm_dec dtX10_drawer 49 rfl) (hok n _ D16 _ hn h5 e16 (by rw [(f94 3 9 rfl).1]; show (M69.1 3 9).toInt = _; rw [(f69 3 9 rfl).1, (f55 3 9 rfl).1, (f48 3 9 rfl).1]; exact hW41.1.1) ⟨k16.2.1, hW41.of (fun k j a b => by rw [kp_of (P := ([(3, 12)], [])) f94 (by decide) k j (kp_in12 a b), fmI_at, if_neg (by omega), fmI_at, if_neg (by omega), fmI_at, if_neg (by omega), kp_of (P := ([(3, 12)], [])) f69 (by decide) k j (kp_in12 a b), kp_of (P := ([(3, 12)], [])) f55 (by decide) k j (kp_in12 a b), kp_of (P := ([(3, 12)], [])) f48 (by decide) k j (kp_in12 a b)]), ⟨(f94 0 13 rfl).1.trans rfl, (f94 46 2 rfl).1.trans rfl⟩, ⟨(f94 27 1 rfl).1.trans ((f69 27 1 rfl).1.trans c55.1), (f94 27 2 rfl).1.trans ((f69 27 2 rfl).1.trans c55.2)⟩, (f94 23 3 rfl).1.trans ((f69 23 3 rfl).1.trans ((f55 23 3 rfl).1.trans c48.1)), (f94 24 0 rfl).1.trans ((f69 24 0 rfl).1.trans ((f55 24 0 rfl).1.trans c48.2.1)), (f94 24 1 rfl).1.trans ((f69 24 1 rfl).1.trans ((f55 24 1 rfl).1.trans c48.2.2.1)), (f94 24 2 rfl).1.trans ((f69 24 2 rfl).1.trans ((f55 24 2 rfl).1.trans c48.2.2.2))⟩ ⟨(f94 47 1 rfl).1.trans c69.1, (f94 47 2 rfl).1.trans c69.2.1, (by rw [(f94 47 3 rfl).1]; show (M69.1 47 3).toInt = _; rw [c69.2.2.1, (f55 3 11 rfl).1, (f48 3 11 rfl).1]; exact hW41.1.2.2.1), (f94 47 4 rfl).1.trans c69.2.2.2.1, (f94 47 5 rfl).1.trans c69.2.2.2.2.1, (f94 47 6 rfl).2.trans c69.2.2.2.2.2.1, fun i hi => (by rw [(f94 48 i rfl).1]; show (M69.1 48 i).toInt = _; rw [c69.2.2.2.2.2.2 i (by have := k16.2.1.1; omega), (f55 8 i rfl).1, (f48 8 i rfl).1]; exact hW41.2.1 i hi 4 (by decide)), (f94 0 14 rfl).1.trans rfl⟩)
    · refine pv_then1 ?_
      refine pv_if_ne (pc := 19) 33 (by decide) (fm_dec dtX10_drawer 9 rfl) (fun hc19 => by exfalso; revert hc19; decide) (fun _ => ?_)
      refine pv_aloadn (pc := 22) (n := 0) 0 rfl rfl (fm_dec dtX10_drawer 10 rfl) ?_
      refine pv_getR (k := 0) (j := 0) (ci := 10) (pc := 23) 1 rfl (by decide) pfl_X10_12 (by decide) rfl (by decide) (fm_dec dtX10_drawer 11 rfl) ?_
      refine pv_getI (k := 1) (j := 4) (ci := 7) (pc := 26) pfl_X10_116 (by decide) rfl (by decide) (fm_dec dtX10_drawer 12 rfl) ?_
      refine pv_bipush (pc := 29) (v := 10) (by decide) (fm_dec dtX10_drawer 13 rfl) ?_
      refine pv_isub (pc := 31) (fm_dec dtX10_drawer 14 rfl) ?_
      exact pv_ireturn (pc := 32) rfl (fm_dec dtX10_drawer 15 rfl) (hbad n kb ab Mb _ hn h5 eb (law_r hB.1 (by have h9 : (Mb.1 1 4).toInt ≤ 3 := (hB.2.2.2.2.1 1 4 (by decide)).2; have h8 := hB.1; omega)) hB)
  · refine pv_thenX ?_
    exact hrf h5
theorem z_i : (0 : Int32).toInt = ((0 : Nat) : Int) := by decide
theorem z_k : (0 : Int32).toInt = (0 : Int) := by decide
theorem z_j : (0 : Int64).toInt = (0 : Int) := by decide
/-- the state at the start -/
def st0 (D : dD) : aS := ((0, (D.2.2.2.2 2).toNat, 0, 0, 0, 0), fun i => D.2.1 i 4)
theorem st0_O {D : dD} (hD : dOk D) : stO D (st0 D) := by
  have h2 := hD.2.2.2.2.1
  refine ⟨Nat.zero_le _, ?_, (by show (0 : Nat) < 256; decide), (by show (0 : Nat) + 0 = pop8 0; decide), Int.le_refl _, (by show (0 : Int) ≤ 57024 * ((pop8 0 : Nat) : Int); decide), ⟨fun i hi => ?_, Nat.two_pow_pos _⟩⟩
  · show (D.2.2.2.2 2).toNat ≤ 12
    omega
  · show -1 ≤ D.2.1 i 4 ∧ D.2.1 i 4 ≤ ((0 : Nat) : Int) + 40
    have h9 := (hD.2.2.1 i hi).2.2.2.2.1
    omega
theorem st0_x {M : fmM} {D : dD} (hD : dOk D) (h : stNew M D) : xsA 47 48 M D (st0 D) := by
  have h2 := hD.2.2.2.2.1
  obtain ⟨a, b, c, d, e, f, g, -⟩ := h
  refine ⟨by rw [a]; exact z_i, by rw [b]; exact z_i, ?_, by rw [d]; exact z_i, by rw [e]; exact z_i, by rw [f]; exact z_j, g⟩
  rw [c]
  show D.2.2.2.2 2 = (((D.2.2.2.2 2).toNat : Nat) : Int)
  omega
theorem st0_m {M M' : fmM} {D : dD} (hD : dOk D) (h : sdOk M M' D) : msA (M'.1 7) D (st0 D) := by
  have h2 := hD.2.2.2.2.1
  have d8 := hD.1
  obtain ⟨h7, h9, hz⟩ := h.2.1
  refine ⟨by rw [hz 0 (Or.inl rfl)]; exact z_i, by rw [hz 10 (Or.inr ⟨by decide, by decide⟩)]; exact z_i, ?_, by rw [hz 11 (Or.inr ⟨by decide, by decide⟩)]; exact z_i, by rw [hz 12 (Or.inr ⟨by decide, by decide⟩)]; exact z_i, by rw [hz 13 (Or.inr ⟨by decide, by decide⟩)]; exact z_k, fun i hi => ?_⟩
  · rw [h9]
    show D.2.2.2.2 2 = (((D.2.2.2.2 2).toNat : Nat) : Int)
    omega
  · rw [h7 i (by omega)]
    show _ = if D.2.1 i 4 = -1 then -1000 else ((0 : Nat) : Int) - D.2.1 i 4
    by_cases e : D.2.1 i 4 = -1
    · rw [if_pos e, if_neg (fun h => h.2 e)]
    · rw [if_neg e, if_pos ⟨hi, e⟩]
      omega
theorem rSt_new {M M2 M3 : fmM} {D : dD} (h : dwNew M D) (hs : stNew M D) (h2 : sdOk M3 M2 D) : rSt M M2 D := by
  have e1 : M2.1 0 32 = 0 := h2.2.2.1.2.2.1
  have e2 : M.1 0 13 = 0 := h.2.2.1.1
  have z0 : (0 : Int32).toInt = 0 := by decide
  refine ⟨⟨h.2.2.1.2.trans e1.symm, ⟨st0 D, st0_x h.1 hs, st0_m h.1 h2, st0_O h.1⟩, fun w hw => ?_⟩, e2.trans h2.2.2.1.2.2.2.2.symm, fun i hi => ?_⟩
  · rw [e1, z0] at hw
    omega
  · rw [e2, z0] at hi
    omega
theorem rSt_0 {M M2 : fmM} (hx : xInit M) (hm : mInit M2) : rSt M (m9 M2) dD0 := by
  have e1 : (m9 M2).1 0 32 = 0 := by rw [m9_k (by decide)]; exact hm.2.2.1.2.2.1
  have e2 : M.1 0 13 = 0 := by rw [hx.1 0 (by decide) (by decide)]; rfl
  have e3 : (m9 M2).1 0 34 = 0 := by rw [m9_k (by decide)]; exact hm.2.2.1.2.2.2.2
  have e46 : M.1 46 2 = 0 := by rw [hx.1 46 (by decide) (by decide)]; rfl
  have z0 : (0 : Int32).toInt = 0 := by decide
  have h7 : (m9 M2).1 7 = M2.1 7 := m9_k (by decide)
  refine ⟨⟨e46.trans e1.symm, ⟨st0 dD0, st0_x dOk_0 ⟨hx.2.1, hx.2.2.1, by rw [hx.2.2.2.1]; decide, hx.2.2.2.2.1, hx.2.2.2.2.2.1, hx.2.2.2.2.2.2, fun i h => (by cases h), by rw [hx.1 0 (by decide) (by decide)]; rfl⟩, by rw [h7]; exact st0_m dOk_0 hm, st0_O dOk_0⟩, fun w hw => ?_⟩, e2.trans e3.symm, fun i hi => ?_⟩
  · rw [e1, z0] at hw
    omega
  · rw [e2, z0] at hi
    omega
end
