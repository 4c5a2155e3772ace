-- WOULD, exactly
theorem lwR_cong {kn kn' : Nat → Int32} {B : Nat} (hk : ∀ j, j ≤ 4 → kn j = kn' j) : ∀ (cs : tC) (d : Nat) (st st' : Nat → Int32), dpB B d cs = some 1 → (∀ j, j < d → st j = st' j) → lwR kn cs d st = lwR kn' cs d st'
  | [], d, st, st', h, hs => by
    cases h
    exact hs 0 (by decide)
  | c :: cs, d, st, st', h, hs => by
    simp only [dpB] at h
    simp only [lwR]
    split at h
    · rename_i h2
      split at h
      · rename_i hg
        rw [if_pos h2, if_pos h2]
        refine lwR_cong hk cs (d + 1) _ _ h (fun j hj => ?_)
        by_cases e : j = d
        · simp only [e, if_true]
          by_cases e0 : c.1 = 0
          · rw [if_pos e0, if_pos e0]
          · rw [if_neg e0, if_neg e0]
            exact hk _ (by omega)
        · simp only [e, if_false]
          exact hs j (by omega)
      · cases h
    · rename_i h2
      split at h
      · rename_i hg
        rw [if_neg h2, if_neg h2]
        refine lwR_cong hk cs (d - 1) _ _ h (fun j hj => ?_)
        by_cases e : j = d - 2
        · simp only [e, if_true]
          rw [hs (d - 2) (by omega), hs (d - 1) (by omega)]
        · simp only [e, if_false]
          exact hs j (by omega)
      · cases h
/-- codes as they stand here: of no law, twice the age -/
def xcs (cs : tC) : tC := if cs = [] then [(1, 0), (1, 0), (2, 0)] else cs
def lwX (M : fmM) (cs : tC) : Prop := (M.1 23 3).toInt = ((xcs cs).length : Int) ∧ (xcs cs).length ≤ 150 ∧ (∀ i c, (xcs cs)[i]? = some c → (M.1 24 i).toInt = cdV c) ∧ dpB 23 0 (xcs cs) = some 1
def lwM (M : fmM) (cs : tC) : Prop := (M.1 0 17).toInt = (cs.length : Int) ∧ cs.length ≤ 160 ∧ (cs = [] ∨ dpR 0 cs = some 1) ∧ lwHas M.1 91 cs
/-- what a law says -/
def lwV (cs : tC) (a b c d e : Int32) : Int32 := outV (lwR (knF a b c d e) (xcs cs) 0 (fun _ => 0))
def wdP (a b c d e : Int32) : Prop := inW a 0 200 ∧ inW b 0 200 ∧ inW c 1 99 ∧ inW d 0 1 ∧ inW e 0 24
theorem c_xlw {M : fmM} {Q : fmR → fmM → Prop} {cs : tC} {a b c d e : Int32} (h : lwX M cs) (hq : ∀ M' : fmM, (∀ k j, k ≠ 26 → M'.1 k j = M.1 k j) → M'.2 = M.2 → Q (.inl (some (.int (lwV cs a b c d e)))) M') : pvGood Tx 1 qX1_outcome [.ref 23, .int a, .int b, .int c, .int d, .int e] M Q := c_xout h.1 h.2.1 h.2.2.1 h.2.2.2 (fun M' h1 h2 => by
  rw [lwR_cong (fun _ _ => rfl) (xcs cs) 0 (M.1 26) (fun _ => 0) h.2.2.2 (fun j hj => absurd hj (Nat.not_lt_zero j))]
  exact hq M' h1 h2)
set_option maxRecDepth 20000 in
theorem c_xwould {M : fmM} {Q : fmR → fmM → Prop} {cs : tC} {a b c d e : Int32} (hL : lwX M cs) (ht : wdP a b c d e → ∀ M' : fmM, (∀ k j, k ≠ 26 → M'.1 k j = M.1 k j) → M'.2 = M.2 → Q (.inl (some (.int (lwV cs a b c d e)))) M') (hf : ¬ wdP a b c d e → Q (.inr fmIAE) (fmI M 0 16 (M.1 0 16 + 1))) : pvGood Tx 2 qX10_would [.ref 0, .int a, .int b, .int c, .int d, .int e] M Q := by
  refine pvGood_of (Nat.le_of_ble_eq_true rfl) ?_
  show pvEv Tx 2 qX10_would 0 [some (.ref 0), some (.int a), some (.int b), some (.int c), some (.int d), some (.int e)] [] M Q
  refine pv_aloadn (pc := 0) (n := 0) 0 rfl rfl (fm_dec dtX10_would 0 rfl) ?_
  refine pv_iloadn (pc := 1) (n := 1) 1 rfl rfl (fm_dec dtX10_would 1 rfl) ?_
  refine pv_iconst (pc := 2) (v := 0) (by decide) (fm_dec dtX10_would 2 rfl) ?_
  refine pv_sipush (pc := 3) (v := 200) (by decide) (fm_dec dtX10_would 3 rfl) ?_
  refine pv_invV3 (k := 0) (d' := 0) (pc := 6) pcv_X10_169 (by decide) rfl (Nat.le_of_ble_eq_true rfl) (by decide) (fm_dec dtX10_would 4 rfl) ?_
  refine c_needW (fun h6a h6b => ?_) (fun h6 => ?_)
  · refine pv_then0 ?_
    refine pv_aloadn (pc := 9) (n := 0) 0 rfl rfl (fm_dec dtX10_would 5 rfl) ?_
    refine pv_iloadn (pc := 10) (n := 2) 2 rfl rfl (fm_dec dtX10_would 6 rfl) ?_
    refine pv_iconst (pc := 11) (v := 0) (by decide) (fm_dec dtX10_would 7 rfl) ?_
    refine pv_sipush (pc := 12) (v := 200) (by decide) (fm_dec dtX10_would 8 rfl) ?_
    refine pv_invV3 (k := 0) (d' := 0) (pc := 15) pcv_X10_169 (by decide) rfl (Nat.le_of_ble_eq_true rfl) (by decide) (fm_dec dtX10_would 9 rfl) ?_
    refine c_needW (fun h15a h15b => ?_) (fun h15 => ?_)
    · refine pv_then0 ?_
      refine pv_aloadn (pc := 18) (n := 0) 0 rfl rfl (fm_dec dtX10_would 10 rfl) ?_
      refine pv_iloadn (pc := 19) (n := 3) 3 rfl rfl (fm_dec dtX10_would 11 rfl) ?_
      refine pv_iconst (pc := 20) (v := 1) (by decide) (fm_dec dtX10_would 12 rfl) ?_
      refine pv_bipush (pc := 21) (v := 99) (by decide) (fm_dec dtX10_would 13 rfl) ?_
      refine pv_invV3 (k := 0) (d' := 0) (pc := 23) pcv_X10_169 (by decide) rfl (Nat.le_of_ble_eq_true rfl) (by decide) (fm_dec dtX10_would 14 rfl) ?_
      refine c_needW (fun h23a h23b => ?_) (fun h23 => ?_)
      · refine pv_then0 ?_
        refine pv_aloadn (pc := 26) (n := 0) 0 rfl rfl (fm_dec dtX10_would 15 rfl) ?_
        refine pv_iload (pc := 27) (i := 4) rfl (fm_dec dtX10_would 16 rfl) ?_
        refine pv_iconst (pc := 29) (v := 0) (by decide) (fm_dec dtX10_would 17 rfl) ?_
        refine pv_iconst (pc := 30) (v := 1) (by decide) (fm_dec dtX10_would 18 rfl) ?_
        refine pv_invV3 (k := 0) (d' := 0) (pc := 31) pcv_X10_169 (by decide) rfl (Nat.le_of_ble_eq_true rfl) (by decide) (fm_dec dtX10_would 19 rfl) ?_
        refine c_needW (fun h31a h31b => ?_) (fun h31 => ?_)
        · refine pv_then0 ?_
          refine pv_aloadn (pc := 34) (n := 0) 0 rfl rfl (fm_dec dtX10_would 20 rfl) ?_
          refine pv_iload (pc := 35) (i := 5) rfl (fm_dec dtX10_would 21 rfl) ?_
          refine pv_iconst (pc := 37) (v := 0) (by decide) (fm_dec dtX10_would 22 rfl) ?_
          refine pv_bipush (pc := 38) (v := 24) (by decide) (fm_dec dtX10_would 23 rfl) ?_
          refine pv_invV3 (k := 0) (d' := 0) (pc := 40) pcv_X10_169 (by decide) rfl (Nat.le_of_ble_eq_true rfl) (by decide) (fm_dec dtX10_would 24 rfl) ?_
          refine c_needW (fun h40a h40b => ?_) (fun h40 => ?_)
          · refine pv_then0 ?_
            refine pv_aloadn (pc := 43) (n := 0) 0 rfl rfl (fm_dec dtX10_would 25 rfl) ?_
            refine pv_getR (k := 0) (j := 3) (ci := 10) (pc := 44) 23 rfl (by decide) pfl_X10_29 (by decide) rfl (by decide) (fm_dec dtX10_would 26 rfl) ?_
            refine pv_iloadn (pc := 47) (n := 1) 1 rfl rfl (fm_dec dtX10_would 27 rfl) ?_
            refine pv_iloadn (pc := 48) (n := 2) 2 rfl rfl (fm_dec dtX10_would 28 rfl) ?_
            refine pv_iloadn (pc := 49) (n := 3) 3 rfl rfl (fm_dec dtX10_would 29 rfl) ?_
            refine pv_iload (pc := 50) (i := 4) rfl (fm_dec dtX10_would 30 rfl) ?_
            refine pv_iload (pc := 52) (i := 5) rfl (fm_dec dtX10_would 31 rfl) ?_
            refine pv_invV5 (k := 23) (d' := 1) (pc := 54) pcv_X10_233 (by decide) rfl (Nat.le_of_ble_eq_true rfl) (by decide) (fm_dec dtX10_would 32 rfl) ?_
            refine c_xlw hL (fun M54 g54 h54 => ?_)
            refine pv_then1 ?_
            exact pv_ireturn (pc := 57) rfl (fm_dec dtX10_would 33 rfl) (ht ⟨⟨h6a, h6b⟩, ⟨h15a, h15b⟩, ⟨h23a, h23b⟩, ⟨h31a, h31b⟩, ⟨h40a, h40b⟩⟩ M54 g54 h54)
          · refine pv_thenX ?_
            exact hf (fun h9 => h40 (by first | exact h9.1 | exact h9.2.1 | exact h9.2.2.1 | exact h9.2.2.2.1 | exact h9.2.2.2.2))
        · refine pv_thenX ?_
          exact hf (fun h9 => h31 (by first | exact h9.1 | exact h9.2.1 | exact h9.2.2.1 | exact h9.2.2.2.1 | exact h9.2.2.2.2))
      · refine pv_thenX ?_
        exact hf (fun h9 => h23 (by first | exact h9.1 | exact h9.2.1 | exact h9.2.2.1 | exact h9.2.2.2.1 | exact h9.2.2.2.2))
    · refine pv_thenX ?_
      exact hf (fun h9 => h15 (by first | exact h9.1 | exact h9.2.1 | exact h9.2.2.1 | exact h9.2.2.2.1 | exact h9.2.2.2.2))
  · refine pv_thenX ?_
    exact hf (fun h9 => h6 (by first | exact h9.1 | exact h9.2.1 | exact h9.2.2.1 | exact h9.2.2.2.1 | exact h9.2.2.2.2))
def knM (M : fmM) (a b c d e : Int32) : fmM := (fmI (fmI (fmI (fmI (fmI M 6 0 a) 6 1 b) 6 2 c) 6 3 d) 6 4 e)
theorem lw_val {M : fmM} {cs : tC} {a b c d e : Int32} {st : Nat → Int32} (hd : cs = [] ∨ dpB 23 0 cs = some 1) : outV (if cs = [] then (knM M a b c d e).1 6 0 + (knM M a b c d e).1 6 0 else lwR ((knM M a b c d e).1 6) cs 0 st) = lwV cs a b c d e := by
  unfold lwV xcs
  by_cases e0 : cs = []
  · rw [if_pos e0, if_pos e0]
    rfl
  · rw [if_neg e0, if_neg e0]
    rcases hd with h | h
    · exact absurd h e0
    · rw [lwR_cong (kn' := knF a b c d e) (fun j hj => ?_) cs 0 st (fun _ => 0) h (fun j hj => absurd hj (Nat.not_lt_zero j))]
      rcases (show j = 0 ∨ j = 1 ∨ j = 2 ∨ j = 3 ∨ j = 4 by omega) with rfl | rfl | rfl | rfl | rfl <;> rfl
theorem lwM.kn {M : fmM} {cs : tC} {a b c d e : Int32} (h : lwM M cs) : lwM (knM M a b c d e) cs := ⟨h.1, h.2.1, h.2.2.1, h.2.2.2.fr (fun k j hk => by unfold knM; rw [fmI_k _ _ (by omega), fmI_k _ _ (by omega), fmI_k _ _ (by omega), fmI_k _ _ (by omega), fmI_k _ _ (by omega)])⟩
set_option maxRecDepth 20000 in
theorem c_mlw {M : fmM} {Q : fmR → fmM → Prop} {cs : tC} {a b c d e : Int32} (hL : lwM M cs) (hd : cs = [] ∨ dpB 23 0 cs = some 1) (hq : ∀ M' : fmM, (∀ k j, k ≠ 5 → k ≠ 6 → M'.1 k j = M.1 k j) → M'.2 = M.2 → Q (.inl (some (.int (lwV cs a b c d e)))) M') : pvGood Tm 4 qX11_wrongBy [.ref 0, .int a, .int b, .int c, .int d, .int e] M Q := by
  refine pvGood_of (Nat.le_of_ble_eq_true rfl) ?_
  show pvEv Tm 4 qX11_wrongBy 0 [some (.ref 0), some (.int a), some (.int b), some (.int c), some (.int d), some (.int e)] [] M Q
  refine pv_aloadn (pc := 0) (n := 0) 0 rfl rfl (fm_dec dtX11_wrongBy 0 rfl) ?_
  refine pv_getR (k := 0) (j := 24) (ci := 11) (pc := 1) 6 rfl (by decide) pfl_X11_55 (by decide) rfl (by decide) (fm_dec dtX11_wrongBy 1 rfl) ?_
  refine pv_iconst (pc := 4) (v := 0) (by decide) (fm_dec dtX11_wrongBy 2 rfl) ?_
  refine pv_iloadn (pc := 5) (n := 1) 1 rfl rfl (fm_dec dtX11_wrongBy 3 rfl) ?_
  refine pv_iast (k := 6) (n := 5) (pc := 6) (by decide) rfl rfl (fm_inl (by decide)) (fm_dec dtX11_wrongBy 4 rfl) ?_
  refine pv_aloadn (pc := 7) (n := 0) 0 rfl rfl (fm_dec dtX11_wrongBy 5 rfl) ?_
  refine pv_getR (k := 0) (j := 24) (ci := 11) (pc := 8) 6 rfl (by decide) pfl_X11_55 (by decide) rfl (by decide) (fm_dec dtX11_wrongBy 6 rfl) ?_
  refine pv_iconst (pc := 11) (v := 1) (by decide) (fm_dec dtX11_wrongBy 7 rfl) ?_
  refine pv_iloadn (pc := 12) (n := 2) 2 rfl rfl (fm_dec dtX11_wrongBy 8 rfl) ?_
  refine pv_iast (k := 6) (n := 5) (pc := 13) (by decide) rfl rfl (fm_inl (by decide)) (fm_dec dtX11_wrongBy 9 rfl) ?_
  refine pv_aloadn (pc := 14) (n := 0) 0 rfl rfl (fm_dec dtX11_wrongBy 10 rfl) ?_
  refine pv_getR (k := 0) (j := 24) (ci := 11) (pc := 15) 6 rfl (by decide) pfl_X11_55 (by decide) rfl (by decide) (fm_dec dtX11_wrongBy 11 rfl) ?_
  refine pv_iconst (pc := 18) (v := 2) (by decide) (fm_dec dtX11_wrongBy 12 rfl) ?_
  refine pv_iloadn (pc := 19) (n := 3) 3 rfl rfl (fm_dec dtX11_wrongBy 13 rfl) ?_
  refine pv_iast (k := 6) (n := 5) (pc := 20) (by decide) rfl rfl (fm_inl (by decide)) (fm_dec dtX11_wrongBy 14 rfl) ?_
  refine pv_aloadn (pc := 21) (n := 0) 0 rfl rfl (fm_dec dtX11_wrongBy 15 rfl) ?_
  refine pv_getR (k := 0) (j := 24) (ci := 11) (pc := 22) 6 rfl (by decide) pfl_X11_55 (by decide) rfl (by decide) (fm_dec dtX11_wrongBy 16 rfl) ?_
  refine pv_iconst (pc := 25) (v := 3) (by decide) (fm_dec dtX11_wrongBy 17 rfl) ?_
  refine pv_iload (pc := 26) (i := 4) rfl (fm_dec dtX11_wrongBy 18 rfl) ?_
  refine pv_iast (k := 6) (n := 5) (pc := 28) (by decide) rfl rfl (fm_inl (by decide)) (fm_dec dtX11_wrongBy 19 rfl) ?_
  refine pv_aloadn (pc := 29) (n := 0) 0 rfl rfl (fm_dec dtX11_wrongBy 20 rfl) ?_
  refine pv_getR (k := 0) (j := 24) (ci := 11) (pc := 30) 6 rfl (by decide) pfl_X11_55 (by decide) rfl (by decide) (fm_dec dtX11_wrongBy 21 rfl) ?_
  refine pv_iconst (pc := 33) (v := 4) (by decide) (fm_dec dtX11_wrongBy 22 rfl) ?_
  refine pv_iload (pc := 34) (i := 5) rfl (fm_dec dtX11_wrongBy 23 rfl) ?_
  refine pv_iast (k := 6) (n := 5) (pc := 36) (by decide) rfl rfl (fm_inl (by decide)) (fm_dec dtX11_wrongBy 24 rfl) ?_
  refine pv_iconst (pc := 37) (v := 0) (by decide) (fm_dec dtX11_wrongBy 25 rfl) ?_
  refine pv_bipush (pc := 38) (v := 64) (by decide) (fm_dec dtX11_wrongBy 26 rfl) ?_
  refine pv_aloadn (pc := 40) (n := 0) 0 rfl rfl (fm_dec dtX11_wrongBy 27 rfl) ?_
  refine pv_invV0 (k := 0) (d' := 3) (pc := 41) pcv_X11_260 (by decide) rfl (Nat.le_of_ble_eq_true rfl) (by decide) (fm_dec dtX11_wrongBy 28 rfl) ?_
  refine c_byLaw (M := knM M a b c d e) (hL.kn (a := a) (b := b) (c := c) (d := d) (e := e)).1 (hL.kn (a := a) (b := b) (c := c) (d := d) (e := e)).2.1 (hL.kn (a := a) (b := b) (c := c) (d := d) (e := e)).2.2.1 (hL.kn (a := a) (b := b) (c := c) (d := d) (e := e)).2.2.2 (fun M41 g41 h41 => ?_)
  refine pv_then1 ?_
  refine pv_mm (pc := 44) pmm_X11_237 (by decide) (Nat.le_of_ble_eq_true rfl) (fm_dec dtX11_wrongBy 29 rfl) ?_
  refine pv_mm (pc := 47) pmm_X11_240 (by decide) (Nat.le_of_ble_eq_true rfl) (fm_dec dtX11_wrongBy 30 rfl) ?_
  exact pv_ireturn (pc := 50) rfl (fm_dec dtX11_wrongBy 31 rfl) (by have h9 := hq M41 (fun k j a1 a2 => ?_) h41; rw [← lw_val (M := M) (st := (knM M a b c d e).1 5) hd] at h9; exact h9; rw [g41 k j (fun h8 => a1 h8.1)]; unfold knM; rw [fmI_k _ _ a2, fmI_k _ _ a2, fmI_k _ _ a2, fmI_k _ _ a2, fmI_k _ _ a2])
set_option maxRecDepth 20000 in
theorem c_mwould {M : fmM} {Q : fmR → fmM → Prop} {cs : tC} {a b c d e : Int32} (hL : lwM M cs) (hd : cs = [] ∨ dpB 23 0 cs = some 1) (ht : wdP a b c d e → ∀ M' : fmM, (∀ k j, k ≠ 5 → k ≠ 6 → M'.1 k j = (fmI M 0 0 0).1 k j) → M'.2 = M.2 → Q (.inl (some (.int (lwV cs a b c d e)))) M') (hf : ¬ wdP a b c d e → ∀ M' : fmM, M'.1 0 0 = 1 → Q (.inl (some (.int 0))) M') : pvGood Tm 5 qX11_would [.ref 0, .int a, .int b, .int c, .int d, .int e] M Q := by
  refine pvGood_of (Nat.le_of_ble_eq_true rfl) ?_
  show pvEv Tm 5 qX11_would 0 [some (.ref 0), some (.int a), some (.int b), some (.int c), some (.int d), some (.int e)] [] M Q
  refine pv_aloadn (pc := 0) (n := 0) 0 rfl rfl (fm_dec dtX11_would 0 rfl) ?_
  refine pv_iconst (pc := 1) (v := 0) (by decide) (fm_dec dtX11_would 1 rfl) ?_
  refine pv_putI (k := 0) (j := 0) (ci := 11) (pc := 2) pfl_X11_101 (by decide) rfl (by decide) (fm_dec dtX11_would 2 rfl) ?_
  refine pv_aloadn (pc := 5) (n := 0) 0 rfl rfl (fm_dec dtX11_would 3 rfl) ?_
  refine pv_iloadn (pc := 6) (n := 1) 1 rfl rfl (fm_dec dtX11_would 4 rfl) ?_
  refine pv_iconst (pc := 7) (v := 0) (by decide) (fm_dec dtX11_would 5 rfl) ?_
  refine pv_sipush (pc := 8) (v := 200) (by decide) (fm_dec dtX11_would 6 rfl) ?_
  refine pv_iS3 (d' := 0) (pc := 11) pcs_X11_135 (Nat.le_of_ble_eq_true rfl) (by decide) (fm_dec dtX11_would 7 rfl) ?_
  refine c_in (fun h11a h11b => ?_) (fun h11 => ?_)
  · refine pv_then1 ?_
    refine pv_if_eq (pc := 14) 59 (by decide) (fm_dec dtX11_would 8 rfl) (fun hc14 => by exfalso; revert hc14; decide) (fun _ => ?_)
    refine pv_iloadn (pc := 17) (n := 2) 2 rfl rfl (fm_dec dtX11_would 9 rfl) ?_
    refine pv_iconst (pc := 18) (v := 0) (by decide) (fm_dec dtX11_would 10 rfl) ?_
    refine pv_sipush (pc := 19) (v := 200) (by decide) (fm_dec dtX11_would 11 rfl) ?_
    refine pv_iS3 (d' := 0) (pc := 22) pcs_X11_135 (Nat.le_of_ble_eq_true rfl) (by decide) (fm_dec dtX11_would 12 rfl) ?_
    refine c_in (fun h22a h22b => ?_) (fun h22 => ?_)
    · refine pv_then1 ?_
      refine pv_if_eq (pc := 25) 59 (by decide) (fm_dec dtX11_would 13 rfl) (fun hc25 => by exfalso; revert hc25; decide) (fun _ => ?_)
      refine pv_iloadn (pc := 28) (n := 3) 3 rfl rfl (fm_dec dtX11_would 14 rfl) ?_
      refine pv_iconst (pc := 29) (v := 1) (by decide) (fm_dec dtX11_would 15 rfl) ?_
      refine pv_bipush (pc := 30) (v := 99) (by decide) (fm_dec dtX11_would 16 rfl) ?_
      refine pv_iS3 (d' := 0) (pc := 32) pcs_X11_135 (Nat.le_of_ble_eq_true rfl) (by decide) (fm_dec dtX11_would 17 rfl) ?_
      refine c_in (fun h32a h32b => ?_) (fun h32 => ?_)
      · refine pv_then1 ?_
        refine pv_if_eq (pc := 35) 59 (by decide) (fm_dec dtX11_would 18 rfl) (fun hc35 => by exfalso; revert hc35; decide) (fun _ => ?_)
        refine pv_iload (pc := 38) (i := 4) rfl (fm_dec dtX11_would 19 rfl) ?_
        refine pv_iconst (pc := 40) (v := 0) (by decide) (fm_dec dtX11_would 20 rfl) ?_
        refine pv_iconst (pc := 41) (v := 1) (by decide) (fm_dec dtX11_would 21 rfl) ?_
        refine pv_iS3 (d' := 0) (pc := 42) pcs_X11_135 (Nat.le_of_ble_eq_true rfl) (by decide) (fm_dec dtX11_would 22 rfl) ?_
        refine c_in (fun h42a h42b => ?_) (fun h42 => ?_)
        · refine pv_then1 ?_
          refine pv_if_eq (pc := 45) 59 (by decide) (fm_dec dtX11_would 23 rfl) (fun hc45 => by exfalso; revert hc45; decide) (fun _ => ?_)
          refine pv_iload (pc := 48) (i := 5) rfl (fm_dec dtX11_would 24 rfl) ?_
          refine pv_iconst (pc := 50) (v := 0) (by decide) (fm_dec dtX11_would 25 rfl) ?_
          refine pv_bipush (pc := 51) (v := 24) (by decide) (fm_dec dtX11_would 26 rfl) ?_
          refine pv_iS3 (d' := 0) (pc := 53) pcs_X11_135 (Nat.le_of_ble_eq_true rfl) (by decide) (fm_dec dtX11_would 27 rfl) ?_
          refine c_in (fun h53a h53b => ?_) (fun h53 => ?_)
          · refine pv_then1 ?_
            refine pv_if_ne (pc := 56) 63 (by decide) (fm_dec dtX11_would 28 rfl) (fun _ => ?_) (fun hc56 => by exfalso; revert hc56; decide)
            refine pv_iconst (pc := 63) (v := 0) (by decide) (fm_dec dtX11_would 31 rfl) ?_
            refine pv_iconst (pc := 64) (v := 1) (by decide) (fm_dec dtX11_would 32 rfl) ?_
            refine pv_iconst (pc := 65) (v := 1) (by decide) (fm_dec dtX11_would 33 rfl) ?_
            refine pv_invV3 (k := 0) (d' := 0) (pc := 66) pcv_X11_177 (by decide) rfl (Nat.le_of_ble_eq_true rfl) (by decide) (fm_dec dtX11_would 34 rfl) ?_
            refine c_badF1 rfl ?_
            refine pv_then1 ?_
            refine pv_if_eq (pc := 69) 74 (by decide) (fm_dec dtX11_would 35 rfl) (fun _ => ?_) (fun hc69 => by exfalso; revert hc69; decide)
            refine pv_aloadn (pc := 74) (n := 0) 0 rfl rfl (fm_dec dtX11_would 38 rfl) ?_
            refine pv_iloadn (pc := 75) (n := 1) 1 rfl rfl (fm_dec dtX11_would 39 rfl) ?_
            refine pv_iloadn (pc := 76) (n := 2) 2 rfl rfl (fm_dec dtX11_would 40 rfl) ?_
            refine pv_iloadn (pc := 77) (n := 3) 3 rfl rfl (fm_dec dtX11_would 41 rfl) ?_
            refine pv_iload (pc := 78) (i := 4) rfl (fm_dec dtX11_would 42 rfl) ?_
            refine pv_iload (pc := 80) (i := 5) rfl (fm_dec dtX11_would 43 rfl) ?_
            refine pv_invV5 (k := 0) (d' := 4) (pc := 82) pcv_X11_273 (by decide) rfl (Nat.le_of_ble_eq_true rfl) (by decide) (fm_dec dtX11_would 44 rfl) ?_
            refine c_mlw (M := fmI M 0 0 0) ⟨hL.1, hL.2.1, hL.2.2.1, hL.2.2.2.fr (fun k j hk => by rw [fmI_k _ _ (by omega)])⟩ hd (fun M82 g82 h82 => ?_)
            refine pv_then1 ?_
            exact pv_ireturn (pc := 85) rfl (fm_dec dtX11_would 45 rfl) (ht ⟨⟨h11a, h11b⟩, ⟨h22a, h22b⟩, ⟨h32a, h32b⟩, ⟨h42a, h42b⟩, ⟨h53a, h53b⟩⟩ M82 g82 h82)
          · refine pv_then1 ?_
            refine pv_if_ne (pc := 56) 63 (by decide) (fm_dec dtX11_would 28 rfl) (fun hc56 => by exfalso; revert hc56; decide) (fun _ => ?_)
            refine pv_iconst (pc := 59) (v := 1) (by decide) (fm_dec dtX11_would 29 rfl) ?_
            refine pv_goto (pc := 60) 64 (by decide) (fm_dec dtX11_would 30 rfl) ?_
            refine pv_iconst (pc := 64) (v := 1) (by decide) (fm_dec dtX11_would 32 rfl) ?_
            refine pv_iconst (pc := 65) (v := 1) (by decide) (fm_dec dtX11_would 33 rfl) ?_
            refine pv_invV3 (k := 0) (d' := 0) (pc := 66) pcv_X11_177 (by decide) rfl (Nat.le_of_ble_eq_true rfl) (by decide) (fm_dec dtX11_would 34 rfl) ?_
            refine c_badT1 rfl (by decide) ?_
            refine pv_then1 ?_
            refine pv_if_eq (pc := 69) 74 (by decide) (fm_dec dtX11_would 35 rfl) (fun hc69 => by exfalso; revert hc69; decide) (fun _ => ?_)
            refine pv_iconst (pc := 72) (v := 0) (by decide) (fm_dec dtX11_would 36 rfl) ?_
            exact pv_ireturn (pc := 73) rfl (fm_dec dtX11_would 37 rfl) (hf (by intro h9; first | exact h53 h9.2.2.2.2 | exact h42 h9.2.2.2.1 | exact h32 h9.2.2.1 | exact h22 h9.2.1 | exact h11 h9.1) _ rfl)
        · refine pv_then1 ?_
          refine pv_if_eq (pc := 45) 59 (by decide) (fm_dec dtX11_would 23 rfl) (fun _ => ?_) (fun hc45 => by exfalso; revert hc45; decide)
          refine pv_iconst (pc := 59) (v := 1) (by decide) (fm_dec dtX11_would 29 rfl) ?_
          refine pv_goto (pc := 60) 64 (by decide) (fm_dec dtX11_would 30 rfl) ?_
          refine pv_iconst (pc := 64) (v := 1) (by decide) (fm_dec dtX11_would 32 rfl) ?_
          refine pv_iconst (pc := 65) (v := 1) (by decide) (fm_dec dtX11_would 33 rfl) ?_
          refine pv_invV3 (k := 0) (d' := 0) (pc := 66) pcv_X11_177 (by decide) rfl (Nat.le_of_ble_eq_true rfl) (by decide) (fm_dec dtX11_would 34 rfl) ?_
          refine c_badT1 rfl (by decide) ?_
          refine pv_then1 ?_
          refine pv_if_eq (pc := 69) 74 (by decide) (fm_dec dtX11_would 35 rfl) (fun hc69 => by exfalso; revert hc69; decide) (fun _ => ?_)
          refine pv_iconst (pc := 72) (v := 0) (by decide) (fm_dec dtX11_would 36 rfl) ?_
          exact pv_ireturn (pc := 73) rfl (fm_dec dtX11_would 37 rfl) (hf (by intro h9; first | exact h53 h9.2.2.2.2 | exact h42 h9.2.2.2.1 | exact h32 h9.2.2.1 | exact h22 h9.2.1 | exact h11 h9.1) _ rfl)
      · refine pv_then1 ?_
        refine pv_if_eq (pc := 35) 59 (by decide) (fm_dec dtX11_would 18 rfl) (fun _ => ?_) (fun hc35 => by exfalso; revert hc35; decide)
        refine pv_iconst (pc := 59) (v := 1) (by decide) (fm_dec dtX11_would 29 rfl) ?_
        refine pv_goto (pc := 60) 64 (by decide) (fm_dec dtX11_would 30 rfl) ?_
        refine pv_iconst (pc := 64) (v := 1) (by decide) (fm_dec dtX11_would 32 rfl) ?_
        refine pv_iconst (pc := 65) (v := 1) (by decide) (fm_dec dtX11_would 33 rfl) ?_
        refine pv_invV3 (k := 0) (d' := 0) (pc := 66) pcv_X11_177 (by decide) rfl (Nat.le_of_ble_eq_true rfl) (by decide) (fm_dec dtX11_would 34 rfl) ?_
        refine c_badT1 rfl (by decide) ?_
        refine pv_then1 ?_
        refine pv_if_eq (pc := 69) 74 (by decide) (fm_dec dtX11_would 35 rfl) (fun hc69 => by exfalso; revert hc69; decide) (fun _ => ?_)
        refine pv_iconst (pc := 72) (v := 0) (by decide) (fm_dec dtX11_would 36 rfl) ?_
        exact pv_ireturn (pc := 73) rfl (fm_dec dtX11_would 37 rfl) (hf (by intro h9; first | exact h53 h9.2.2.2.2 | exact h42 h9.2.2.2.1 | exact h32 h9.2.2.1 | exact h22 h9.2.1 | exact h11 h9.1) _ rfl)
    · refine pv_then1 ?_
      refine pv_if_eq (pc := 25) 59 (by decide) (fm_dec dtX11_would 13 rfl) (fun _ => ?_) (fun hc25 => by exfalso; revert hc25; decide)
      refine pv_iconst (pc := 59) (v := 1) (by decide) (fm_dec dtX11_would 29 rfl) ?_
      refine pv_goto (pc := 60) 64 (by decide) (fm_dec dtX11_would 30 rfl) ?_
      refine pv_iconst (pc := 64) (v := 1) (by decide) (fm_dec dtX11_would 32 rfl) ?_
      refine pv_iconst (pc := 65) (v := 1) (by decide) (fm_dec dtX11_would 33 rfl) ?_
      refine pv_invV3 (k := 0) (d' := 0) (pc := 66) pcv_X11_177 (by decide) rfl (Nat.le_of_ble_eq_true rfl) (by decide) (fm_dec dtX11_would 34 rfl) ?_
      refine c_badT1 rfl (by decide) ?_
      refine pv_then1 ?_
      refine pv_if_eq (pc := 69) 74 (by decide) (fm_dec dtX11_would 35 rfl) (fun hc69 => by exfalso; revert hc69; decide) (fun _ => ?_)
      refine pv_iconst (pc := 72) (v := 0) (by decide) (fm_dec dtX11_would 36 rfl) ?_
      exact pv_ireturn (pc := 73) rfl (fm_dec dtX11_would 37 rfl) (hf (by intro h9; first | exact h53 h9.2.2.2.2 | exact h42 h9.2.2.2.1 | exact h32 h9.2.2.1 | exact h22 h9.2.1 | exact h11 h9.1) _ rfl)
  · refine pv_then1 ?_
    refine pv_if_eq (pc := 14) 59 (by decide) (fm_dec dtX11_would 8 rfl) (fun _ => ?_) (fun hc14 => by exfalso; revert hc14; decide)
    refine pv_iconst (pc := 59) (v := 1) (by decide) (fm_dec dtX11_would 29 rfl) ?_
    refine pv_goto (pc := 60) 64 (by decide) (fm_dec dtX11_would 30 rfl) ?_
    refine pv_iconst (pc := 64) (v := 1) (by decide) (fm_dec dtX11_would 32 rfl) ?_
    refine pv_iconst (pc := 65) (v := 1) (by decide) (fm_dec dtX11_would 33 rfl) ?_
    refine pv_invV3 (k := 0) (d' := 0) (pc := 66) pcv_X11_177 (by decide) rfl (Nat.le_of_ble_eq_true rfl) (by decide) (fm_dec dtX11_would 34 rfl) ?_
    refine c_badT1 rfl (by decide) ?_
    refine pv_then1 ?_
    refine pv_if_eq (pc := 69) 74 (by decide) (fm_dec dtX11_would 35 rfl) (fun hc69 => by exfalso; revert hc69; decide) (fun _ => ?_)
    refine pv_iconst (pc := 72) (v := 0) (by decide) (fm_dec dtX11_would 36 rfl) ?_
    exact pv_ireturn (pc := 73) rfl (fm_dec dtX11_would 37 rfl) (hf (by intro h9; first | exact h53 h9.2.2.2.2 | exact h42 h9.2.2.2.1 | exact h32 h9.2.2.1 | exact h22 h9.2.1 | exact h11 h9.1) _ rfl)
theorem xe_would {M : fmM} {a0 a1 a2 a3 a4 : Int32} {cs : tC} (hX : lwX M cs) : pvGood Tx 250 qX10_would [.ref 0, .int a0, .int a1, .int a2, .int a3, .int a4] M (fun r _ => (wdP a0 a1 a2 a3 a4 ∧ r = .inl (some (.int (lwV cs a0 a1 a2 a3 a4)))) ∨ (¬ wdP a0 a1 a2 a3 a4 ∧ r = .inr fmIAE)) := (c_xwould hX (fun h M' _ _ => Or.inl ⟨h, rfl⟩) (fun h => Or.inr ⟨h, rfl⟩)).up (by decide)
theorem me_would {M : fmM} {a0 a1 a2 a3 a4 : Int32} {cs : tC} (hY : lwM M cs) (hd : cs = [] ∨ dpB 23 0 cs = some 1) : pvGood Tm 250 qX11_would [.ref 0, .int a0, .int a1, .int a2, .int a3, .int a4] M (fun r M' => (wdP a0 a1 a2 a3 a4 ∧ r = .inl (some (.int (lwV cs a0 a1 a2 a3 a4))) ∧ M'.1 0 0 = 0) ∨ (¬ wdP a0 a1 a2 a3 a4 ∧ M'.1 0 0 = 1)) := (c_mwould hY hd (fun h M' g _ => Or.inl ⟨h, rfl, (g 0 0 (by decide) (by decide)).trans rfl⟩) (fun h M' e => Or.inr ⟨h, e⟩)).up (by decide)
