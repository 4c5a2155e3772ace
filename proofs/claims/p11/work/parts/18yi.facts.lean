set_option maxRecDepth 20000 in
theorem c_xfacts {M : fmM} {Q : fmR → fmM → Prop} {D : dD} {cs : tC} {S : aS} {x : Int32} (h : xAq M D cs S) (hn1 : ¬ inL D x → Q (.inr fmNSE) (fmI M 0 15 (M.1 0 15 + 1))) (hq : inL D x → ∀ (r : Int32) (M' : fmM), r.toInt = ((fbA D x.toInt (S.1.1 : Int) : Nat) : Int) → Q (.inl (some (.int r))) M') : pvGood Tx 40 qX10_facts [.ref 0, .int x] M Q := by
  refine pvGood_of (Nat.le_of_ble_eq_true rfl) ?_
  show pvEv Tx 40 qX10_facts 0 [some (.ref 0), some (.int x)] [] M Q
  have hxq := h
  obtain ⟨hD, hX, hL, hs, ho⟩ := h
  have d8 := hD.1
  have hl9 : (M.1 3 9).toInt = (D.1 : Int) := hX.1.1
  have g2 := hs.2.1
  refine pv_aloadn (pc := 0) (n := 0) 0 rfl rfl (fm_dec dtX10_facts 0 rfl) ?_
  refine pv_iloadn (pc := 1) (n := 1) 1 rfl rfl (fm_dec dtX10_facts 1 rfl) ?_
  refine pv_invV1 (k := 0) (d' := 0) (pc := 2) pcv_X10_197 (by decide) rfl (Nat.le_of_ble_eq_true rfl) (by decide) (fm_dec dtX10_facts 2 rfl) ?_
  refine c_needL (fun h2a h2b => ?_) (fun h2 => ?_)
  · refine pv_then0 ?_
    refine pv_aloadn (pc := 5) (n := 0) 0 rfl rfl (fm_dec dtX10_facts 3 rfl) ?_
    refine pv_getR (k := 0) (j := 1) (ci := 10) (pc := 6) 3 rfl (by decide) pfl_X10_19 (by decide) rfl (by decide) (fm_dec dtX10_facts 4 rfl) ?_
    refine pv_iloadn (pc := 9) (n := 1) 1 rfl rfl (fm_dec dtX10_facts 5 rfl) ?_
    refine pv_aloadn (pc := 10) (n := 0) 0 rfl rfl (fm_dec dtX10_facts 6 rfl) ?_
    refine pv_getR (k := 0) (j := 9) (ci := 10) (pc := 11) 46 rfl (by decide) pfl_X10_75 (by decide) rfl (by decide) (fm_dec dtX10_facts 7 rfl) ?_
    refine pv_getR (k := 46) (j := 0) (ci := 5) (pc := 14) 47 rfl (by decide) pfl_X10_90 (by decide) rfl (by decide) (fm_dec dtX10_facts 8 rfl) ?_
    refine pv_getI (k := 47) (j := 2) (ci := 6) (pc := 17) pfl_X10_173 (by decide) rfl (by decide) (fm_dec dtX10_facts 9 rfl) ?_
    refine pv_invV2 (k := 3) (d' := 0) (pc := 20) pcv_X10_225 (by decide) rfl (Nat.le_of_ble_eq_true rfl) (by decide) (fm_dec dtX10_facts 10 rfl) ?_
    refine c_xfb hD hX ?_
    refine pv_then1 ?_
    exact pv_ireturn (pc := 23) rfl (fm_dec dtX10_facts 11 rfl) (by rw [g2]; exact hq ⟨h2a, by omega⟩ _ _ (nI_toInt (by have := fb_64 (li := x.toInt) (wk := (S.1.1 : Int)) hD _ (Nat.le_refl _); unfold fbA; omega)))
  · refine pv_thenX ?_
    exact hn1 (fun h8 => h2 ⟨h8.1, by have := h8.2; omega⟩)
set_option maxRecDepth 20000 in
theorem c_mfacts {M : fmM} {Q : fmR → fmM → Prop} {D : dD} {cs : tC} {S : aS} {x : Int32} (h : mAq M D cs S) (hn1 : ¬ inL D x → ∀ (z : Int32) (M' : fmM), M'.1 0 0 = 1 → Q (.inl (some (.int z))) M') (hq : inL D x → ∀ (r : Int32) (M' : fmM), M'.1 0 0 = 0 → r.toInt = ((fbA D x.toInt (S.1.1 : Int) : Nat) : Int) → Q (.inl (some (.int r))) M') : pvGood Tm 40 qX11_facts [.ref 0, .int x] M Q := by
  refine pvGood_of (Nat.le_of_ble_eq_true rfl) ?_
  show pvEv Tm 40 qX11_facts 0 [some (.ref 0), some (.int x)] [] M Q
  have hmq := h.z (x := 0)
  obtain ⟨hD, hY, hM, hd, ht, ho⟩ := hmq
  have d8 := hD.1
  have h4 : (M.1 4 0).toInt = (D.1 : Int) := hY.1
  have hl := hD.1
  have g2 : ((fmI M 0 0 0).1 7 (Int32.toNatClampNeg 10)).toInt = (S.1.1 : Int) := ht.2.1
  refine pv_aloadn (pc := 0) (n := 0) 0 rfl rfl (fm_dec dtX11_facts 0 rfl) ?_
  refine pv_iconst (pc := 1) (v := 0) (by decide) (fm_dec dtX11_facts 1 rfl) ?_
  refine pv_putI (k := 0) (j := 0) (ci := 11) (pc := 2) pfl_X11_101 (by decide) rfl (by decide) (fm_dec dtX11_facts 2 rfl) ?_
  refine pv_aloadn (pc := 5) (n := 0) 0 rfl rfl (fm_dec dtX11_facts 3 rfl) ?_
  refine pv_aloadn (pc := 6) (n := 0) 0 rfl rfl (fm_dec dtX11_facts 4 rfl) ?_
  refine pv_iloadn (pc := 7) (n := 1) 1 rfl rfl (fm_dec dtX11_facts 5 rfl) ?_
  refine pv_invV1 (k := 0) (d' := 1) (pc := 8) pcv_X11_331 (by decide) rfl (Nat.le_of_ble_eq_true rfl) (by decide) (fm_dec dtX11_facts 6 rfl) ?_
  refine c_isLife (M := fmI M 0 0 0) h4 hl (fun k hk hkl => ?_) (fun hno => ?_)
  · refine pv_then1 ?_
    refine pv_if_ne (pc := 11) 18 (by decide) (fm_dec dtX11_facts 7 rfl) (fun _ => ?_) (fun hc11 => by exfalso; revert hc11; decide)
    refine pv_iconst (pc := 18) (v := 0) (by decide) (fm_dec dtX11_facts 10 rfl) ?_
    refine pv_iconst (pc := 19) (v := 1) (by decide) (fm_dec dtX11_facts 11 rfl) ?_
    refine pv_iconst (pc := 20) (v := 0) (by decide) (fm_dec dtX11_facts 12 rfl) ?_
    refine pv_invV3 (k := 0) (d' := 0) (pc := 21) pcv_X11_177 (by decide) rfl (Nat.le_of_ble_eq_true rfl) (by decide) (fm_dec dtX11_facts 13 rfl) ?_
    refine c_badF0 rfl ?_
    refine pv_then1 ?_
    refine pv_if_eq (pc := 24) 29 (by decide) (fm_dec dtX11_facts 14 rfl) (fun _ => ?_) (fun hc24 => by exfalso; revert hc24; decide)
    refine pv_aloadn (pc := 29) (n := 0) 0 rfl rfl (fm_dec dtX11_facts 17 rfl) ?_
    refine pv_iloadn (pc := 30) (n := 1) 1 rfl rfl (fm_dec dtX11_facts 18 rfl) ?_
    refine pv_aloadn (pc := 31) (n := 0) 0 rfl rfl (fm_dec dtX11_facts 19 rfl) ?_
    refine pv_getR (k := 0) (j := 27) (ci := 11) (pc := 32) 7 rfl (by decide) pfl_X11_61 (by decide) rfl (by decide) (fm_dec dtX11_facts 20 rfl) ?_
    refine pv_bipush (pc := 35) (v := 10) (by decide) (fm_dec dtX11_facts 21 rfl) ?_
    refine pv_iald (k := 7) (n := 14) (pc := 37) (by decide) rfl rfl (fm_inl (by decide)) (fm_dec dtX11_facts 22 rfl) ?_
    refine pv_invV2 (k := 0) (d' := 0) (pc := 38) pcv_X11_334 (by decide) rfl (Nat.le_of_ble_eq_true rfl) (by decide) (fm_dec dtX11_facts 23 rfl) ?_
    refine c_mfb hD hY ?_
    refine pv_then1 ?_
    exact pv_ireturn (pc := 41) rfl (fm_dec dtX11_facts 24 rfl) (by rw [g2]; exact hq ⟨by omega, by omega⟩ _ _ rfl (nI_toInt (by have := fb_64 (li := x.toInt) (wk := (S.1.1 : Int)) hD _ (Nat.le_refl _); unfold fbA; omega)))
  · refine pv_then1 ?_
    refine pv_if_ne (pc := 11) 18 (by decide) (fm_dec dtX11_facts 7 rfl) (fun hc11 => by exfalso; revert hc11; decide) (fun _ => ?_)
    refine pv_iconst (pc := 14) (v := 1) (by decide) (fm_dec dtX11_facts 8 rfl) ?_
    refine pv_goto (pc := 15) 19 (by decide) (fm_dec dtX11_facts 9 rfl) ?_
    refine pv_iconst (pc := 19) (v := 1) (by decide) (fm_dec dtX11_facts 11 rfl) ?_
    refine pv_iconst (pc := 20) (v := 0) (by decide) (fm_dec dtX11_facts 12 rfl) ?_
    refine pv_invV3 (k := 0) (d' := 0) (pc := 21) pcv_X11_177 (by decide) rfl (Nat.le_of_ble_eq_true rfl) (by decide) (fm_dec dtX11_facts 13 rfl) ?_
    refine c_badT0 rfl (by decide) ?_
    refine pv_then1 ?_
    refine pv_if_eq (pc := 24) 29 (by decide) (fm_dec dtX11_facts 14 rfl) (fun hc24 => by exfalso; revert hc24; decide) (fun _ => ?_)
    refine pv_iconst (pc := 27) (v := 0) (by decide) (fm_dec dtX11_facts 15 rfl) ?_
    exact pv_ireturn (pc := 28) rfl (fm_dec dtX11_facts 16 rfl) (hn1 hno _ _ rfl)
theorem xe_facts {M : fmM} {D : dD} {cs : tC} {S : aS} {x : Int32} (h : xAq M D cs S) : pvGood Tx 250 qX10_facts [.ref 0, .int x] M (fun r _ => (inL D x ∧ r = .inl (some (.int (iZ (((fbA D x.toInt (S.1.1 : Int) : Nat) : Int)))))) ∨ (¬ inL D x ∧ r = .inr fmNSE)) := (c_xfacts h (fun h => Or.inr ⟨h, rfl⟩) (fun h r M' e => Or.inl ⟨h, by rw [iZ_is e]⟩)).up (by decide)
theorem me_facts {M : fmM} {D : dD} {cs : tC} {S : aS} {x : Int32} (h : mAq M D cs S) : pvGood Tm 250 qX11_facts [.ref 0, .int x] M (fun r M' => (inL D x ∧ r = .inl (some (.int (iZ (((fbA D x.toInt (S.1.1 : Int) : Nat) : Int))))) ∧ M'.1 0 0 = 0) ∨ (¬ inL D x ∧ M'.1 0 0 = 1)) := (c_mfacts h (fun h z M' e => Or.inr ⟨h, e⟩) (fun h r M' z e => Or.inl ⟨h, by rw [iZ_is e], z⟩)).up (by decide)
