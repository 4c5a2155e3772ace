set_option maxRecDepth 20000 in
theorem c_needP {M : fmM} {Q : fmR → fmM → Prop} {x : Int32} (hq : inW x 0 1 → Q (.inl none) M) (hf : ¬ inW x 0 1 → Q (.inr fmIAE) (fmI M 0 16 (M.1 0 16 + 1))) : pvGood Tx 1 qX10_needPart [.ref 0, .int x] M Q := by
  refine pvGood_of (Nat.le_of_ble_eq_true rfl) ?_
  show pvEv Tx 1 qX10_needPart 0 [some (.ref 0), some (.int x)] [] M Q
  refine pv_aloadn (pc := 0) (n := 0) 0 rfl rfl (fm_dec dtX10_needPart 0 rfl) ?_
  refine pv_iloadn (pc := 1) (n := 1) 1 rfl rfl (fm_dec dtX10_needPart 1 rfl) ?_
  refine pv_iconst (pc := 2) (v := 0) (by decide) (fm_dec dtX10_needPart 2 rfl) ?_
  refine pv_iconst (pc := 3) (v := 1) (by decide) (fm_dec dtX10_needPart 3 rfl) ?_
  refine pv_invV3 (k := 0) (d' := 0) (pc := 4) pcv_X10_169 (by decide) rfl (Nat.le_of_ble_eq_true rfl) (by decide) (fm_dec dtX10_needPart 4 rfl) ?_
  refine c_needW (fun h4a h4b => ?_) (fun h4 => ?_)
  · refine pv_then0 ?_
    exact pv_return (pc := 7) rfl (fm_dec dtX10_needPart 5 rfl) (hq ⟨h4a, h4b⟩)
  · refine pv_thenX ?_
    exact hf h4
set_option maxRecDepth 20000 in
theorem c_noP {M : fmM} {Q : fmR → fmM → Prop} {x w : Int32} (hth : M.1 0 0 = 0) (hw : ¬ w = 0) (hq : inW x 0 1 → Q (.inl (some (.int 0))) M) (hf : ¬ inW x 0 1 → Q (.inl (some (.int 1))) (fmI (fmI M 0 0 w) 2 1 (M.1 2 1 + 1))) : pvGood Tm 1 qX11_noPart [.ref 0, .int x, .int w] M Q := by
  refine pvGood_of (Nat.le_of_ble_eq_true rfl) ?_
  show pvEv Tm 1 qX11_noPart 0 [some (.ref 0), some (.int x), some (.int w)] [] M Q
  refine pv_aloadn (pc := 0) (n := 0) 0 rfl rfl (fm_dec dtX11_noPart 0 rfl) ?_
  refine pv_iloadn (pc := 1) (n := 1) 1 rfl rfl (fm_dec dtX11_noPart 1 rfl) ?_
  refine pv_iconst (pc := 2) (v := 0) (by decide) (fm_dec dtX11_noPart 2 rfl) ?_
  refine pv_iconst (pc := 3) (v := 1) (by decide) (fm_dec dtX11_noPart 3 rfl) ?_
  refine pv_iS3 (d' := 0) (pc := 4) pcs_X11_135 (Nat.le_of_ble_eq_true rfl) (by decide) (fm_dec dtX11_noPart 4 rfl) ?_
  refine c_in (fun h4a h4b => ?_) (fun h4 => ?_)
  · refine pv_then1 ?_
    refine pv_if_ne (pc := 7) 14 (by decide) (fm_dec dtX11_noPart 5 rfl) (fun _ => ?_) (fun hc7 => by exfalso; revert hc7; decide)
    refine pv_iconst (pc := 14) (v := 0) (by decide) (fm_dec dtX11_noPart 8 rfl) ?_
    refine pv_iloadn (pc := 15) (n := 2) 2 rfl rfl (fm_dec dtX11_noPart 9 rfl) ?_
    refine pv_iconst (pc := 16) (v := 1) (by decide) (fm_dec dtX11_noPart 10 rfl) ?_
    refine pv_invV3 (k := 0) (d' := 0) (pc := 17) pcv_X11_177 (by decide) rfl (Nat.le_of_ble_eq_true rfl) (by decide) (fm_dec dtX11_noPart 11 rfl) ?_
    refine c_badF1 hth ?_
    refine pv_then1 ?_
    exact pv_zreturn (pc := 20) rfl (by first | exact Or.inr rfl | exact Or.inl rfl) (fm_dec dtX11_noPart 12 rfl) (hq ⟨h4a, h4b⟩)
  · refine pv_then1 ?_
    refine pv_if_ne (pc := 7) 14 (by decide) (fm_dec dtX11_noPart 5 rfl) (fun hc7 => by exfalso; revert hc7; decide) (fun _ => ?_)
    refine pv_iconst (pc := 10) (v := 1) (by decide) (fm_dec dtX11_noPart 6 rfl) ?_
    refine pv_goto (pc := 11) 15 (by decide) (fm_dec dtX11_noPart 7 rfl) ?_
    refine pv_iloadn (pc := 15) (n := 2) 2 rfl rfl (fm_dec dtX11_noPart 9 rfl) ?_
    refine pv_iconst (pc := 16) (v := 1) (by decide) (fm_dec dtX11_noPart 10 rfl) ?_
    refine pv_invV3 (k := 0) (d' := 0) (pc := 17) pcv_X11_177 (by decide) rfl (Nat.le_of_ble_eq_true rfl) (by decide) (fm_dec dtX11_noPart 11 rfl) ?_
    refine c_badT1 hth hw ?_
    refine pv_then1 ?_
    exact pv_zreturn (pc := 20) rfl (by first | exact Or.inr rfl | exact Or.inl rfl) (fm_dec dtX11_noPart 12 rfl) (hf h4)
set_option maxRecDepth 20000 in
theorem c_xloss {M : fmM} {Q : fmR → fmM → Prop} {D : dD} {cs : tC} {S : aS} {x : Int32} (h : xAq M D cs S) (hn2 : ¬ (inW x 0 1) → Q (.inr fmIAE) (fmI M 0 16 (M.1 0 16 + 1))) (hq : inW x 0 1 → ∀ M' : fmM, Q (.inl (some (.long (frV (jZ S.1.2.2.2.2.2) 64 x)))) M') : pvGood Tx 40 qX10_loss [.ref 0, .int x] M Q := by
  refine pvGood_of (Nat.le_of_ble_eq_true rfl) ?_
  show pvEv Tx 40 qX10_loss 0 [some (.ref 0), some (.int x)] [] M Q
  have hxq := h
  obtain ⟨hD, hX, hL, hs, ho⟩ := h
  have d8 := hD.1
  have hl9 : (M.1 3 9).toInt = (D.1 : Int) := hX.1.1
  have el := jZ_is hs.2.2.2.2.2.1
  have l0 := ho.2.2.2.2.1
  have gl := hs.2.2.2.2.2.1
  refine pv_aloadn (pc := 0) (n := 0) 0 rfl rfl (fm_dec dtX10_loss 0 rfl) ?_
  refine pv_iloadn (pc := 1) (n := 1) 1 rfl rfl (fm_dec dtX10_loss 1 rfl) ?_
  refine pv_invV1 (k := 0) (d' := 1) (pc := 2) pcv_X10_244 (by decide) rfl (Nat.le_of_ble_eq_true rfl) (by decide) (fm_dec dtX10_loss 2 rfl) ?_
  refine c_needP (fun h2 => ?_) (fun h2 => ?_)
  · refine pv_then0 ?_
    refine pv_aloadn (pc := 5) (n := 0) 0 rfl rfl (fm_dec dtX10_loss 3 rfl) ?_
    refine pv_getR (k := 0) (j := 9) (ci := 10) (pc := 6) 46 rfl (by decide) pfl_X10_75 (by decide) rfl (by decide) (fm_dec dtX10_loss 4 rfl) ?_
    refine pv_getR (k := 46) (j := 0) (ci := 5) (pc := 9) 47 rfl (by decide) pfl_X10_90 (by decide) rfl (by decide) (fm_dec dtX10_loss 5 rfl) ?_
    refine pv_getJ (k := 47) (j := 6) (ci := 6) (pc := 12) pfl_X10_247 (by decide) rfl (by decide) (fm_dec dtX10_loss 6 rfl) ?_
    refine pv_ldc2 (pc := 15) pkc_X10_251 (fm_dec dtX10_loss 7 rfl) ?_
    refine pv_iloadn (pc := 18) (n := 1) 1 rfl rfl (fm_dec dtX10_loss 8 rfl) ?_
    refine pv_iS3 (d' := 0) (pc := 19) pcs_X10_253 (Nat.le_of_ble_eq_true rfl) (by decide) (fm_dec dtX10_loss 9 rfl) ?_
    refine c_xterm (by omega) (by decide) ?_
    refine pv_then1 ?_
    exact pv_lreturn (pc := 22) rfl (fm_dec dtX10_loss 10 rfl) (by rw [el]; exact hq h2 _)
  · refine pv_thenX ?_
    exact hn2 h2
set_option maxRecDepth 20000 in
theorem c_mloss {M : fmM} {Q : fmR → fmM → Prop} {D : dD} {cs : tC} {S : aS} {x : Int32} (h : mAq M D cs S) (hn2 : ¬ (inW x 0 1) → ∀ (z : Int64) (M' : fmM), M'.1 0 0 = 1 → Q (.inl (some (.long z))) M') (hq : inW x 0 1 → ∀ M' : fmM, M'.1 0 0 = 0 → Q (.inl (some (.long (frV (jZ S.1.2.2.2.2.2) 64 x)))) M') : pvGood Tm 40 qX11_loss [.ref 0, .int x] M Q := by
  refine pvGood_of (Nat.le_of_ble_eq_true rfl) ?_
  show pvEv Tm 40 qX11_loss 0 [some (.ref 0), some (.int x)] [] M Q
  have hmq := h.z (x := 0)
  obtain ⟨hD, hY, hM, hd, ht, ho⟩ := hmq
  have d8 := hD.1
  have h4 : (M.1 4 0).toInt = (D.1 : Int) := hY.1
  have hl := hD.1
  have gl : ((fmI M 0 0 0).1 7 (Int32.toNatClampNeg 13)).toInt64.toInt = S.1.2.2.2.2.2 := (by rw [Int32.toInt_toInt64]; exact ht.2.2.2.2.2.1)
  have el := jZ_is gl
  have l0 := ho.2.2.2.2.1
  refine pv_aloadn (pc := 0) (n := 0) 0 rfl rfl (fm_dec dtX11_loss 0 rfl) ?_
  refine pv_iconst (pc := 1) (v := 0) (by decide) (fm_dec dtX11_loss 1 rfl) ?_
  refine pv_putI (k := 0) (j := 0) (ci := 11) (pc := 2) pfl_X11_101 (by decide) rfl (by decide) (fm_dec dtX11_loss 2 rfl) ?_
  refine pv_aloadn (pc := 5) (n := 0) 0 rfl rfl (fm_dec dtX11_loss 3 rfl) ?_
  refine pv_iloadn (pc := 6) (n := 1) 1 rfl rfl (fm_dec dtX11_loss 4 rfl) ?_
  refine pv_iconst (pc := 7) (v := 1) (by decide) (fm_dec dtX11_loss 5 rfl) ?_
  refine pv_invV2 (k := 0) (d' := 1) (pc := 8) pcv_X11_340 (by decide) rfl (Nat.le_of_ble_eq_true rfl) (by decide) (fm_dec dtX11_loss 6 rfl) ?_
  refine c_noP rfl (by decide) (fun h8 => ?_) (fun h8 => ?_)
  · refine pv_then1 ?_
    refine pv_if_eq (pc := 11) 16 (by decide) (fm_dec dtX11_loss 7 rfl) (fun _ => ?_) (fun hc11 => by exfalso; revert hc11; decide)
    refine pv_aloadn (pc := 16) (n := 0) 0 rfl rfl (fm_dec dtX11_loss 10 rfl) ?_
    refine pv_getR (k := 0) (j := 27) (ci := 11) (pc := 17) 7 rfl (by decide) pfl_X11_61 (by decide) rfl (by decide) (fm_dec dtX11_loss 11 rfl) ?_
    refine pv_bipush (pc := 20) (v := 13) (by decide) (fm_dec dtX11_loss 12 rfl) ?_
    refine pv_iald (k := 7) (n := 14) (pc := 22) (by decide) rfl rfl (fm_inl (by decide)) (fm_dec dtX11_loss 13 rfl) ?_
    refine pv_i2l (pc := 23) (fm_dec dtX11_loss 14 rfl) ?_
    refine pv_ldc2 (pc := 24) pkc_X11_343 (fm_dec dtX11_loss 15 rfl) ?_
    refine pv_iloadn (pc := 27) (n := 1) 1 rfl rfl (fm_dec dtX11_loss 16 rfl) ?_
    refine pv_iS3 (d' := 0) (pc := 28) pcs_X11_345 (Nat.le_of_ble_eq_true rfl) (by decide) (fm_dec dtX11_loss 17 rfl) ?_
    refine c_mterm (by omega) (by decide) ?_
    refine pv_then1 ?_
    exact pv_lreturn (pc := 31) rfl (fm_dec dtX11_loss 18 rfl) (by rw [el]; exact hq h8 _ rfl)
  · refine pv_then1 ?_
    refine pv_if_eq (pc := 11) 16 (by decide) (fm_dec dtX11_loss 7 rfl) (fun hc11 => by exfalso; revert hc11; decide) (fun _ => ?_)
    refine pv_lconst (pc := 14) (v := 0) (by decide) (fm_dec dtX11_loss 8 rfl) ?_
    exact pv_lreturn (pc := 15) rfl (fm_dec dtX11_loss 9 rfl) (hn2 h8 _ _ rfl)
theorem xe_loss {M : fmM} {D : dD} {cs : tC} {S : aS} {x : Int32} (h : xAq M D cs S) : pvGood Tx 250 qX10_loss [.ref 0, .int x] M (fun r _ => ((inW x 0 1) ∧ r = .inl (some (.long (frV (jZ S.1.2.2.2.2.2) 64 x)))) ∨ (¬ (inW x 0 1) ∧ r = .inr fmIAE)) := (c_xloss h (fun h => Or.inr ⟨h, rfl⟩) (fun h M' => Or.inl ⟨h, rfl⟩)).up (by decide)
theorem me_loss {M : fmM} {D : dD} {cs : tC} {S : aS} {x : Int32} (h : mAq M D cs S) : pvGood Tm 250 qX11_loss [.ref 0, .int x] M (fun r M' => ((inW x 0 1) ∧ r = .inl (some (.long (frV (jZ S.1.2.2.2.2.2) 64 x))) ∧ M'.1 0 0 = 0) ∨ (¬ (inW x 0 1) ∧ M'.1 0 0 = 1)) := (c_mloss h (fun h z M' e => Or.inr ⟨h, e⟩) (fun h M' z => Or.inl ⟨h, rfl, z⟩)).up (by decide)
