set_option maxRecDepth 20000 in
theorem u_saves {M : fmM} {Q : fmR → fmM → Prop} {i p : Int32} (hI : scInv Tm invM M) (hq : ∀ (r : fmR) (M' : fmM), tJ r → scInv Tm invM M' → scFr [(0, 0, 1), (2, 0, 2), (5, 0, 160), (6, 0, 5)] M M' → Q r M') : pvGood Tm 9 qX11_saves [.ref 0, .int i, .int p] M Q := by
  refine pvGood_of (Nat.le_of_ble_eq_true rfl) ?_
  show pvEv Tm 9 qX11_saves 0 [some (.ref 0), some (.int i), some (.int p)] [] M Q
  obtain ⟨l, h4, hl⟩ := told8 hI
  have hI0 := hI.p00 (x := 0) (Or.inl rfl)
  refine pv_aloadn (pc := 0) (n := 0) 0 rfl rfl (fm_dec dtX11_saves 0 rfl) ?_
  refine pv_iconst (pc := 1) (v := 0) (by decide) (fm_dec dtX11_saves 1 rfl) ?_
  refine pv_putI (k := 0) (j := 0) (ci := 11) (pc := 2) pfl_X11_101 (by decide) rfl (by decide) (fm_dec dtX11_saves 2 rfl) ?_
  refine pv_aloadn (pc := 5) (n := 0) 0 rfl rfl (fm_dec dtX11_saves 3 rfl) ?_
  refine pv_aloadn (pc := 6) (n := 0) 0 rfl rfl (fm_dec dtX11_saves 4 rfl) ?_
  refine pv_iloadn (pc := 7) (n := 1) 1 rfl rfl (fm_dec dtX11_saves 5 rfl) ?_
  refine pv_invV1 (k := 0) (d' := 1) (pc := 8) pcv_X11_331 (by decide) rfl (Nat.le_of_ble_eq_true rfl) (by decide) (fm_dec dtX11_saves 6 rfl) ?_
  refine c_isLife (M := fmI M 0 0 0) h4 hl (fun k hk hkl => ?_) (fun hno => ?_)
  · refine pv_then1 ?_
    refine pv_if_ne (pc := 11) 18 (by decide) (fm_dec dtX11_saves 7 rfl) (fun _ => ?_) (fun hc11 => by exfalso; revert hc11; decide)
    refine pv_iconst (pc := 18) (v := 0) (by decide) (fm_dec dtX11_saves 10 rfl) ?_
    refine pv_iconst (pc := 19) (v := 1) (by decide) (fm_dec dtX11_saves 11 rfl) ?_
    refine pv_iconst (pc := 20) (v := 0) (by decide) (fm_dec dtX11_saves 12 rfl) ?_
    refine pv_invV3 (k := 0) (d' := 0) (pc := 21) pcv_X11_177 (by decide) rfl (Nat.le_of_ble_eq_true rfl) (by decide) (fm_dec dtX11_saves 13 rfl) ?_
    refine c_badF0 rfl ?_
    refine pv_then1 ?_
    refine pv_if_ne (pc := 24) 36 (by decide) (fm_dec dtX11_saves 14 rfl) (fun hc24 => by exfalso; revert hc24; decide) (fun _ => ?_)
    refine pv_aloadn (pc := 27) (n := 0) 0 rfl rfl (fm_dec dtX11_saves 15 rfl) ?_
    refine pv_iloadn (pc := 28) (n := 2) 2 rfl rfl (fm_dec dtX11_saves 16 rfl) ?_
    refine pv_iconst (pc := 29) (v := 2) (by decide) (fm_dec dtX11_saves 17 rfl) ?_
    refine pv_invV2 (k := 0) (d' := 1) (pc := 30) pcv_X11_340 (by decide) rfl (Nat.le_of_ble_eq_true rfl) (by decide) (fm_dec dtX11_saves 18 rfl) ?_
    refine c_noPart2 rfl (fun _ _ => ?_) (fun _ => ?_)
    · refine pv_then1 ?_
      refine pv_if_eq (pc := 33) 38 (by decide) (fm_dec dtX11_saves 19 rfl) (fun _ => ?_) (fun hc33 => by exfalso; revert hc33; decide)
      refine pv_aloadn (pc := 38) (n := 0) 0 rfl rfl (fm_dec dtX11_saves 22 rfl) ?_
      refine pv_aloadn (pc := 39) (n := 0) 0 rfl rfl (fm_dec dtX11_saves 23 rfl) ?_
      refine pv_getR (k := 0) (j := 27) (ci := 11) (pc := 40) 7 rfl (by decide) pfl_X11_61 (by decide) rfl (by decide) (fm_dec dtX11_saves 24 rfl) ?_
      refine pv_iloadn (pc := 43) (n := 1) 1 rfl rfl (fm_dec dtX11_saves 25 rfl) ?_
      refine pv_invV2 (k := 0) (d' := 8) (pc := 44) pcv_X11_355 (by decide) rfl (Nat.le_of_ble_eq_true rfl) (by decide) (fm_dec dtX11_saves 26 rfl) ?_
      refine s_saved7 hk (by omega) hI0 (fun n44 M44 hI44 f44 => ?_)
      refine pv_then1 ?_
      refine pv_i2l (pc := 47) (fm_dec dtX11_saves 27 rfl) ?_
      refine pv_ldc2 (pc := 48) pkc_X11_353 (fm_dec dtX11_saves 28 rfl) ?_
      refine pv_aloadn (pc := 51) (n := 0) 0 rfl rfl (fm_dec dtX11_saves 29 rfl) ?_
      refine pv_aloadn (pc := 52) (n := 0) 0 rfl rfl (fm_dec dtX11_saves 30 rfl) ?_
      refine pv_getR (k := 0) (j := 27) (ci := 11) (pc := 53) 7 rfl (by decide) pfl_X11_61 (by decide) rfl (by decide) (fm_dec dtX11_saves 31 rfl) ?_
      refine pv_iloadn (pc := 56) (n := 1) 1 rfl rfl (fm_dec dtX11_saves 32 rfl) ?_
      refine pv_invV2 (k := 0) (d' := 2) (pc := 57) pcv_X11_290 (by decide) rfl (Nat.le_of_ble_eq_true rfl) (by decide) (fm_dec dtX11_saves 33 rfl) ?_
      refine s_hours7 hk (by omega) (by have h9 : M44.1 4 0 = M.1 4 0 := (f44 4 0 rfl).1; rw [h9, h4]; omega) hI44 (fun n57 h571 h579 => ?_)
      refine pv_then1 ?_
      refine pv_i2l (pc := 60) (fm_dec dtX11_saves 34 rfl) ?_
      refine pv_lmul (pc := 61) (fm_dec dtX11_saves 35 rfl) ?_
      refine pv_iloadn (pc := 62) (n := 2) 2 rfl rfl (fm_dec dtX11_saves 36 rfl) ?_
      refine pv_iS3 (d' := 0) (pc := 63) pcs_X11_345 (Nat.le_of_ble_eq_true rfl) (by decide) (fm_dec dtX11_saves 37 rfl) ?_
      refine c_partOf (low_nz h571 h579) (fun r63 => ?_)
      refine pv_then1 ?_
      exact pv_lreturn (pc := 66) rfl (fm_dec dtX11_saves 38 rfl) (hq _ _ ⟨_, rfl⟩ hI44 (scFr.trans (scFr.toI scFr.rfl rfl) f44 (by decide)))
    · refine pv_then1 ?_
      refine pv_if_eq (pc := 33) 38 (by decide) (fm_dec dtX11_saves 19 rfl) (fun hc33 => by exfalso; revert hc33; decide) (fun _ => ?_)
      refine pv_lconst (pc := 36) (v := 0) (by decide) (fm_dec dtX11_saves 20 rfl) ?_
      exact pv_lreturn (pc := 37) rfl (fm_dec dtX11_saves 21 rfl) (hq _ _ ⟨_, rfl⟩ (hI0.p00 (Or.inr (Or.inr rfl))).p2 (scFr.toI (scFr.toI (scFr.toI scFr.rfl rfl) rfl) rfl))
  · refine pv_then1 ?_
    refine pv_if_ne (pc := 11) 18 (by decide) (fm_dec dtX11_saves 7 rfl) (fun hc11 => by exfalso; revert hc11; decide) (fun _ => ?_)
    refine pv_iconst (pc := 14) (v := 1) (by decide) (fm_dec dtX11_saves 8 rfl) ?_
    refine pv_goto (pc := 15) 19 (by decide) (fm_dec dtX11_saves 9 rfl) ?_
    refine pv_iconst (pc := 19) (v := 1) (by decide) (fm_dec dtX11_saves 11 rfl) ?_
    refine pv_iconst (pc := 20) (v := 0) (by decide) (fm_dec dtX11_saves 12 rfl) ?_
    refine pv_invV3 (k := 0) (d' := 0) (pc := 21) pcv_X11_177 (by decide) rfl (Nat.le_of_ble_eq_true rfl) (by decide) (fm_dec dtX11_saves 13 rfl) ?_
    refine c_badT0 rfl (by decide) ?_
    refine pv_then1 ?_
    refine pv_if_ne (pc := 24) 36 (by decide) (fm_dec dtX11_saves 14 rfl) (fun _ => ?_) (fun hc24 => by exfalso; revert hc24; decide)
    refine pv_lconst (pc := 36) (v := 0) (by decide) (fm_dec dtX11_saves 20 rfl) ?_
    exact pv_lreturn (pc := 37) rfl (fm_dec dtX11_saves 21 rfl) (hq _ _ ⟨_, rfl⟩ (hI0.p00 (Or.inr (Or.inl rfl))).p2 (scFr.toI (scFr.toI (scFr.toI scFr.rfl rfl) rfl) rfl))
set_option maxRecDepth 20000 in
theorem u_chain {M : fmM} {Q : fmR → fmM → Prop} {i p : Int32} (hI : scInv Tm invM M) (hq : ∀ (r : fmR) (M' : fmM), tI r → scInv Tm invM M' → scFr [(0, 0, 1), (2, 0, 2), (5, 0, 160), (6, 0, 5)] M M' → Q r M') : pvGood Tm 2 qX11_chain [.ref 0, .int i, .int p] M Q := by
  refine pvGood_of (Nat.le_of_ble_eq_true rfl) ?_
  show pvEv Tm 2 qX11_chain 0 [some (.ref 0), some (.int i), some (.int p), none, none] [] M Q
  obtain ⟨l, h4, hl⟩ := told8 hI
  have hI0 := hI.p00 (x := 0) (Or.inl rfl)
  refine pv_aloadn (pc := 0) (n := 0) 0 rfl rfl (fm_dec dtX11_chain 0 rfl) ?_
  refine pv_iconst (pc := 1) (v := 0) (by decide) (fm_dec dtX11_chain 1 rfl) ?_
  refine pv_putI (k := 0) (j := 0) (ci := 11) (pc := 2) pfl_X11_101 (by decide) rfl (by decide) (fm_dec dtX11_chain 2 rfl) ?_
  refine pv_aloadn (pc := 5) (n := 0) 0 rfl rfl (fm_dec dtX11_chain 3 rfl) ?_
  refine pv_aloadn (pc := 6) (n := 0) 0 rfl rfl (fm_dec dtX11_chain 4 rfl) ?_
  refine pv_iloadn (pc := 7) (n := 1) 1 rfl rfl (fm_dec dtX11_chain 5 rfl) ?_
  refine pv_invV1 (k := 0) (d' := 1) (pc := 8) pcv_X11_331 (by decide) rfl (Nat.le_of_ble_eq_true rfl) (by decide) (fm_dec dtX11_chain 6 rfl) ?_
  refine c_isLife (M := fmI M 0 0 0) h4 hl (fun k hk hkl => ?_) (fun hno => ?_)
  · refine pv_then1 ?_
    refine pv_if_ne (pc := 11) 18 (by decide) (fm_dec dtX11_chain 7 rfl) (fun _ => ?_) (fun hc11 => by exfalso; revert hc11; decide)
    refine pv_iconst (pc := 18) (v := 0) (by decide) (fm_dec dtX11_chain 10 rfl) ?_
    refine pv_iconst (pc := 19) (v := 1) (by decide) (fm_dec dtX11_chain 11 rfl) ?_
    refine pv_iconst (pc := 20) (v := 0) (by decide) (fm_dec dtX11_chain 12 rfl) ?_
    refine pv_invV3 (k := 0) (d' := 0) (pc := 21) pcv_X11_177 (by decide) rfl (Nat.le_of_ble_eq_true rfl) (by decide) (fm_dec dtX11_chain 13 rfl) ?_
    refine c_badF0 rfl ?_
    refine pv_then1 ?_
    refine pv_if_ne (pc := 24) 50 (by decide) (fm_dec dtX11_chain 14 rfl) (fun hc24 => by exfalso; revert hc24; decide) (fun _ => ?_)
    refine pv_aloadn (pc := 27) (n := 0) 0 rfl rfl (fm_dec dtX11_chain 15 rfl) ?_
    refine pv_iloadn (pc := 28) (n := 2) 2 rfl rfl (fm_dec dtX11_chain 16 rfl) ?_
    refine pv_iconst (pc := 29) (v := 0) (by decide) (fm_dec dtX11_chain 17 rfl) ?_
    refine pv_iconst (pc := 30) (v := 1) (by decide) (fm_dec dtX11_chain 18 rfl) ?_
    refine pv_iS3 (d' := 0) (pc := 31) pcs_X11_135 (Nat.le_of_ble_eq_true rfl) (by decide) (fm_dec dtX11_chain 19 rfl) ?_
    refine c_in (fun h31a h31b => ?_) (fun h31 => ?_)
    · refine pv_then1 ?_
      refine pv_if_ne (pc := 34) 41 (by decide) (fm_dec dtX11_chain 20 rfl) (fun _ => ?_) (fun hc34 => by exfalso; revert hc34; decide)
      refine pv_iconst (pc := 41) (v := 0) (by decide) (fm_dec dtX11_chain 23 rfl) ?_
      refine pv_iconst (pc := 42) (v := 2) (by decide) (fm_dec dtX11_chain 24 rfl) ?_
      refine pv_iconst (pc := 43) (v := 1) (by decide) (fm_dec dtX11_chain 25 rfl) ?_
      refine pv_invV3 (k := 0) (d' := 0) (pc := 44) pcv_X11_177 (by decide) rfl (Nat.le_of_ble_eq_true rfl) (by decide) (fm_dec dtX11_chain 26 rfl) ?_
      refine c_badF1 rfl ?_
      refine pv_then1 ?_
      refine pv_if_eq (pc := 47) 52 (by decide) (fm_dec dtX11_chain 27 rfl) (fun _ => ?_) (fun hc47 => by exfalso; revert hc47; decide)
      refine pv_iconst (pc := 52) (v := 1) (by decide) (fm_dec dtX11_chain 30 rfl) ?_
      refine pv_iloadn (pc := 53) (n := 1) 1 rfl rfl (fm_dec dtX11_chain 31 rfl) ?_
      refine pv_ishl (pc := 54) (fm_dec dtX11_chain 32 rfl) ?_
      refine pv_istoren (pc := 55) (n := 3) 3 rfl (by decide) rfl (fm_dec dtX11_chain 33 rfl) ?_
      dsimp only [List.set_cons_zero, List.set_cons_succ]
      refine pv_iloadn (pc := 56) (n := 1) 1 rfl rfl (fm_dec dtX11_chain 34 rfl) ?_
      refine pv_istore (pc := 57) (i := 4) (by decide) rfl (fm_dec dtX11_chain 35 rfl) ?_
      dsimp only [List.set_cons_zero, List.set_cons_succ]
      have hi9 : i = nI k := nI_is hk (by omega)
      exact ch_loop hI0 (fun n => hq _ _ ⟨n, rfl⟩ hI0 (scFr.toI scFr.rfl rfl)) _ _ _ (1 <<< k) k (by rw [hi9]; exact (one8 k (by omega)).1) (one8 k (by omega)).2 rfl hk (by omega)
    · refine pv_then1 ?_
      refine pv_if_ne (pc := 34) 41 (by decide) (fm_dec dtX11_chain 20 rfl) (fun hc34 => by exfalso; revert hc34; decide) (fun _ => ?_)
      refine pv_iconst (pc := 37) (v := 1) (by decide) (fm_dec dtX11_chain 21 rfl) ?_
      refine pv_goto (pc := 38) 42 (by decide) (fm_dec dtX11_chain 22 rfl) ?_
      refine pv_iconst (pc := 42) (v := 2) (by decide) (fm_dec dtX11_chain 24 rfl) ?_
      refine pv_iconst (pc := 43) (v := 1) (by decide) (fm_dec dtX11_chain 25 rfl) ?_
      refine pv_invV3 (k := 0) (d' := 0) (pc := 44) pcv_X11_177 (by decide) rfl (Nat.le_of_ble_eq_true rfl) (by decide) (fm_dec dtX11_chain 26 rfl) ?_
      refine c_badT1 rfl (by decide) ?_
      refine pv_then1 ?_
      refine pv_if_eq (pc := 47) 52 (by decide) (fm_dec dtX11_chain 27 rfl) (fun hc47 => by exfalso; revert hc47; decide) (fun _ => ?_)
      refine pv_iconst (pc := 50) (v := 0) (by decide) (fm_dec dtX11_chain 28 rfl) ?_
      exact pv_ireturn (pc := 51) rfl (fm_dec dtX11_chain 29 rfl) (hq _ _ ⟨_, rfl⟩ (hI0.p00 (Or.inr (Or.inr rfl))).p2 (scFr.toI (scFr.toI (scFr.toI scFr.rfl rfl) rfl) rfl))
  · refine pv_then1 ?_
    refine pv_if_ne (pc := 11) 18 (by decide) (fm_dec dtX11_chain 7 rfl) (fun hc11 => by exfalso; revert hc11; decide) (fun _ => ?_)
    refine pv_iconst (pc := 14) (v := 1) (by decide) (fm_dec dtX11_chain 8 rfl) ?_
    refine pv_goto (pc := 15) 19 (by decide) (fm_dec dtX11_chain 9 rfl) ?_
    refine pv_iconst (pc := 19) (v := 1) (by decide) (fm_dec dtX11_chain 11 rfl) ?_
    refine pv_iconst (pc := 20) (v := 0) (by decide) (fm_dec dtX11_chain 12 rfl) ?_
    refine pv_invV3 (k := 0) (d' := 0) (pc := 21) pcv_X11_177 (by decide) rfl (Nat.le_of_ble_eq_true rfl) (by decide) (fm_dec dtX11_chain 13 rfl) ?_
    refine c_badT0 rfl (by decide) ?_
    refine pv_then1 ?_
    refine pv_if_ne (pc := 24) 50 (by decide) (fm_dec dtX11_chain 14 rfl) (fun _ => ?_) (fun hc24 => by exfalso; revert hc24; decide)
    refine pv_iconst (pc := 50) (v := 0) (by decide) (fm_dec dtX11_chain 28 rfl) ?_
    exact pv_ireturn (pc := 51) rfl (fm_dec dtX11_chain 29 rfl) (hq _ _ ⟨_, rfl⟩ (hI0.p00 (Or.inr (Or.inl rfl))).p2 (scFr.toI (scFr.toI (scFr.toI scFr.rfl rfl) rfl) rfl))
def qI (M M2 : fmM) : Prop := scInv Tx invX M ∧ scInv Tm invM M2 ∧ M.1 1 1 = M2.1 0 1 ∧ ∀ i : Nat, (i : Int) < (M.1 1 1).toInt → bt (M.1 2 i) (M2.1 1 i).toInt
theorem qI_0 {M M2 : fmM} (hx : xInit M) (hm : mInit M2) : qI M (m9 M2) := by
  have e1 : M.1 1 1 = 0 := by rw [hx.1 1 (by decide) (by decide)]; rfl
  refine ⟨inv_x0 hx, inv_m0 hm, ?_, fun i hi => ?_⟩
  · rw [e1, m9_k (by decide), hm.2.2.2.2.1 1 (by decide) (by decide) (by decide) (by decide) (by decide), tnM_k (by decide)]
    rfl
  · rw [e1] at hi
    have h9 : (0 : Int32).toInt = 0 := by decide
    omega
theorem qI_tx {M M' M2 M2' : fmM} {n : Int32} {most : Int} (hI : qI M M2) (h1 : txE M n most M') (h2 : txG M2 n most M2') (i1 : scInv Tx invX M') (i2 : scInv Tm invM M2') : qI M' M2' := by
  refine ⟨i1, i2, tx_eq hI.2.2.1 h1 h2, fun i hi => ?_⟩
  unfold txE at h1
  unfold txG at h2
  rw [hI.2.2.1] at h1
  rcases h1 with ⟨p, e⟩ | ⟨p, e, b⟩
  · rw [e] at hi
    have h9 : (0 : Int32).toInt = 0 := by decide
    omega
  · rcases h2 with ⟨q, e2⟩ | ⟨q, e2, b2⟩
    · exact absurd q p
    · rw [b, b2]
      rw [e, ← hI.2.2.1] at hi
      exact hI.2.2.2 i hi
theorem qI_same {M M' M2 M2' : fmM} (hI : qI M M2) (i1 : scInv Tx invX M') (i2 : scInv Tm invM M2') (e1 : M'.1 1 1 = M.1 1 1) (b1 : ∀ i, M'.1 2 i = M.1 2 i) (e2 : M2'.1 0 1 = M2.1 0 1) (b2 : ∀ i, M2'.1 1 i = M2.1 1 i) : qI M' M2' := ⟨i1, i2, by rw [e1, e2]; exact hI.2.2.1, fun i hi => by rw [b1, b2]; rw [e1] at hi; exact hI.2.2.2 i hi⟩
theorem qI_T {M M2 : fmM} (hI : qI M M2) : txF M (rT M2) := fun n hn => by
  have h6 : (M.1 1 1).toInt ≤ 600 := (hI.1.1 1 1 (by decide)).2
  refine ⟨rT_ok (inv_fed hI.2.1) (by omega), fun i hi => ?_⟩
  have e : rT M2 n i = (M2.1 1 i).toInt := if_pos hi
  rw [e]
  exact hI.2.2.2 i (by omega)
-- ALL THAT IS TOLD, LAW AND STATES, on both sides
def kpl (P : List (Nat × Nat) × List (Nat × Nat)) (M M' : fmM) : Prop := ∀ k j, kpIn P k j = true → M'.1 k j = M.1 k j ∧ M'.2 k j = M.2 k j
theorem kpl.refl {P : List (Nat × Nat) × List (Nat × Nat)} (M : fmM) : kpl P M M := fun _ _ _ => ⟨rfl, rfl⟩
theorem kpl.trans {P : List (Nat × Nat) × List (Nat × Nat)} {M M1 M2 : fmM} (h : kpl P M M1) (h' : kpl P M1 M2) : kpl P M M2 := fun k j hk => ⟨(h' k j hk).1.trans (h k j hk).1, (h' k j hk).2.trans (h k j hk).2⟩
theorem kpl.put {P : List (Nat × Nat) × List (Nat × Nat)} {M M1 : fmM} {a b : Nat} {x : Int32} (h : kpl P M M1) (hn : kpIn P a b = false) : kpl P M (fmI M1 a b x) := fun k j hk => ⟨by
  rw [fmI_at, if_neg (by intro h9; rw [← h9.1, ← h9.2, hk] at hn; cases hn)]
  exact (h k j hk).1, (h k j hk).2⟩
theorem kpl_of {P : List (Nat × Nat) × List (Nat × Nat)} {W : List (Nat × Nat × Nat)} {M M' : fmM} (h : scFr W M M') (hd : kpOk P W = true) : kpl P M M' := fun k j hk => by
  refine h k j ?_
  cases e : scIn W k j with
  | false => rfl
  | true =>
    exfalso
    obtain ⟨w, hw, h2⟩ := List.any_eq_true.mp e
    simp only [Bool.and_eq_true, Nat.ble_eq, beq_iff_eq, Nat.blt_eq] at h2
    unfold kpOk at hd
    rw [Bool.and_eq_true] at hd
    unfold kpIn at hk
    rw [Bool.or_eq_true] at hk
    rcases hk with hk | hk
    · obtain ⟨p, hp, h1⟩ := List.any_eq_true.mp hk
      have h3 := List.all_eq_true.mp (List.all_eq_true.mp hd.1 p hp) w hw
      simp only [Bool.and_eq_true, Nat.ble_eq] at h1
      simp only [Bool.or_eq_true, Nat.blt_eq] at h3
      omega
    · obtain ⟨p, hp, h1⟩ := List.any_eq_true.mp hk
      have h3 := List.all_eq_true.mp (List.all_eq_true.mp hd.2 p hp) w hw
      simp only [Bool.and_eq_true, Nat.beq_eq] at h1
      simp only [Bool.or_eq_true, Nat.ble_eq, Nat.blt_eq] at h3
      omega
abbrev pX : List (Nat × Nat) × List (Nat × Nat) := ([(3, 12), (24, 24), (46, 189)], [(23, 3), (0, 13), (0, 14)])
abbrev pM : List (Nat × Nat) × List (Nat × Nat) := ([(4, 4), (7, 7), (35, 42), (67, 250), (503, 521)], [(0, 17), (0, 32), (0, 33), (0, 34)])
abbrev pXo : List (Nat × Nat) × List (Nat × Nat) := ([(3, 12), (46, 189)], [(0, 13), (0, 14)])
abbrev pMo : List (Nat × Nat) × List (Nat × Nat) := ([(4, 4), (7, 7), (35, 42), (67, 90), (503, 521)], [(0, 32), (0, 33), (0, 34)])
theorem pXo_c {M M' : fmM} (h : kpl pXo M M') : (∀ k j, 3 ≤ k → k ≤ 12 → M'.1 k j = M.1 k j) ∧ skX M M' ∧ M'.1 0 14 = M.1 0 14 := by
  have kk : ∀ k j, (3 ≤ k ∧ k ≤ 12) ∨ (46 ≤ k ∧ k ≤ 189) → kpIn pXo k j = true := fun k j h => by
    simp only [kpIn, List.any_cons, List.any_nil, Bool.or_eq_true, Bool.and_eq_true, Nat.ble_eq, Nat.beq_eq, Bool.false_eq_true, or_false]
    omega
  exact ⟨fun k j a b => (h k j (kk k j (Or.inl ⟨a, b⟩))).1, ⟨fun k a b j => h k j (kk k j (Or.inr ⟨a, by omega⟩)), (h 0 13 rfl).1⟩, (h 0 14 rfl).1⟩
theorem pMo_c {M M' : fmM} (h : kpt pMo M M') : (∀ k j, k = 4 ∨ (35 ≤ k ∧ k < 43) ∨ (67 ≤ k ∧ k < 91) → M'.1 k j = M.1 k j) ∧ skM M M' ∧ M'.1 0 33 = M.1 0 33 := by
  have kk : ∀ k j, (k = 4 ∨ k = 7 ∨ (35 ≤ k ∧ k ≤ 42) ∨ (67 ≤ k ∧ k ≤ 90) ∨ (503 ≤ k ∧ k ≤ 521)) → kpIn pMo k j = true := fun k j h => by
    simp only [kpIn, List.any_cons, List.any_nil, Bool.or_eq_true, Bool.and_eq_true, Nat.ble_eq, Nat.beq_eq, Bool.false_eq_true, or_false]
    omega
  exact ⟨fun k j a => h k j (kk k j (by omega)), ⟨fun k j a => h k j (kk k j (by omega)), h 0 32 rfl, h 0 34 rfl⟩, h 0 33 rfl⟩
def rC (M M2 : fmM) : Prop := ∃ (D : dD) (cs : tC), dOk D ∧ xdw 3 M D ∧ mdw M2 D ∧ lwX M cs ∧ lwM M2 cs ∧ (cs = [] ∨ dpB 23 0 cs = some 1) ∧ rSt M M2 D ∧ M.1 0 14 = M2.1 0 33
theorem rC_mk {M M' M2 M2' : fmM} {D : dD} {cs : tC} (hD : dOk D) (hX : xdw 3 M D) (hY : mdw M2 D) (hL : lwX M cs) (hM : lwM M2 cs) (hd : cs = [] ∨ dpB 23 0 cs = some 1) (a1 : ∀ k j, 3 ≤ k → k ≤ 12 → M'.1 k j = M.1 k j) (a2 : M'.1 23 3 = M.1 23 3) (a3 : ∀ j, M'.1 24 j = M.1 24 j) (b1 : ∀ k j, k = 4 ∨ (35 ≤ k ∧ k < 43) ∨ (67 ≤ k ∧ k < 91) → M2'.1 k j = M2.1 k j) (b2 : M2'.1 0 17 = M2.1 0 17) (b3 : ∀ k j, 91 ≤ k → k < 251 → M2'.1 k j = M2.1 k j) (hr : rSt M' M2' D) (e : M'.1 0 14 = M2'.1 0 33) : rC M' M2' := ⟨D, cs, hD, hX.of (fun k j a b => a1 k j a (by omega)), hY.k hD b1, hL.f a2 a3, hM.f2 b2 b3, hd, hr, e⟩
theorem rC_keep {M M' M2 M2' : fmM} (h : rC M M2) (k1 : kpl pX M M') (k2 : kpt pM M2 M2') : rC M' M2' := by
  obtain ⟨D, cs, hD, hX, hY, hL, hM, hd, hr, e⟩ := h
  have kx : kpl pXo M M' := fun k j hk => k1 k j (by
    simp only [kpIn, List.any_cons, List.any_nil, Bool.or_eq_true, Bool.and_eq_true, Nat.ble_eq, Nat.beq_eq, Bool.false_eq_true, or_false] at hk ⊢
    omega)
  have km : kpt pMo M2 M2' := fun k j hk => k2 k j (by
    simp only [kpIn, List.any_cons, List.any_nil, Bool.or_eq_true, Bool.and_eq_true, Nat.ble_eq, Nat.beq_eq, Bool.false_eq_true, or_false] at hk ⊢
    omega)
  have cx := pXo_c kx
  have cm := pMo_c km
  exact rC_mk hD hX hY hL hM hd cx.1 (k1 23 3 rfl).1 (fun j => (k1 24 j (by simp [kpIn])).1) cm.1 (k2 0 17 rfl) (fun k j a b => k2 k j (by
    simp only [kpIn, List.any_cons, List.any_nil, Bool.or_eq_true, Bool.and_eq_true, Nat.ble_eq, Nat.beq_eq, Bool.false_eq_true, or_false]
    omega)) (hr.keep hD.1 cx.2.1 cm.2.1) (by rw [cx.2.2, cm.2.2]; exact e)
theorem lwX_0 {M : fmM} (e : M.1 23 3 = 3) (e0 : M.1 24 0 = -1) (e1 : M.1 24 1 = -1) (e2 : M.1 24 2 = -8) : lwX M [] := by
  refine ⟨by rw [e]; decide, by decide, fun i c hi => ?_, by decide⟩
  have hi : [((1 : Nat), (0 : Nat)), (1, 0), (2, 0)][i]? = some c := hi
  match i, hi with
  | 0, h => cases h; rw [e0]; decide
  | 1, h => cases h; rw [e1]; decide
  | 2, h => cases h; rw [e2]; decide
  | i + 3, h => simp at h
theorem lwM_0 {M : fmM} (e : M.1 0 17 = 0) : lwM M [] := ⟨by rw [e]; decide, by decide, Or.inl rfl, fun i c h => (by simp at h)⟩
theorem rC_new {M M2 M3 : fmM} {D : dD} (h : dwNew M D) (hs : stNew M D) (h2 : sdOk M3 M2 D) : rC M M2 := ⟨D, [], h.1, h.2.1, h2.1, lwX_0 h.2.2.2.2.1 h.2.2.2.2.2.1 h.2.2.2.2.2.2.1 h.2.2.2.2.2.2.2, lwM_0 h2.2.2.1.1, Or.inl rfl, rSt_new h hs h2, hs.2.2.2.2.2.2.2.trans h2.2.2.1.2.2.2.1.symm⟩
theorem rC_0 {M M2 : fmM} (hx : xInit M) (hm : mInit M2) : rC M (m9 M2) := by
  have e3 : M.1 3 = mX.1 3 := hx.1 3 (by decide) (by decide)
  have e14 : M.1 0 14 = 0 := by rw [hx.1 0 (by decide) (by decide)]; rfl
  have e33 : (m9 M2).1 0 33 = 0 := by rw [m9_k (by decide)]; exact hm.2.2.1.2.2.2.1
  refine ⟨dD0, [], dOk_0, ?_, ?_, lwX_0 (by rw [hx.1 23 (by decide) (by decide)]; rfl) (by rw [hx.1 24 (by decide) (by decide)]; rfl) (by rw [hx.1 24 (by decide) (by decide)]; rfl) (by rw [hx.1 24 (by decide) (by decide)]; rfl), lwM_0 (by rw [m9_k (by decide)]; exact hm.2.2.1.1), Or.inl rfl, rSt_0 hx hm, e14.trans e33.symm⟩
  · refine ⟨⟨?_, ?_, ?_, ?_, ?_, ?_⟩, fun i h => (by cases h), fun i h => (by cases h)⟩
    all_goals rw [e3]; decide
  · obtain ⟨g1, g2, g3, g4, g5⟩ := hm.1
    refine ⟨?_, ?_, fun k a b => ?_, fun i h => (by cases h), fun i h => (by cases h)⟩
    · rw [m9_k (by decide)]; exact g1
    · rw [m9_k (by decide)]; exact g2
    · rw [m9_k (by decide)]; exact g3 k a b
abbrev pXl : List (Nat × Nat) × List (Nat × Nat) := ([(24, 24)], [(23, 3)])
abbrev pMl : List (Nat × Nat) × List (Nat × Nat) := ([(91, 250)], [(0, 17)])
theorem kp_putL {P : List (Nat × Nat) × List (Nat × Nat)} {M M1 : fmM} {a b : Nat} {x : Int32} (h : kpt P M M1) (hn : kpIn P a b = false) : kpt P M (fmI M1 a b x) := fun k j hk => by
  rw [fmI_at, if_neg (by intro h9; rw [← h9.1, ← h9.2, hk] at hn; cases hn)]
  exact h k j hk
theorem kp_opL {P : List (Nat × Nat) × List (Nat × Nat)} {M : fmM} {nn : Int32} (h : ∀ j, kpIn P 1 j = false) : kpt P M (opM M nn) := fun k j hk => by
  have h1 : k ≠ 1 := by
    rintro rfl
    rw [h] at hk
    cases hk
  unfold opM
  rw [fmI_k _ _ h1, fmI_k _ _ h1, fmI_k _ _ h1, fmI_k _ _ h1, fmI_k _ _ h1]
theorem kp_xlb {M M' : fmM} {k a : Nat} (h : xlBad M M' k a) : kpt pXl M M' := fun k j hk => by
  simp only [kpIn, List.any_cons, List.any_nil, Bool.or_eq_true, Bool.and_eq_true, Nat.ble_eq, Nat.beq_eq, Bool.false_eq_true, or_false] at hk
  exact h.2.2.2.2.1 k j (by omega) (by omega) (by omega)
theorem kp_lwb {M M' : fmM} {a : Nat} (h : lawBad M M' a) : kpt pMl M M' := fun k j hk => by
  simp only [kpIn, List.any_cons, List.any_nil, Bool.or_eq_true, Bool.and_eq_true, Nat.ble_eq, Nat.beq_eq, Bool.false_eq_true, or_false] at hk
  by_cases e : k = 0
  · subst e
    have e2 : j = 17 := by omega
    rw [e2]
    exact h.2.2.2.1
  · exact h.2.2.2.2.1 k j (by omega) (by omega)
theorem xcs_ne {cs : tC} (h : dpB 23 0 cs = some 1) : xcs cs = cs := by
  unfold xcs
  refine if_neg (fun e => ?_)
  rw [e] at h
  cases h
theorem xl_O {M : fmM} {T : Nat → tX} {nn : Int32} (hI : scInv Tx invX M) (hT : txF M T) : pvGood Tx 41 qX10_law [.ref 0, .int nn] M (fun _ M' => ouO (txP nn 150 (M.1 1 1).toInt) nn (fun n => spLaw (T n) n) (fun cs => lwX M' cs ∧ dpB 23 0 cs = some 1) (kpt pXl M M')) := c_xlaw hI hT (fun h => Or.inl ⟨h, kp_putL (kpt.refl M) rfl⟩) (fun n M' cs hn h e hE => Or.inr (Or.inl ⟨h, n, cs, hn, e, (by
    have hd := spLaw_dpB e
    have hx := xcs_ne hd
    refine ⟨?_, hd⟩
    unfold lwX
    rw [hx]
    exact ⟨hE.1, hE.2.1, hE.2.2.1, hd⟩)⟩)) (fun n k a M' r hn h e hr hb => Or.inr (Or.inr ⟨h, n, k, a, hn, e, (kp_opL (fun _ => rfl)).trans (kp_xlb hb)⟩))
theorem ml_O {M : fmM} {nn : Int32} (hI : scInv Tm invM M) : pvGood Tm 27 qX11_law [.ref 0, .int nn] M (fun _ M' => ouO (txP nn 150 (M.1 0 1).toInt) nn (fun n => spLaw (rT M n) n) (fun cs => lwM M' cs) (kpt pMl M M')) := c_law (inv_fed hI) (fun hn => Or.inl ⟨fun h => hn ⟨h.1, h.2.2, h.2.1⟩, kp_rf.sub (by decide) (by decide)⟩) (fun n0 cs M' e1 e2 e3 e hd h => Or.inr (Or.inl ⟨⟨by omega, by omega, by omega⟩, n0, cs, e1, e, h.2.2.1, (by have := h.2.2.2.1; omega), Or.inr hd, h.2.2.2.2.1⟩)) (fun n0 k a r M' e1 e2 e3 e _ hr h => Or.inr (Or.inr ⟨⟨by omega, by omega, by omega⟩, n0, k, a, e1, e, kp_lwb h⟩))
def pI (M M2 : fmM) : Prop := qI M M2 ∧ rC M M2
theorem pI_0 {M M2 : fmM} (hx : xInit M) (hm : mInit M2) : pI M (m9 M2) := ⟨qI_0 hx hm, rC_0 hx hm⟩
theorem kp_putA {P : List (Nat × Nat) × List (Nat × Nat)} {M M1 : fmM} {a b : Nat} {x : Int32} (h : kpt P M M1) (hn : kpIn P a b = false) : kpt P M (fmI M1 a b x) := fun k j hk => by
  rw [fmI_at, if_neg (by intro h9; rw [← h9.1, ← h9.2, hk] at hn; cases hn)]
  exact h k j hk
theorem kp_rfA {M : fmM} {w : Int32} {r : Nat} (hr : r < 2) : kpt pMo M (rfM M w r) := by
  unfold rfM
  refine kp_putA (kp_putA (kp_putA (kpt.refl M) rfl) rfl) ?_
  rcases (show r = 0 ∨ r = 1 by omega) with rfl | rfl <;> rfl
theorem kp_rfB {M : fmM} {w : Int32} {r : Nat} (hr : r < 2) : kpt pM M (rfM M w r) := by
  unfold rfM
  refine kp_putA (kp_putA (kp_putA (kpt.refl M) rfl) rfl) ?_
  rcases (show r = 0 ∨ r = 1 by omega) with rfl | rfl <;> rfl
theorem q_feed {M M2 : fmM} {a0 a1 a2 a3 a4 : Int32} (hI : qI M M2) : pvGood Tx 250 qX10_feed [.ref 0, .int a0, .int a1, .int a2, .int a3, .int a4] M (fun r M' => rkI false false r ∧ kpl pX M M' ∧ pvGood Tm 250 qX11_feed [.ref 0, .int a0, .int a1, .int a2, .int a3, .int a4] M2 (fun r2 M2' => tI r2 ∧ kpt pM M2 M2' ∧ qI M' M2')) := by
  have hb : 0 ≤ (M.1 1 1).toInt ∧ (M.1 1 1).toInt ≤ 600 := hI.1.1 1 1 (by decide)
  obtain ⟨f, hf⟩ : ∃ f : Nat, (M.1 1 1).toInt = (f : Int) := ⟨(M.1 1 1).toInt.toNat, by omega⟩
  have hf2 : (M2.1 0 1).toInt = (f : Int) := by rw [← hI.2.2.1]; exact hf
  have hby : byR M M2 f := fun i hi => hI.2.2.2 i (by omega)
  have ex : pvGood Tx 250 qX10_feed [.ref 0, .int a0, .int a1, .int a2, .int a3, .int a4] M (fun r M' => (600 < f + 20 ∧ M' = M) ∨ (f + 20 ≤ 600 ∧ M' = (puM (puM (puM (puM (puM M f a0) (f + 4) a1) (f + 4 + 4) a2) (f + 4 + 4 + 4) a3) (f + 4 + 4 + 4 + 4) a4))) := (c_xfeed hf (by omega) (fun h => Or.inl ⟨h, rfl⟩) (fun h => Or.inr ⟨h, rfl⟩)).up (by decide)
  have em : pvGood Tm 250 qX11_feed [.ref 0, .int a0, .int a1, .int a2, .int a3, .int a4] M2 (fun r M' => (600 < f + 20 ∧ M'.1 0 1 = M2.1 0 1 ∧ ∀ i, M'.1 1 i = M2.1 1 i) ∨ (f + 20 ≤ 600 ∧ feR (fmI M2 0 0 0) M' f 0 (fun i => fdB a0 a1 a2 a3 a4 (nI i)))) := (c_mfeed hf2 (by omega) (fun h => Or.inl ⟨h, rfl, fun _ => rfl⟩) (fun h M' h9 => Or.inr ⟨h, h9⟩)).up (by decide)
  have kx : pvGood Tx 250 qX10_feed [.ref 0, .int a0, .int a1, .int a2, .int a3, .int a4] M (fun _ M' => kpl pX M M') := (wsx_feed (scq_t a0) (scq_t a1) (scq_t a2) (scq_t a3) (scq_t a4) hI.1 (fun n M' _ h1 h2 => kpl_of h2 (by decide))).up (by decide)
  have km : pvGood Tm 250 qX11_feed [.ref 0, .int a0, .int a1, .int a2, .int a3, .int a4] M2 (fun _ M' => kpt pM M2 M') := (wsm_feed (scq_t a0) (scq_t a1) (scq_t a2) (scq_t a3) (scq_t a4) hI.2.1 (fun n M' _ h1 h2 => kp_of h2 (by decide))).up (by decide)
  refine (((sx_feed hI.1).and kx).and ex).imp (fun r M' h => ⟨h.1.1.1, h.1.2, (((sm_feed hI.2.1).and km).and em).imp (fun r2 M2' h2 => ⟨h2.1.1.1, h2.1.2, ?_⟩)⟩)
  rcases h.2 with ⟨p, e2⟩ | ⟨p, e2⟩ <;> rcases h2.2 with ⟨q, e4⟩ | ⟨q, e4⟩
  · subst e2
    exact qI_same hI h.1.1.2 h2.1.1.2 rfl (fun _ => rfl) e4.1 e4.2
  · omega
  · omega
  · have e20 : (M'.1 1 1).toInt = ((f + 20 : Nat) : Int) := by
      rw [e2]
      exact (pu_f (pu_f (pu_f (pu_f (pu_f hf (by omega)) (by omega)) (by omega)) (by omega)) (by omega)).trans (by omega)
    refine ⟨h.1.1.2, h2.1.1.2, i32_ext (e20.trans e4.1.symm), fun i hi => ?_⟩
    rw [e2]
    exact by_feed hby e4 i (by omega)
theorem st_feed : laS_feed pI := fun M M2 a0 a1 a2 a3 a4 hI => (q_feed hI.1).imp (fun r M' h => ⟨h.1, h.2.2.imp (fun r2 M2' h2 => ⟨h2.1, h2.2.2, rC_keep hI.2 h.2.1 h2.2.1⟩)⟩)
theorem kx_law {M : fmM} {a0 : Int32} (hI : scInv Tx invX M) : pvGood Tx 250 qX10_law [.ref 0, .int a0] M (fun _ M' => kpl pXo M M') := (wsx_law (scq_t a0) hI (fun n M' _ h1 h2 => kpl_of h2 (by decide)) (fun M' h1 h2 => kpl_of h2 (by decide))).up (by decide)
theorem kx_page {M : fmM} {a0 : Int32} (hI : scInv Tx invX M) : pvGood Tx 250 qX10_page [.ref 0, .int a0] M (fun _ M' => kpl pX M M') := (wsx_page (scq_t a0) hI (fun n M' _ h1 h2 => kpl_of h2 (by decide)) (fun M' h1 h2 => kpl_of h2 (by decide))).up (by decide)
theorem km_lawA {M : fmM} {a0 : Int32} (hI : scInv Tm invM M) : pvGood Tm 250 qX11_law [.ref 0, .int a0] M (fun _ M' => kpt pMo M M') := by
  have kl : ∀ M' : fmM, lawFr M M' → kpt pMo M M' := fun M' h k j hk => by
    simp only [kpIn, List.any_cons, List.any_nil, Bool.or_eq_true, Bool.and_eq_true, Nat.ble_eq, Nat.beq_eq, Bool.false_eq_true, or_false] at hk
    by_cases e : k = 0
    · subst e
      exact h.2.1 j (by omega) (by omega) (by omega)
    · exact h.1 k j e (by omega)
  exact (c_law (Q := fun _ M' => kpt pMo M M') (inv_fed hI) (fun _ => kp_rfA (by decide)) (fun n0 cs M' _ _ _ _ _ h => kl M' h.2.2.2.2.2) (fun n0 k a r M' _ _ _ _ _ _ h => kl M' h.2.2.2.2.2)).up (by decide)
theorem kp_stA {M M1 : fmM} {tx : tX} {n : Nat} (h : stOk (fmI M 0 0 0) M1 tx n) : kpt pM M M1 := fun k j hk => by
  simp only [kpIn, List.any_cons, List.any_nil, Bool.or_eq_true, Bool.and_eq_true, Nat.ble_eq, Nat.beq_eq, Bool.false_eq_true, or_false] at hk
  by_cases e : k = 0
  · subst e
    exact st_j h (by omega)
  · exact st_k h e
theorem km_pageA {M : fmM} {a0 : Int32} (hI : scInv Tm invM M) : pvGood Tm 250 qX11_page [.ref 0, .int a0] M (fun _ M' => kpt pM M M') := by
  have kl : ∀ M1 M' : fmM, pgFr M1 M' → kpt pM M1 M' := fun M1 M' h k j hk => by
    simp only [kpIn, List.any_cons, List.any_nil, Bool.or_eq_true, Bool.and_eq_true, Nat.ble_eq, Nat.beq_eq, Bool.false_eq_true, or_false] at hk
    by_cases e : k = 0
    · subst e
      exact h.2.1 j (by omega) (by omega) (by omega) (by omega) (by omega)
    · exact h.1 k j e (by omega)
  exact (c_page (Q := fun _ M' => kpt pM M M') (inv_fed hI) (fun _ => (kp_rfB (by decide))) (fun n0 M1 M2 ls r _ _ _ hs _ h _ => (kp_stA hs).trans (kl M1 M2 h.2.2.2.2.2.2)) (fun n0 k a M1 M2 r _ _ _ hs _ _ h _ => (kp_stA hs).trans (kl M1 M2 h.2.2.2))).up (by decide)
theorem xd_A {M : fmM} {T : Nat → tX} {nn : Int32} (hI : scInv Tx invX M) (hT : txF M T) : pvGood Tx 41 qX10_drawer [.ref 0, .int nn] M (fun _ M' => ouO (txP nn 600 (M.1 1 1).toInt) nn (fun n => spDrawer (T n) n) (fun D => dwNew M' D ∧ stNew M' D) (kpl pX M M')) := c_xdrawS hI hT (fun h => Or.inl ⟨h, (kpl.refl M).put rfl⟩) (fun n M' D r hn h e hr d s => Or.inr (Or.inl ⟨h, n, D, hn, e, d, s⟩)) (fun n k a M' r hn h e hr hb => Or.inr (Or.inr ⟨h, n, k, a, hn, e, kpl.trans (((((((kpl.refl M).put rfl).put rfl).put rfl).put rfl).put rfl) : kpl pX M (opM M nn)) (fun k j hk => by
    simp only [kpIn, List.any_cons, List.any_nil, Bool.or_eq_true, Bool.and_eq_true, Nat.ble_eq, Nat.beq_eq, Bool.false_eq_true, or_false] at hk
    exact hb.2.2.2.1.1 k j (by omega) (by omega))⟩))
theorem md_A {M : fmM} {nn : Int32} (hI : scInv Tm invM M) : pvGood Tm 6 qX11_drawer [.ref 0, .int nn] M (fun _ M' => ouO (txP nn 600 (M.1 0 1).toInt) nn (fun n => spDrawer (rT M n) n) (fun D => ∃ M3, sdOk M3 M' D) (kpt pM M M')) := by
  have h6 := tape6 hI
  refine c_drawer (inv_fed hI) h6 (fun hn => Or.inl ⟨fun h => hn ⟨h.1, h.2.2⟩, kp_rfB (by decide)⟩) (fun n0 M1 M2 D r e1 e2 hs e hD h hr => Or.inr (Or.inl ⟨⟨by omega, by omega, by omega⟩, n0, D, e1, e, ?_⟩)) (fun n0 k a M1 M2 r e1 e2 hs e hka h hr => Or.inr (Or.inr ⟨⟨by omega, by omega, by omega⟩, n0, k, a, e1, e, ?_⟩))
  · obtain ⟨h3, Mx, hF, hd⟩ := h
    exact ⟨_, hd⟩
  · obtain ⟨h1, Mx, hF, rfl⟩ := h
    refine kp_putA ((kp_stA hs).trans (fun k j hk => ?_)) rfl
    simp only [kpIn, List.any_cons, List.any_nil, Bool.or_eq_true, Bool.and_eq_true, Nat.ble_eq, Nat.beq_eq, Bool.false_eq_true, or_false] at hk
    by_cases e0 : k = 0
    · subst e0
      exact hF.2.1 j (by omega) (by omega) (by omega) (by omega)
    · exact hF.1 k j e0 (by omega) (by omega) (by omega)
theorem st_law : laS_law pI := fun M M2 a0 hI => ((((sx_law hI.1.1).and (c_olaw (Q := fun _ M' => txE M a0 150 M') hI.1.1 (fun _ _ h => h))).and (xl_O hI.1.1 (qI_T hI.1))).and (kx_law hI.1.1)).imp (fun r M' h => ⟨h.1.1.1.1, ((((sm_law hI.1.2.1).and (c_glaw (Q := fun _ M' => txG M2 a0 150 M') hI.1.2.1 (fun _ _ h => h))).and (ml_O hI.1.2.1)).and (km_lawA hI.1.2.1)).imp (fun r2 M2' h2 => ⟨h2.1.1.1.1, qI_tx hI.1 h.1.1.2 h2.1.1.2 h.1.1.1.2 h2.1.1.1.2, by
  obtain ⟨D, cs, hD, hX, hY, hL, hM, hd, hr, e⟩ := hI.2
  have cx := pXo_c h.2
  have cm := pMo_c h2.2
  have hr' := hr.keep hD.1 cx.2.1 cm.2.1
  have e' : M'.1 0 14 = M2'.1 0 33 := by rw [cx.2.2, cm.2.2]; exact e
  refine ouO_glue h.1.2 (by have h9 := h2.1.2; rw [← hI.1.2.2.1] at h9; exact h9) (fun k k2 => ?_) (fun cs' w w2 => ?_)
  · exact rC_mk hD hX hY hL hM hd cx.1 (k 23 3 rfl) (fun j => k 24 j (by simp [kpIn])) cm.1 (k2 0 17 rfl) (fun k9 j a b => k2 k9 j (by simp only [kpIn, List.any_cons, List.any_nil, Bool.or_eq_true, Bool.and_eq_true, Nat.ble_eq, Nat.beq_eq, Bool.false_eq_true, or_false]; omega)) hr' e'
  · exact ⟨D, cs', hD, hX.of (fun k j a b => cx.1 k j a (by omega)), hY.k hD cm.1, w.1, w2, Or.inr w.2, hr', e'⟩⟩)⟩)
theorem st_page : laS_page pI := fun M M2 a0 hI => (((sx_page hI.1.1).and (c_opage (Q := fun _ M' => txE M a0 60 M') hI.1.1 (fun _ _ h => h))).and (kx_page hI.1.1)).imp (fun r M' h => ⟨h.1.1.1, (((sm_page hI.1.2.1).and (c_gpage (Q := fun _ M' => txG M2 a0 60 M') hI.1.2.1 (fun _ _ h => h))).and (km_pageA hI.1.2.1)).imp (fun r2 M2' h2 => ⟨h2.1.1.1, qI_tx hI.1 h.1.2 h2.1.2 h.1.1.2 h2.1.1.2, rC_keep hI.2 h.2 h2.2⟩)⟩)
theorem st_drawer : laS_drawer pI := fun M M2 a0 hI => (((sx_drawer hI.1.1).and (c_odrawer (Q := fun _ M' => txE M a0 600 M') hI.1.1 (fun _ _ h => h))).and (xd_A hI.1.1 (qI_T hI.1))).imp (fun r M' h => ⟨h.1.1.1, (((sm_drawer hI.1.2.1).and (c_gdrawer (Q := fun _ M' => txG M2 a0 600 M') hI.1.2.1 (fun _ _ h => h))).and (md_A hI.1.2.1)).imp (fun r2 M2' h2 => ⟨h2.1.1.1, qI_tx hI.1 h.1.2 h2.1.2 h.1.1.2 h2.1.1.2, ouO_glue h.2 (by have h9 := h2.2; rw [← hI.1.2.2.1] at h9; exact h9) (rC_keep hI.2) (fun D w w2 => by obtain ⟨M3, w2⟩ := w2; exact rC_new w.1 w.2 w2)⟩)⟩)
/-- how a work can end, here and there -/
def woX (P : Prop) (w : Nat) (nn : Int32) (Sp : Nat → (Nat × Nat) ⊕ tS) (an : tS → Int) (r : fmR) (kept : Prop) (new : tS → Prop) : Prop := (¬ P ∧ r = .inr fmIAE ∧ kept) ∨ (P ∧ w = 16 ∧ r = .inl (some (.int (-20))) ∧ kept) ∨ (P ∧ w < 16 ∧ ∃ (n k a : Nat) (v : Int32), nn.toInt = (n : Int) ∧ Sp n = .inl (k, a) ∧ r = .inl (some (.int v)) ∧ v.toInt = (k : Int) - 10 ∧ kept) ∨ (P ∧ w < 16 ∧ ∃ (n : Nat) (ss : tS) (v : Int32), nn.toInt = (n : Int) ∧ Sp n = .inr ss ∧ r = .inl (some (.int v)) ∧ v.toInt = an ss ∧ new ss)
def woY (P : Prop) (w : Nat) (nn : Int32) (Sp : Nat → (Nat × Nat) ⊕ tS) (an : tS → Int) (r : fmR) (t : Int32) (kept : Prop) (new : tS → Prop) : Prop := (¬ P ∧ t = 1 ∧ kept) ∨ (P ∧ w = 16 ∧ r = .inl (some (.int (-20))) ∧ t = 0 ∧ kept) ∨ (P ∧ w < 16 ∧ ∃ (n k a : Nat) (v : Int32), nn.toInt = (n : Int) ∧ Sp n = .inl (k, a) ∧ r = .inl (some (.int v)) ∧ v.toInt = (k : Int) - 10 ∧ t = 0 ∧ kept) ∨ (P ∧ w < 16 ∧ ∃ (n : Nat) (ss : tS) (v : Int32), nn.toInt = (n : Int) ∧ Sp n = .inr ss ∧ r = .inl (some (.int v)) ∧ v.toInt = an ss ∧ t = 0 ∧ new ss)
theorem wo_glue {P : Prop} {w : Nat} {nn : Int32} {Sp : Nat → (Nat × Nat) ⊕ tS} {an : tS → Int} {r r2 : fmR} {k1 k2 : Prop} {n1 n2 : tS → Prop} {R : Prop} {M2 : fmM} (h : woX P w nn Sp an r k1 n1) (h2 : woY P w nn Sp an r2 (M2.1 0 0) k2 n2) (hk : k1 → k2 → R) (hn : ∀ ss, n1 ss → n2 ss → R) : mtI 1 0 r r2 M2 ∧ R := by
  rcases h with ⟨p, e, k⟩ | ⟨p, e0, e, k⟩ | ⟨p, e0, n, kk, a, v, en, es, e, ev, k⟩ | ⟨p, e0, n, ss, v, en, es, e, ev, k⟩ <;> rcases h2 with ⟨q, f, g⟩ | ⟨q, f0, f, ft, g⟩ | ⟨q, f0, m, kk2, a2, v2, fn, fs, f, fv, ft, g⟩ | ⟨q, f0, m, ss2, v2, fn, fs, f, fv, ft, g⟩
  all_goals first
    | exact absurd q p
    | exact absurd p q
    | omega
    | skip
  · subst e
    exact ⟨⟨fun _ => f, fun h => absurd h (by decide)⟩, hk k g⟩
  · subst e
    subst f
    exact ⟨⟨ft, rfl⟩, hk k g⟩
  · have em : m = n := by omega
    subst em
    rw [es] at fs
    cases fs
    have ee : v2 = v := i32_ext (fv.trans ev.symm)
    subst ee
    subst e
    subst f
    exact ⟨⟨ft, rfl⟩, hk k g⟩
  · have em : m = n := by omega
    subst em
    rw [es] at fs
    cases fs
  · have em : m = n := by omega
    subst em
    rw [es] at fs
    cases fs
  · have em : m = n := by omega
    subst em
    rw [es] at fs
    cases fs
    have ee : v2 = v := i32_ext (fv.trans ev.symm)
    subst ee
    subst e
    subst f
    exact ⟨⟨ft, rfl⟩, hn ss k g⟩
theorem rC_w {M M2 : fmM} {D : dD} (hx : scInv Tx invX M) (hr : rSt M M2 D) : ∃ (w : Nat) (S : aS), (M.1 46 2).toInt = (w : Int) ∧ w ≤ 16 ∧ (M2.1 0 32).toInt = (w : Int) ∧ xst M D S ∧ mst M2 D S ∧ stO D S := by
  have h1 : 0 ≤ (M.1 46 2).toInt ∧ (M.1 46 2).toInt ≤ 16 := hx.1 46 2 (by decide)
  have e : M.1 46 2 = M2.1 0 32 := hr.1.1
  obtain ⟨S, a, b, c⟩ := hr.1.2.1
  exact ⟨(M.1 46 2).toInt.toNat, S, by omega, by omega, by rw [← e]; omega, a, b, c⟩
theorem rC_i {M M2 : fmM} {D : dD} (hx : scInv Tx invX M) (hr : rSt M M2 D) : ∃ i : Nat, (M.1 0 13).toInt = (i : Int) ∧ i ≤ 3 ∧ (M2.1 0 34).toInt = (i : Int) := by
  have hb : 0 ≤ (M.1 0 13).toInt ∧ (M.1 0 13).toInt ≤ 3 := hx.1 0 13 (by decide)
  exact ⟨(M.1 0 13).toInt.toNat, by omega, by omega, by rw [← hr.2.1]; omega⟩
theorem kpl_wf {M M' : fmM} {nn : Int32} (h : wFr 0 (rdM (opM M nn)) M') : kpl pX M M' := fun k j hk => by
  simp only [kpIn, List.any_cons, List.any_nil, Bool.or_eq_true, Bool.and_eq_true, Nat.ble_eq, Nat.beq_eq, Bool.false_eq_true, or_false] at hk
  exact wo_38 h k (by omega) (by omega) j
theorem kpt_wf {M M' : fmM} (h : woF M M') : kpt pM M M' := fun k j hk => by
  simp only [kpIn, List.any_cons, List.any_nil, Bool.or_eq_true, Bool.and_eq_true, Nat.ble_eq, Nat.beq_eq, Bool.false_eq_true, or_false] at hk
  by_cases e : k = 0
  · subst e
    exact h.2.1 j (by omega)
  · exact h.1 k j e (by omega)
theorem st_work : laS_work pI := fun M M2 a0 hI => by
  obtain ⟨D, cs, hD, hX, hY, hL, hM, hd, hr, e⟩ := hI.2
  obtain ⟨w, S, h1, h2, h3, hs, ht, ho⟩ := rC_w hI.1.1 hr
  have ex : pvGood Tx 250 qX10_work [.ref 0, .int a0] M (fun r M' => woX (txP a0 150 (M.1 1 1).toInt) w a0 (fun n => spWork (rT M2 n) n D.1) (fun ss => ((goW D cs ss S).2.2.1 : Int)) r (kpl pX M M') (fun ss => xst M' D (goW D cs ss S).1 ∧ stO D (goW D cs ss S).1 ∧ (M'.1 0 14).toInt = ((goW D cs ss S).2.2.2 : Int) ∧ wkK w M M')) := (c_xwoS hI.1.1 (qI_T hI.1) hD hX hL hs ho h1 h2 (fun h => Or.inl ⟨h, rfl, (kpl.refl M).put rfl⟩) (fun h hf => Or.inr (Or.inl ⟨h, hf, rfl, ((((((kpl.refl M).put rfl).put rfl).put rfl).put rfl).put rfl : kpl pX M (opM M a0))⟩)) (fun n k a r M' hn h hl es er hf => Or.inr (Or.inr (Or.inl ⟨h, hl, n, k, a, r, hn, es, rfl, er, kpl_wf hf⟩))) (fun n ss r M' hn h hl es er a b c d => Or.inr (Or.inr (Or.inr ⟨h, hl, n, ss, r, hn, es, rfl, er, a, b, c, d⟩)))).up (by decide)
  have em : pvGood Tm 250 qX11_work [.ref 0, .int a0] M2 (fun r M' => woY (txP a0 150 (M2.1 0 1).toInt) w a0 (fun n => spWork (rT M2 n) n D.1) (fun ss => ((goW D cs ss S).2.2.1 : Int)) r (M'.1 0 0) (kpt pM M2 M') (fun ss => mAll M' D cs (goW D cs ss S) ∧ woK w M2 M')) := (c_mwoS hI.1.2.1 hD hY hM hd ht ho h3 h2 (fun h => Or.inl ⟨h, rfl, kp_rfB (by decide)⟩) (fun h hf => Or.inr (Or.inl ⟨h, hf, rfl, rfl, kp_putA (kp_putA (kp_putA (kpt.refl M2) rfl) rfl) rfl⟩)) (fun n k a r M' hn h hl es er hf => Or.inr (Or.inr (Or.inl ⟨h, hl, n, k, a, r, hn, es, rfl, er, hf.2.2.2, kpt_wf hf⟩))) (fun n ss M' hn h hl es a b => Or.inr (Or.inr (Or.inr ⟨h, hl, n, ss, _, hn, es, rfl, a.2.2.2.2.2.2.1, b.2.2.2.2.2.2, a, b⟩)))).up (by decide)
  exact (((sx_work hI.1.1).and (c_owork (Q := fun _ M' => txE M a0 150 M') hI.1.1 (fun _ _ h => h))).and ex).imp (fun r M' h => ⟨h.1.1.1, (((sm_work hI.1.2.1).and (c_gwork (Q := fun _ M' => txG M2 a0 150 M') hI.1.2.1 (fun _ _ h => h))).and em).imp (fun r2 M2' h2 => by
    have g : mtI 1 0 r r2 M2' ∧ rC M' M2' := wo_glue h.2 (by have h9 := h2.2; rw [← hI.1.2.2.1] at h9; exact h9) (rC_keep hI.2) (fun ss w1 w2 => by
      obtain ⟨a1, a2, a3, a4⟩ := w1
      obtain ⟨b1, b2⟩ := w2
      have hw16 : w < 16 := by
        have h9 := a4.2.2.2
        have h8 : (M'.1 46 2).toInt ≤ 16 := (h.1.1.2.1 46 2 (by decide)).2
        rw [h9, i32_p1 h1 (by omega)] at h8
        omega
      exact rC_mk hD hX hY hL hM hd (fun k j p q => (a4.1 k (by omega) j).1) (a4.1 23 (by omega) 3).1 (fun j => (a4.1 24 (by omega) j).1) (fun k j p => b2.1 k j (by omega) (by omega) (by omega) (by omega) (by omega) (by omega)) b2.2.2.2.2.2.1 (fun k j p q => b2.1 k j (by omega) (by omega) (by omega) (by omega) (by omega) (by omega)) (hr.wo hD.1 h1 hw16 a1 b1.2.2.2.1 a2 a4 b2) (i32_ext (a3.trans b1.2.2.2.2.2.2.2.1.symm)))
    exact ⟨h2.1.1.1, qI_tx hI.1 h.1.2 h2.1.2 h.1.1.2 h2.1.1.2, g.2⟩)⟩)
theorem sy_fault {M : fmM} (hI : scInv Tx invX M) : pvGood Tx 250 qX10_fault [.ref 0] M (fun r M' => rkI false false r ∧ scInv Tx invX M' ∧ M'.1 1 1 = M.1 1 1 ∧ (∀ i, M'.1 2 i = M.1 2 i) ∧ kpl pX M M') := (wsx_fault  hI (fun n M' _ h1 h2 => ⟨Or.inl ⟨n, rfl⟩, h1, (h2 1 1 rfl).1, (fun i => (h2 2 i rfl).1), kpl_of h2 (by decide)⟩)).up (by decide)
theorem sn_fault {M : fmM} (hI : scInv Tm invM M) : pvGood Tm 250 qX11_fault [.ref 0] M (fun r M' => tI r ∧ scInv Tm invM M' ∧ M'.1 0 1 = M.1 0 1 ∧ (∀ i, M'.1 1 i = M.1 1 i) ∧ kpt pM M M') := (wsm_fault  hI (fun n M' _ h1 h2 => ⟨⟨n, rfl⟩, h1, (h2 0 1 rfl).1, (fun i => (h2 1 i rfl).1), kp_of h2 (by decide)⟩)).up (by decide)
theorem st_fault : laS_fault pI := fun M M2 hI => (sy_fault hI.1.1).imp (fun r M' h => ⟨h.1, (sn_fault hI.1.2.1).imp (fun r2 M2' h2 => ⟨h2.1, qI_same hI.1 h.2.1 h2.2.1 h.2.2.1 h.2.2.2.1 h2.2.2.1 h2.2.2.2.1, rC_keep hI.2 h.2.2.2.2 h2.2.2.2.2⟩)⟩)
theorem sy_undo {M : fmM} (hI : scInv Tx invX M) : pvGood Tx 250 qX10_undo [.ref 0] M (fun r M' => rkI false false r ∧ scInv Tx invX M' ∧ M'.1 1 1 = M.1 1 1 ∧ (∀ i, M'.1 2 i = M.1 2 i) ∧ kpl ([], []) M M') := (wsx_undo  hI (fun n M' _ h1 h2 => ⟨Or.inl ⟨n, rfl⟩, h1, (h2 1 1 rfl).1, (fun i => (h2 2 i rfl).1), kpl_of h2 (by decide)⟩)).up (by decide)
theorem sn_undo {M : fmM} (hI : scInv Tm invM M) : pvGood Tm 250 qX11_undo [.ref 0] M (fun r M' => tI r ∧ scInv Tm invM M' ∧ M'.1 0 1 = M.1 0 1 ∧ (∀ i, M'.1 1 i = M.1 1 i) ∧ kpt ([], []) M M') := (wsm_undo  hI (fun n M' _ h1 h2 => ⟨⟨n, rfl⟩, h1, (h2 0 1 rfl).1, (fun i => (h2 1 i rfl).1), kp_of h2 (by decide)⟩)).up (by decide)
theorem st_undo : laS_undo pI := fun M M2 hI => by
  obtain ⟨D, cs, hD, hX, hY, hL, hM, hd, hr, e⟩ := hI.2
  obtain ⟨w, S, h1, h2, h3, hs, ht, ho⟩ := rC_w hI.1.1 hr
  have ew : M.1 46 2 = M2.1 0 32 := hr.1.1
  have ex : pvGood Tx 250 qX10_undo [.ref 0] M (fun r M' => (w = 0 ∧ r = .inl (some (.int (-1))) ∧ M' = M) ∨ (0 < w ∧ r = .inl (some (.int (M.1 46 2 - 1))) ∧ ∃ M1, cpR 47 48 (50 + (w - 1)) (66 + (w - 1)) (fmI M 46 2 (M.1 46 2 - 1)) M1 ∧ M' = fmI (fmI M1 0 14 0) 34 5 0)) := (c_xunS h1 h2 (fun h => Or.inl ⟨h, rfl, rfl⟩) (fun h M1 k => Or.inr ⟨h, rfl, M1, k, rfl⟩)).up (by decide)
  have em : pvGood Tm 250 qX11_undo [.ref 0] M2 (fun r M' => (w = 0 ∧ r = .inl (some (.int (-1))) ∧ M' = fmI M2 0 0 0) ∨ (0 < w ∧ r = .inl (some (.int (M2.1 0 32 - 1))) ∧ ∃ M1, cpB (503 + (w - 1)) 7 14 (fmI (fmI M2 0 0 0) 0 32 (M2.1 0 32 - 1)) M1 ∧ M' = fmI M1 0 33 0)) := (c_munS h3 h2 (fun h => Or.inl ⟨h, rfl, rfl⟩) (fun h M1 k => Or.inr ⟨h, rfl, M1, k, rfl⟩)).up (by decide)
  exact ((sy_undo hI.1.1).and ex).imp (fun r M' h => ⟨h.1.1, ((sn_undo hI.1.2.1).and em).imp (fun r2 M2' h2' => by
    have g : r2 = r ∧ rC M' M2' := by
      rcases h.2 with ⟨p, e1, k⟩ | ⟨p, e1, M1, k, e9⟩ <;> rcases h2'.2 with ⟨p2, e2, k2⟩ | ⟨p2, e2, N1, k2, e8⟩
      · rw [k, k2]
        exact ⟨e2.trans e1.symm, rC_keep hI.2 (kpl.refl _) (kp_putA (kpt.refl M2) rfl)⟩
      · omega
      · omega
      · rw [e9, e8]
        refine ⟨by rw [e1, e2, ew], rC_mk hD hX hY hL hM hd (fun k' j a b => ?_) ?_ (fun j => ?_) (fun k' j a => ?_) ?_ (fun k' j a b => ?_) (hr.un hD.1 h1 p h2 k k2) ?_⟩
        · rw [fmI_k _ _ (by omega), fmI_k _ _ (by omega), k.2.1 k' j (by omega) (by omega), fmI_k _ _ (by omega)]
        · rw [fmI_k _ _ (by decide), fmI_k _ _ (by decide), k.2.1 23 3 (by decide) (by decide), fmI_k _ _ (by decide)]
        · rw [fmI_k _ _ (by decide), fmI_k _ _ (by decide), k.2.1 24 j (by decide) (by decide), fmI_k _ _ (by decide)]
        · rw [fmI_k _ _ (by omega), k2.2.1 k' j (by omega), fmI_k _ _ (by omega), fmI_k _ _ (by omega)]
        · rw [fmI_j _ _ (by decide), k2.2.1 0 17 (by omega), fmI_j _ _ (by decide), fmI_j _ _ (by decide)]
        · rw [fmI_k _ _ (by omega), k2.2.1 k' j (by omega), fmI_k _ _ (by omega), fmI_k _ _ (by omega)]
        · rw [fmI_k _ _ (by decide), fmI_s, fmI_s]
    exact ⟨h2'.1.1, qI_same hI.1 h.1.2.1 h2'.1.2.1 h.1.2.2.1 h.1.2.2.2.1 h2'.1.2.2.1 h2'.1.2.2.2.1, g.2⟩)⟩)
theorem sy_told {M : fmM} {a0 : Int32} (hI : scInv Tx invX M) : pvGood Tx 250 qX10_told [.ref 0, .int a0] M (fun r M' => rkI true false r ∧ scInv Tx invX M' ∧ M'.1 1 1 = M.1 1 1 ∧ (∀ i, M'.1 2 i = M.1 2 i) ∧ kpl pX M M') := (wsx_told (scq_t a0) hI (fun n M' _ h1 h2 => ⟨Or.inl ⟨n, rfl⟩, h1, (h2 1 1 rfl).1, (fun i => (h2 2 i rfl).1), kpl_of h2 (by decide)⟩) (fun M' h1 h2 => ⟨Or.inr (Or.inl ⟨rfl, rfl⟩), h1, (h2 1 1 rfl).1, (fun i => (h2 2 i rfl).1), kpl_of h2 (by decide)⟩)).up (by decide)
theorem sn_told {M : fmM} {a0 : Int32} (hI : scInv Tm invM M) : pvGood Tm 250 qX11_told [.ref 0, .int a0] M (fun r M' => tI r ∧ scInv Tm invM M' ∧ M'.1 0 1 = M.1 0 1 ∧ (∀ i, M'.1 1 i = M.1 1 i) ∧ kpt pM M M') := (wsm_told (scq_t a0) hI (fun n M' _ h1 h2 => ⟨⟨n, rfl⟩, h1, (h2 0 1 rfl).1, (fun i => (h2 1 i rfl).1), kp_of h2 (by decide)⟩)).up (by decide)
theorem st_told : laS_told pI := fun M M2 a0 hI => (sy_told hI.1.1).imp (fun r M' h => ⟨h.1, (sn_told hI.1.2.1).imp (fun r2 M2' h2 => ⟨h2.1, qI_same hI.1 h.2.1 h2.2.1 h.2.2.1 h.2.2.2.1 h2.2.2.1 h2.2.2.2.1, rC_keep hI.2 h.2.2.2.2 h2.2.2.2.2⟩)⟩)
theorem sy_life {M : fmM} {a0 a1 : Int32} (hI : scInv Tx invX M) : pvGood Tx 250 qX10_life [.ref 0, .int a0, .int a1] M (fun r M' => rkI true true r ∧ scInv Tx invX M' ∧ M'.1 1 1 = M.1 1 1 ∧ (∀ i, M'.1 2 i = M.1 2 i) ∧ kpl pX M M') := (wsx_life (scq_t a0) (scq_t a1) hI (fun n M' _ h1 h2 => ⟨Or.inl ⟨n, rfl⟩, h1, (h2 1 1 rfl).1, (fun i => (h2 2 i rfl).1), kpl_of h2 (by decide)⟩) (fun M' h1 h2 => ⟨Or.inr (Or.inl ⟨rfl, rfl⟩), h1, (h2 1 1 rfl).1, (fun i => (h2 2 i rfl).1), kpl_of h2 (by decide)⟩) (fun M' h1 h2 => ⟨Or.inr (Or.inr ⟨rfl, rfl⟩), h1, (h2 1 1 rfl).1, (fun i => (h2 2 i rfl).1), kpl_of h2 (by decide)⟩)).up (by decide)
theorem sn_life {M : fmM} {a0 a1 : Int32} (hI : scInv Tm invM M) : pvGood Tm 250 qX11_life [.ref 0, .int a0, .int a1] M (fun r M' => tI r ∧ scInv Tm invM M' ∧ M'.1 0 1 = M.1 0 1 ∧ (∀ i, M'.1 1 i = M.1 1 i) ∧ kpt pM M M') := (wsm_life (scq_t a0) (scq_t a1) hI (fun n M' _ h1 h2 => ⟨⟨n, rfl⟩, h1, (h2 0 1 rfl).1, (fun i => (h2 1 i rfl).1), kp_of h2 (by decide)⟩)).up (by decide)
theorem st_life : laS_life pI := fun M M2 a0 a1 hI => (sy_life hI.1.1).imp (fun r M' h => ⟨h.1, (sn_life hI.1.2.1).imp (fun r2 M2' h2 => ⟨h2.1, qI_same hI.1 h.2.1 h2.2.1 h.2.2.1 h.2.2.2.1 h2.2.2.1 h2.2.2.2.1, rC_keep hI.2 h.2.2.2.2 h2.2.2.2.2⟩)⟩)
theorem sy_facts {M : fmM} {a0 : Int32} (hI : scInv Tx invX M) : pvGood Tx 250 qX10_facts [.ref 0, .int a0] M (fun r M' => rkI false true r ∧ scInv Tx invX M' ∧ M'.1 1 1 = M.1 1 1 ∧ (∀ i, M'.1 2 i = M.1 2 i) ∧ kpl pX M M') := (wsx_facts (scq_t a0) hI (fun n M' _ h1 h2 => ⟨Or.inl ⟨n, rfl⟩, h1, (h2 1 1 rfl).1, (fun i => (h2 2 i rfl).1), kpl_of h2 (by decide)⟩) (fun M' h1 h2 => ⟨Or.inr (Or.inr ⟨rfl, rfl⟩), h1, (h2 1 1 rfl).1, (fun i => (h2 2 i rfl).1), kpl_of h2 (by decide)⟩)).up (by decide)
theorem sn_facts {M : fmM} {a0 : Int32} (hI : scInv Tm invM M) : pvGood Tm 250 qX11_facts [.ref 0, .int a0] M (fun r M' => tI r ∧ scInv Tm invM M' ∧ M'.1 0 1 = M.1 0 1 ∧ (∀ i, M'.1 1 i = M.1 1 i) ∧ kpt pM M M') := (wsm_facts (scq_t a0) hI (fun n M' _ h1 h2 => ⟨⟨n, rfl⟩, h1, (h2 0 1 rfl).1, (fun i => (h2 1 i rfl).1), kp_of h2 (by decide)⟩)).up (by decide)
theorem st_facts : laS_facts pI := fun M M2 a0 hI => (sy_facts hI.1.1).imp (fun r M' h => ⟨h.1, (sn_facts hI.1.2.1).imp (fun r2 M2' h2 => ⟨h2.1, qI_same hI.1 h.2.1 h2.2.1 h.2.2.1 h.2.2.2.1 h2.2.2.1 h2.2.2.2.1, rC_keep hI.2 h.2.2.2.2 h2.2.2.2.2⟩)⟩)
theorem sy_wrong {M : fmM} {a0 : Int32} (hI : scInv Tx invX M) : pvGood Tx 250 qX10_wrong [.ref 0, .int a0] M (fun r M' => rkI false true r ∧ scInv Tx invX M' ∧ M'.1 1 1 = M.1 1 1 ∧ (∀ i, M'.1 2 i = M.1 2 i) ∧ kpl pX M M') := (wsx_wrong (scq_t a0) hI (fun n M' _ h1 h2 => ⟨Or.inl ⟨n, rfl⟩, h1, (h2 1 1 rfl).1, (fun i => (h2 2 i rfl).1), kpl_of h2 (by decide)⟩) (fun M' h1 h2 => ⟨Or.inr (Or.inr ⟨rfl, rfl⟩), h1, (h2 1 1 rfl).1, (fun i => (h2 2 i rfl).1), kpl_of h2 (by decide)⟩)).up (by decide)
theorem sn_wrong {M : fmM} {a0 : Int32} (hI : scInv Tm invM M) : pvGood Tm 250 qX11_wrong [.ref 0, .int a0] M (fun r M' => tI r ∧ scInv Tm invM M' ∧ M'.1 0 1 = M.1 0 1 ∧ (∀ i, M'.1 1 i = M.1 1 i) ∧ kpt pM M M') := (wsm_wrong (scq_t a0) hI (fun n M' _ h1 h2 => ⟨⟨n, rfl⟩, h1, (h2 0 1 rfl).1, (fun i => (h2 1 i rfl).1), kp_of h2 (by decide)⟩)).up (by decide)
theorem st_wrong : laS_wrong pI := fun M M2 a0 hI => (sy_wrong hI.1.1).imp (fun r M' h => ⟨h.1, (sn_wrong hI.1.2.1).imp (fun r2 M2' h2 => ⟨h2.1, qI_same hI.1 h.2.1 h2.2.1 h.2.2.1 h.2.2.2.1 h2.2.2.1 h2.2.2.2.1, rC_keep hI.2 h.2.2.2.2 h2.2.2.2.2⟩)⟩)
theorem sy_would {M : fmM} {a0 a1 a2 a3 a4 : Int32} (hI : scInv Tx invX M) : pvGood Tx 250 qX10_would [.ref 0, .int a0, .int a1, .int a2, .int a3, .int a4] M (fun r M' => rkI true false r ∧ scInv Tx invX M' ∧ M'.1 1 1 = M.1 1 1 ∧ (∀ i, M'.1 2 i = M.1 2 i) ∧ kpl pX M M') := (wsx_would (scq_t a0) (scq_t a1) (scq_t a2) (scq_t a3) (scq_t a4) hI (fun n M' _ h1 h2 => ⟨Or.inl ⟨n, rfl⟩, h1, (h2 1 1 rfl).1, (fun i => (h2 2 i rfl).1), kpl_of h2 (by decide)⟩) (fun M' h1 h2 => ⟨Or.inr (Or.inl ⟨rfl, rfl⟩), h1, (h2 1 1 rfl).1, (fun i => (h2 2 i rfl).1), kpl_of h2 (by decide)⟩)).up (by decide)
theorem sn_would {M : fmM} {a0 a1 a2 a3 a4 : Int32} (hI : scInv Tm invM M) : pvGood Tm 250 qX11_would [.ref 0, .int a0, .int a1, .int a2, .int a3, .int a4] M (fun r M' => tI r ∧ scInv Tm invM M' ∧ M'.1 0 1 = M.1 0 1 ∧ (∀ i, M'.1 1 i = M.1 1 i) ∧ kpt pM M M') := (wsm_would (scq_t a0) (scq_t a1) (scq_t a2) (scq_t a3) (scq_t a4) hI (fun n M' _ h1 h2 => ⟨⟨n, rfl⟩, h1, (h2 0 1 rfl).1, (fun i => (h2 1 i rfl).1), kp_of h2 (by decide)⟩)).up (by decide)
theorem st_would : laS_would pI := fun M M2 a0 a1 a2 a3 a4 hI => (sy_would hI.1.1).imp (fun r M' h => ⟨h.1, (sn_would hI.1.2.1).imp (fun r2 M2' h2 => ⟨h2.1, qI_same hI.1 h.2.1 h2.2.1 h.2.2.1 h.2.2.2.1 h2.2.2.1 h2.2.2.2.1, rC_keep hI.2 h.2.2.2.2 h2.2.2.2.2⟩)⟩)
theorem sy_loss {M : fmM} {a0 : Int32} (hI : scInv Tx invX M) : pvGood Tx 250 qX10_loss [.ref 0, .int a0] M (fun r M' => rkJ true false r ∧ scInv Tx invX M' ∧ M'.1 1 1 = M.1 1 1 ∧ (∀ i, M'.1 2 i = M.1 2 i) ∧ kpl pX M M') := (wsx_loss (scq_t a0) hI (fun n M' _ h1 h2 => ⟨Or.inl ⟨n, rfl⟩, h1, (h2 1 1 rfl).1, (fun i => (h2 2 i rfl).1), kpl_of h2 (by decide)⟩) (fun M' h1 h2 => ⟨Or.inr (Or.inl ⟨rfl, rfl⟩), h1, (h2 1 1 rfl).1, (fun i => (h2 2 i rfl).1), kpl_of h2 (by decide)⟩)).up (by decide)
theorem sn_loss {M : fmM} {a0 : Int32} (hI : scInv Tm invM M) : pvGood Tm 250 qX11_loss [.ref 0, .int a0] M (fun r M' => tJ r ∧ scInv Tm invM M' ∧ M'.1 0 1 = M.1 0 1 ∧ (∀ i, M'.1 1 i = M.1 1 i) ∧ kpt pM M M') := (wsm_loss (scq_t a0) hI (fun n M' _ h1 h2 => ⟨⟨n, rfl⟩, h1, (h2 0 1 rfl).1, (fun i => (h2 1 i rfl).1), kp_of h2 (by decide)⟩)).up (by decide)
theorem st_loss : laS_loss pI := fun M M2 a0 hI => (sy_loss hI.1.1).imp (fun r M' h => ⟨h.1, (sn_loss hI.1.2.1).imp (fun r2 M2' h2 => ⟨h2.1, qI_same hI.1 h.2.1 h2.2.1 h.2.2.1 h.2.2.2.1 h2.2.2.1 h2.2.2.2.1, rC_keep hI.2 h.2.2.2.2 h2.2.2.2.2⟩)⟩)
theorem sy_cost {M : fmM} {a0 a1 : Int32} (hI : scInv Tx invX M) : pvGood Tx 250 qX10_cost [.ref 0, .int a0, .int a1] M (fun r M' => rkJ true true r ∧ scInv Tx invX M' ∧ M'.1 1 1 = M.1 1 1 ∧ (∀ i, M'.1 2 i = M.1 2 i) ∧ kpl pX M M') := (wsx_cost (scq_t a0) (scq_t a1) hI (fun n M' _ h1 h2 => ⟨Or.inl ⟨n, rfl⟩, h1, (h2 1 1 rfl).1, (fun i => (h2 2 i rfl).1), kpl_of h2 (by decide)⟩) (fun M' h1 h2 => ⟨Or.inr (Or.inl ⟨rfl, rfl⟩), h1, (h2 1 1 rfl).1, (fun i => (h2 2 i rfl).1), kpl_of h2 (by decide)⟩) (fun M' h1 h2 => ⟨Or.inr (Or.inr ⟨rfl, rfl⟩), h1, (h2 1 1 rfl).1, (fun i => (h2 2 i rfl).1), kpl_of h2 (by decide)⟩)).up (by decide)
theorem sn_cost {M : fmM} {a0 a1 : Int32} (hI : scInv Tm invM M) : pvGood Tm 250 qX11_cost [.ref 0, .int a0, .int a1] M (fun r M' => tJ r ∧ scInv Tm invM M' ∧ M'.1 0 1 = M.1 0 1 ∧ (∀ i, M'.1 1 i = M.1 1 i) ∧ kpt pM M M') := (wsm_cost (scq_t a0) (scq_t a1) hI (fun n M' _ h1 h2 => ⟨⟨n, rfl⟩, h1, (h2 0 1 rfl).1, (fun i => (h2 1 i rfl).1), kp_of h2 (by decide)⟩)).up (by decide)
theorem st_cost : laS_cost pI := fun M M2 a0 a1 hI => (sy_cost hI.1.1).imp (fun r M' h => ⟨h.1, (sn_cost hI.1.2.1).imp (fun r2 M2' h2 => ⟨h2.1, qI_same hI.1 h.2.1 h2.2.1 h.2.2.1 h.2.2.2.1 h2.2.2.1 h2.2.2.2.1, rC_keep hI.2 h.2.2.2.2 h2.2.2.2.2⟩)⟩)
theorem sy_risk {M : fmM} {a0 : Int32} (hI : scInv Tx invX M) : pvGood Tx 250 qX10_risk [.ref 0, .int a0] M (fun r M' => rkJ true false r ∧ scInv Tx invX M' ∧ M'.1 1 1 = M.1 1 1 ∧ (∀ i, M'.1 2 i = M.1 2 i) ∧ kpl pX M M') := (wsx_risk (scq_t a0) hI (fun n M' _ h1 h2 => ⟨Or.inl ⟨n, rfl⟩, h1, (h2 1 1 rfl).1, (fun i => (h2 2 i rfl).1), kpl_of h2 (by decide)⟩) (fun M' h1 h2 => ⟨Or.inr (Or.inl ⟨rfl, rfl⟩), h1, (h2 1 1 rfl).1, (fun i => (h2 2 i rfl).1), kpl_of h2 (by decide)⟩)).up (by decide)
theorem sn_risk {M : fmM} {a0 : Int32} (hI : scInv Tm invM M) : pvGood Tm 250 qX11_risk [.ref 0, .int a0] M (fun r M' => tJ r ∧ scInv Tm invM M' ∧ M'.1 0 1 = M.1 0 1 ∧ (∀ i, M'.1 1 i = M.1 1 i) ∧ kpt pM M M') := (wsm_risk (scq_t a0) hI (fun n M' _ h1 h2 => ⟨⟨n, rfl⟩, h1, (h2 0 1 rfl).1, (fun i => (h2 1 i rfl).1), kp_of h2 (by decide)⟩)).up (by decide)
theorem st_risk : laS_risk pI := fun M M2 a0 hI => (sy_risk hI.1.1).imp (fun r M' h => ⟨h.1, (sn_risk hI.1.2.1).imp (fun r2 M2' h2 => ⟨h2.1, qI_same hI.1 h.2.1 h2.2.1 h.2.2.1 h.2.2.2.1 h2.2.2.1 h2.2.2.2.1, rC_keep hI.2 h.2.2.2.2 h2.2.2.2.2⟩)⟩)
theorem sy_saves {M : fmM} {a0 a1 : Int32} (hI : scInv Tx invX M) : pvGood Tx 250 qX10_saves [.ref 0, .int a0, .int a1] M (fun r M' => rkJ true true r ∧ scInv Tx invX M' ∧ M'.1 1 1 = M.1 1 1 ∧ (∀ i, M'.1 2 i = M.1 2 i) ∧ kpl pX M M') := (wsx_saves (scq_t a0) (scq_t a1) hI (fun n M' _ h1 h2 => ⟨Or.inl ⟨n, rfl⟩, h1, (h2 1 1 rfl).1, (fun i => (h2 2 i rfl).1), kpl_of h2 (by decide)⟩) (fun M' h1 h2 => ⟨Or.inr (Or.inl ⟨rfl, rfl⟩), h1, (h2 1 1 rfl).1, (fun i => (h2 2 i rfl).1), kpl_of h2 (by decide)⟩) (fun M' h1 h2 => ⟨Or.inr (Or.inr ⟨rfl, rfl⟩), h1, (h2 1 1 rfl).1, (fun i => (h2 2 i rfl).1), kpl_of h2 (by decide)⟩)).up (by decide)
theorem sn_saves {M : fmM} {a0 a1 : Int32} (hI : scInv Tm invM M) : pvGood Tm 250 qX11_saves [.ref 0, .int a0, .int a1] M (fun r M' => tJ r ∧ scInv Tm invM M' ∧ M'.1 0 1 = M.1 0 1 ∧ (∀ i, M'.1 1 i = M.1 1 i) ∧ kpt pM M M') := (u_saves hI (fun r M' h1 h2 h3 => ⟨h1, h2, (h3 0 1 rfl).1, (fun i => (h3 1 i rfl).1), kp_of h3 (by decide)⟩)).up (by decide)
theorem st_saves : laS_saves pI := fun M M2 a0 a1 hI => (sy_saves hI.1.1).imp (fun r M' h => ⟨h.1, (sn_saves hI.1.2.1).imp (fun r2 M2' h2 => ⟨h2.1, qI_same hI.1 h.2.1 h2.2.1 h.2.2.1 h.2.2.2.1 h2.2.2.1 h2.2.2.2.1, rC_keep hI.2 h.2.2.2.2 h2.2.2.2.2⟩)⟩)
theorem sy_first {M : fmM} (hI : scInv Tx invX M) : pvGood Tx 250 qX10_first [.ref 0] M (fun r M' => rkI false false r ∧ scInv Tx invX M' ∧ M'.1 1 1 = M.1 1 1 ∧ (∀ i, M'.1 2 i = M.1 2 i) ∧ kpl pX M M') := (wsx_first  hI (fun n M' _ h1 h2 => ⟨Or.inl ⟨n, rfl⟩, h1, (h2 1 1 rfl).1, (fun i => (h2 2 i rfl).1), kpl_of h2 (by decide)⟩)).up (by decide)
theorem sn_first {M : fmM} (hI : scInv Tm invM M) : pvGood Tm 250 qX11_first [.ref 0] M (fun r M' => tI r ∧ scInv Tm invM M' ∧ M'.1 0 1 = M.1 0 1 ∧ (∀ i, M'.1 1 i = M.1 1 i) ∧ kpt pM M M') := (wsm_first  hI (fun n M' _ h1 h2 => ⟨⟨n, rfl⟩, h1, (h2 0 1 rfl).1, (fun i => (h2 1 i rfl).1), kp_of h2 (by decide)⟩)).up (by decide)
theorem st_first : laS_first pI := fun M M2 hI => (sy_first hI.1.1).imp (fun r M' h => ⟨h.1, (sn_first hI.1.2.1).imp (fun r2 M2' h2 => ⟨h2.1, qI_same hI.1 h.2.1 h2.2.1 h.2.2.1 h.2.2.2.1 h2.2.2.1 h2.2.2.2.1, rC_keep hI.2 h.2.2.2.2 h2.2.2.2.2⟩)⟩)
theorem sy_lacking {M : fmM} (hI : scInv Tx invX M) : pvGood Tx 250 qX10_lacking [.ref 0] M (fun r M' => rkI false false r ∧ scInv Tx invX M' ∧ M'.1 1 1 = M.1 1 1 ∧ (∀ i, M'.1 2 i = M.1 2 i) ∧ kpl pX M M') := (wsx_lacking  hI (fun n M' _ h1 h2 => ⟨Or.inl ⟨n, rfl⟩, h1, (h2 1 1 rfl).1, (fun i => (h2 2 i rfl).1), kpl_of h2 (by decide)⟩)).up (by decide)
theorem sn_lacking {M : fmM} (hI : scInv Tm invM M) : pvGood Tm 250 qX11_lacking [.ref 0] M (fun r M' => tI r ∧ scInv Tm invM M' ∧ M'.1 0 1 = M.1 0 1 ∧ (∀ i, M'.1 1 i = M.1 1 i) ∧ kpt pM M M') := (wsm_lacking  hI (fun n M' _ h1 h2 => ⟨⟨n, rfl⟩, h1, (h2 0 1 rfl).1, (fun i => (h2 1 i rfl).1), kp_of h2 (by decide)⟩)).up (by decide)
theorem st_lacking : laS_lacking pI := fun M M2 hI => (sy_lacking hI.1.1).imp (fun r M' h => ⟨h.1, (sn_lacking hI.1.2.1).imp (fun r2 M2' h2 => ⟨h2.1, qI_same hI.1 h.2.1 h2.2.1 h.2.2.1 h.2.2.2.1 h2.2.2.1 h2.2.2.2.1, rC_keep hI.2 h.2.2.2.2 h2.2.2.2.2⟩)⟩)
theorem sy_signed {M : fmM} (hI : scInv Tx invX M) : pvGood Tx 250 qX10_signed [.ref 0] M (fun r M' => rkI false false r ∧ scInv Tx invX M' ∧ M'.1 1 1 = M.1 1 1 ∧ (∀ i, M'.1 2 i = M.1 2 i) ∧ kpl pX M M') := (wsx_signed  hI (fun n M' _ h1 h2 => ⟨Or.inl ⟨n, rfl⟩, h1, (h2 1 1 rfl).1, (fun i => (h2 2 i rfl).1), kpl_of h2 (by decide)⟩)).up (by decide)
theorem sn_signed {M : fmM} (hI : scInv Tm invM M) : pvGood Tm 250 qX11_signed [.ref 0] M (fun r M' => tI r ∧ scInv Tm invM M' ∧ M'.1 0 1 = M.1 0 1 ∧ (∀ i, M'.1 1 i = M.1 1 i) ∧ kpt pM M M') := (wsm_signed  hI (fun n M' _ h1 h2 => ⟨⟨n, rfl⟩, h1, (h2 0 1 rfl).1, (fun i => (h2 1 i rfl).1), kp_of h2 (by decide)⟩)).up (by decide)
theorem st_signed : laS_signed pI := fun M M2 hI => (sy_signed hI.1.1).imp (fun r M' h => ⟨h.1, (sn_signed hI.1.2.1).imp (fun r2 M2' h2 => ⟨h2.1, qI_same hI.1 h.2.1 h2.2.1 h.2.2.1 h.2.2.2.1 h2.2.2.1 h2.2.2.2.1, rC_keep hI.2 h.2.2.2.2 h2.2.2.2.2⟩)⟩)
theorem sy_stale {M : fmM} {a0 : Int32} (hI : scInv Tx invX M) : pvGood Tx 250 qX10_stale [.ref 0, .int a0] M (fun r M' => rkI true false r ∧ scInv Tx invX M' ∧ M'.1 1 1 = M.1 1 1 ∧ (∀ i, M'.1 2 i = M.1 2 i) ∧ kpl pX M M') := (wsx_stale (scq_t a0) hI (fun n M' _ h1 h2 => ⟨Or.inl ⟨n, rfl⟩, h1, (h2 1 1 rfl).1, (fun i => (h2 2 i rfl).1), kpl_of h2 (by decide)⟩) (fun M' h1 h2 => ⟨Or.inr (Or.inl ⟨rfl, rfl⟩), h1, (h2 1 1 rfl).1, (fun i => (h2 2 i rfl).1), kpl_of h2 (by decide)⟩)).up (by decide)
theorem sn_stale {M : fmM} {a0 : Int32} (hI : scInv Tm invM M) : pvGood Tm 250 qX11_stale [.ref 0, .int a0] M (fun r M' => tI r ∧ scInv Tm invM M' ∧ M'.1 0 1 = M.1 0 1 ∧ (∀ i, M'.1 1 i = M.1 1 i) ∧ kpt pM M M') := (wsm_stale (scq_t a0) hI (fun n M' _ h1 h2 => ⟨⟨n, rfl⟩, h1, (h2 0 1 rfl).1, (fun i => (h2 1 i rfl).1), kp_of h2 (by decide)⟩)).up (by decide)
theorem st_stale : laS_stale pI := fun M M2 a0 hI => (sy_stale hI.1.1).imp (fun r M' h => ⟨h.1, (sn_stale hI.1.2.1).imp (fun r2 M2' h2 => ⟨h2.1, qI_same hI.1 h.2.1 h2.2.1 h.2.2.1 h.2.2.2.1 h2.2.2.1 h2.2.2.2.1, rC_keep hI.2 h.2.2.2.2 h2.2.2.2.2⟩)⟩)
theorem sy_best {M : fmM} {a0 a1 : Int32} (hI : scInv Tx invX M) : pvGood Tx 250 qX10_best [.ref 0, .int a0, .int a1] M (fun r M' => rkJ true false r ∧ scInv Tx invX M' ∧ M'.1 1 1 = M.1 1 1 ∧ (∀ i, M'.1 2 i = M.1 2 i) ∧ kpl pX M M') := (wsx_best (scq_t a0) (scq_t a1) hI (fun n M' _ h1 h2 => ⟨Or.inl ⟨n, rfl⟩, h1, (h2 1 1 rfl).1, (fun i => (h2 2 i rfl).1), kpl_of h2 (by decide)⟩) (fun M' h1 h2 => ⟨Or.inr (Or.inl ⟨rfl, rfl⟩), h1, (h2 1 1 rfl).1, (fun i => (h2 2 i rfl).1), kpl_of h2 (by decide)⟩)).up (by decide)
theorem sn_best {M : fmM} {a0 a1 : Int32} (hI : scInv Tm invM M) : pvGood Tm 250 qX11_best [.ref 0, .int a0, .int a1] M (fun r M' => tJ r ∧ scInv Tm invM M' ∧ M'.1 0 1 = M.1 0 1 ∧ (∀ i, M'.1 1 i = M.1 1 i) ∧ kpt pM M M') := (wsm_best (scq_t a0) (scq_t a1) hI (fun n M' _ h1 h2 => ⟨⟨n, rfl⟩, h1, (h2 0 1 rfl).1, (fun i => (h2 1 i rfl).1), kp_of h2 (by decide)⟩)).up (by decide)
theorem st_best : laS_best pI := fun M M2 a0 a1 hI => (sy_best hI.1.1).imp (fun r M' h => ⟨h.1, (sn_best hI.1.2.1).imp (fun r2 M2' h2 => ⟨h2.1, qI_same hI.1 h.2.1 h2.2.1 h.2.2.1 h.2.2.2.1 h2.2.2.1 h2.2.2.2.1, rC_keep hI.2 h.2.2.2.2 h2.2.2.2.2⟩)⟩)
theorem sy_bestIn {M : fmM} {a0 a1 : Int32} (hI : scInv Tx invX M) : pvGood Tx 250 qX10_bestIn [.ref 0, .int a0, .int a1] M (fun r M' => rkI true false r ∧ scInv Tx invX M' ∧ M'.1 1 1 = M.1 1 1 ∧ (∀ i, M'.1 2 i = M.1 2 i) ∧ kpl pX M M') := (wsx_bestIn (scq_t a0) (scq_t a1) hI (fun n M' _ h1 h2 => ⟨Or.inl ⟨n, rfl⟩, h1, (h2 1 1 rfl).1, (fun i => (h2 2 i rfl).1), kpl_of h2 (by decide)⟩) (fun M' h1 h2 => ⟨Or.inr (Or.inl ⟨rfl, rfl⟩), h1, (h2 1 1 rfl).1, (fun i => (h2 2 i rfl).1), kpl_of h2 (by decide)⟩)).up (by decide)
theorem sn_bestIn {M : fmM} {a0 a1 : Int32} (hI : scInv Tm invM M) : pvGood Tm 250 qX11_bestIn [.ref 0, .int a0, .int a1] M (fun r M' => tI r ∧ scInv Tm invM M' ∧ M'.1 0 1 = M.1 0 1 ∧ (∀ i, M'.1 1 i = M.1 1 i) ∧ kpt pM M M') := (wsm_bestIn (scq_t a0) (scq_t a1) hI (fun n M' _ h1 h2 => ⟨⟨n, rfl⟩, h1, (h2 0 1 rfl).1, (fun i => (h2 1 i rfl).1), kp_of h2 (by decide)⟩)).up (by decide)
theorem st_bestIn : laS_bestIn pI := fun M M2 a0 a1 hI => (sy_bestIn hI.1.1).imp (fun r M' h => ⟨h.1, (sn_bestIn hI.1.2.1).imp (fun r2 M2' h2 => ⟨h2.1, qI_same hI.1 h.2.1 h2.2.1 h.2.2.1 h.2.2.2.1 h2.2.2.1 h2.2.2.2.1, rC_keep hI.2 h.2.2.2.2 h2.2.2.2.2⟩)⟩)
theorem sy_often {M : fmM} {a0 a1 : Int32} (hI : scInv Tx invX M) : pvGood Tx 250 qX10_often [.ref 0, .int a0, .int a1] M (fun r M' => rkI true true r ∧ scInv Tx invX M' ∧ M'.1 1 1 = M.1 1 1 ∧ (∀ i, M'.1 2 i = M.1 2 i) ∧ kpl pX M M') := (wsx_often (scq_t a0) (scq_t a1) hI (fun n M' _ h1 h2 => ⟨Or.inl ⟨n, rfl⟩, h1, (h2 1 1 rfl).1, (fun i => (h2 2 i rfl).1), kpl_of h2 (by decide)⟩) (fun M' h1 h2 => ⟨Or.inr (Or.inl ⟨rfl, rfl⟩), h1, (h2 1 1 rfl).1, (fun i => (h2 2 i rfl).1), kpl_of h2 (by decide)⟩) (fun M' h1 h2 => ⟨Or.inr (Or.inr ⟨rfl, rfl⟩), h1, (h2 1 1 rfl).1, (fun i => (h2 2 i rfl).1), kpl_of h2 (by decide)⟩)).up (by decide)
theorem sn_often {M : fmM} {a0 a1 : Int32} (hI : scInv Tm invM M) : pvGood Tm 250 qX11_often [.ref 0, .int a0, .int a1] M (fun r M' => tI r ∧ scInv Tm invM M' ∧ M'.1 0 1 = M.1 0 1 ∧ (∀ i, M'.1 1 i = M.1 1 i) ∧ kpt pM M M') := (wsm_often (scq_t a0) (scq_t a1) hI (fun n M' _ h1 h2 => ⟨⟨n, rfl⟩, h1, (h2 0 1 rfl).1, (fun i => (h2 1 i rfl).1), kp_of h2 (by decide)⟩)).up (by decide)
theorem st_often : laS_often pI := fun M M2 a0 a1 hI => (sy_often hI.1.1).imp (fun r M' h => ⟨h.1, (sn_often hI.1.2.1).imp (fun r2 M2' h2 => ⟨h2.1, qI_same hI.1 h.2.1 h2.2.1 h.2.2.1 h.2.2.2.1 h2.2.2.1 h2.2.2.2.1, rC_keep hI.2 h.2.2.2.2 h2.2.2.2.2⟩)⟩)
theorem sy_yearly {M : fmM} {a0 a1 a2 a3 : Int32} (hI : scInv Tx invX M) : pvGood Tx 250 qX10_yearly [.ref 0, .int a0, .int a1, .int a2, .int a3] M (fun r M' => rkJ true true r ∧ scInv Tx invX M' ∧ M'.1 1 1 = M.1 1 1 ∧ (∀ i, M'.1 2 i = M.1 2 i) ∧ kpl pX M M') := (wsx_yearly (scq_t a0) (scq_t a1) (scq_t a2) (scq_t a3) hI (fun n M' _ h1 h2 => ⟨Or.inl ⟨n, rfl⟩, h1, (h2 1 1 rfl).1, (fun i => (h2 2 i rfl).1), kpl_of h2 (by decide)⟩) (fun M' h1 h2 => ⟨Or.inr (Or.inl ⟨rfl, rfl⟩), h1, (h2 1 1 rfl).1, (fun i => (h2 2 i rfl).1), kpl_of h2 (by decide)⟩) (fun M' h1 h2 => ⟨Or.inr (Or.inr ⟨rfl, rfl⟩), h1, (h2 1 1 rfl).1, (fun i => (h2 2 i rfl).1), kpl_of h2 (by decide)⟩)).up (by decide)
theorem sn_yearly {M : fmM} {a0 a1 a2 a3 : Int32} (hI : scInv Tm invM M) : pvGood Tm 250 qX11_yearly [.ref 0, .int a0, .int a1, .int a2, .int a3] M (fun r M' => tJ r ∧ scInv Tm invM M' ∧ M'.1 0 1 = M.1 0 1 ∧ (∀ i, M'.1 1 i = M.1 1 i) ∧ kpt pM M M') := (wsm_yearly (scq_t a0) (scq_t a1) (scq_t a2) (scq_t a3) hI (fun n M' _ h1 h2 => ⟨⟨n, rfl⟩, h1, (h2 0 1 rfl).1, (fun i => (h2 1 i rfl).1), kp_of h2 (by decide)⟩)).up (by decide)
theorem st_yearly : laS_yearly pI := fun M M2 a0 a1 a2 a3 hI => (sy_yearly hI.1.1).imp (fun r M' h => ⟨h.1, (sn_yearly hI.1.2.1).imp (fun r2 M2' h2 => ⟨h2.1, qI_same hI.1 h.2.1 h2.2.1 h.2.2.1 h.2.2.2.1 h2.2.2.1 h2.2.2.2.1, rC_keep hI.2 h.2.2.2.2 h2.2.2.2.2⟩)⟩)
theorem sy_brings {M : fmM} {a0 a1 a2 a3 a4 a5 : Int32} (hI : scInv Tx invX M) : pvGood Tx 250 qX10_brings [.ref 0, .int a0, .int a1, .int a2, .int a3, .int a4, .int a5] M (fun r M' => rkI true false r ∧ scInv Tx invX M' ∧ M'.1 1 1 = M.1 1 1 ∧ (∀ i, M'.1 2 i = M.1 2 i) ∧ kpl pX M M') := (wsx_brings (scq_t a0) (scq_t a1) (scq_t a2) (scq_t a3) (scq_t a4) (scq_t a5) hI (fun n M' _ h1 h2 => ⟨Or.inl ⟨n, rfl⟩, h1, (h2 1 1 rfl).1, (fun i => (h2 2 i rfl).1), kpl_of h2 (by decide)⟩) (fun M' h1 h2 => ⟨Or.inr (Or.inl ⟨rfl, rfl⟩), h1, (h2 1 1 rfl).1, (fun i => (h2 2 i rfl).1), kpl_of h2 (by decide)⟩)).up (by decide)
theorem sn_brings {M : fmM} {a0 a1 a2 a3 a4 a5 : Int32} (hI : scInv Tm invM M) : pvGood Tm 250 qX11_brings [.ref 0, .int a0, .int a1, .int a2, .int a3, .int a4, .int a5] M (fun r M' => tI r ∧ scInv Tm invM M' ∧ M'.1 0 1 = M.1 0 1 ∧ (∀ i, M'.1 1 i = M.1 1 i) ∧ kpt pM M M') := (wsm_brings (scq_t a0) (scq_t a1) (scq_t a2) (scq_t a3) (scq_t a4) (scq_t a5) hI (fun n M' _ h1 h2 => ⟨⟨n, rfl⟩, h1, (h2 0 1 rfl).1, (fun i => (h2 1 i rfl).1), kp_of h2 (by decide)⟩)).up (by decide)
theorem st_brings : laS_brings pI := fun M M2 a0 a1 a2 a3 a4 a5 hI => (sy_brings hI.1.1).imp (fun r M' h => ⟨h.1, (sn_brings hI.1.2.1).imp (fun r2 M2' h2 => ⟨h2.1, qI_same hI.1 h.2.1 h2.2.1 h.2.2.1 h.2.2.2.1 h2.2.2.1 h2.2.2.2.1, rC_keep hI.2 h.2.2.2.2 h2.2.2.2.2⟩)⟩)
theorem sy_says {M : fmM} {a0 a1 a2 a3 a4 : Int32} (hI : scInv Tx invX M) : pvGood Tx 250 qX10_says [.ref 0, .int a0, .int a1, .int a2, .int a3, .int a4] M (fun r M' => rkI true false r ∧ scInv Tx invX M' ∧ M'.1 1 1 = M.1 1 1 ∧ (∀ i, M'.1 2 i = M.1 2 i) ∧ kpl pX M M') := (wsx_says (scq_t a0) (scq_t a1) (scq_t a2) (scq_t a3) (scq_t a4) hI (fun n M' _ h1 h2 => ⟨Or.inl ⟨n, rfl⟩, h1, (h2 1 1 rfl).1, (fun i => (h2 2 i rfl).1), kpl_of h2 (by decide)⟩) (fun M' h1 h2 => ⟨Or.inr (Or.inl ⟨rfl, rfl⟩), h1, (h2 1 1 rfl).1, (fun i => (h2 2 i rfl).1), kpl_of h2 (by decide)⟩)).up (by decide)
theorem sn_says {M : fmM} {a0 a1 a2 a3 a4 : Int32} (hI : scInv Tm invM M) : pvGood Tm 250 qX11_says [.ref 0, .int a0, .int a1, .int a2, .int a3, .int a4] M (fun r M' => tI r ∧ scInv Tm invM M' ∧ M'.1 0 1 = M.1 0 1 ∧ (∀ i, M'.1 1 i = M.1 1 i) ∧ kpt pM M M') := (wsm_says (scq_t a0) (scq_t a1) (scq_t a2) (scq_t a3) (scq_t a4) hI (fun n M' _ h1 h2 => ⟨⟨n, rfl⟩, h1, (h2 0 1 rfl).1, (fun i => (h2 1 i rfl).1), kp_of h2 (by decide)⟩)).up (by decide)
theorem st_says : laS_says pI := fun M M2 a0 a1 a2 a3 a4 hI => (sy_says hI.1.1).imp (fun r M' h => ⟨h.1, (sn_says hI.1.2.1).imp (fun r2 M2' h2 => ⟨h2.1, qI_same hI.1 h.2.1 h2.2.1 h.2.2.1 h.2.2.2.1 h2.2.2.1 h2.2.2.2.1, rC_keep hI.2 h.2.2.2.2 h2.2.2.2.2⟩)⟩)
theorem sy_line {M : fmM} {a0 a1 a2 a3 : Int32} (hI : scInv Tx invX M) : pvGood Tx 250 qX10_line [.ref 0, .int a0, .int a1, .int a2, .int a3] M (fun r M' => rkI true false r ∧ scInv Tx invX M' ∧ M'.1 1 1 = M.1 1 1 ∧ (∀ i, M'.1 2 i = M.1 2 i) ∧ kpl pX M M') := (wsx_line (scq_t a0) (scq_t a1) (scq_t a2) (scq_t a3) hI (fun n M' _ h1 h2 => ⟨Or.inl ⟨n, rfl⟩, h1, (h2 1 1 rfl).1, (fun i => (h2 2 i rfl).1), kpl_of h2 (by decide)⟩) (fun M' h1 h2 => ⟨Or.inr (Or.inl ⟨rfl, rfl⟩), h1, (h2 1 1 rfl).1, (fun i => (h2 2 i rfl).1), kpl_of h2 (by decide)⟩)).up (by decide)
theorem sn_line {M : fmM} {a0 a1 a2 a3 : Int32} (hI : scInv Tm invM M) : pvGood Tm 250 qX11_line [.ref 0, .int a0, .int a1, .int a2, .int a3] M (fun r M' => tI r ∧ scInv Tm invM M' ∧ M'.1 0 1 = M.1 0 1 ∧ (∀ i, M'.1 1 i = M.1 1 i) ∧ kpt pM M M') := (wsm_line (scq_t a0) (scq_t a1) (scq_t a2) (scq_t a3) hI (fun n M' _ h1 h2 => ⟨⟨n, rfl⟩, h1, (h2 0 1 rfl).1, (fun i => (h2 1 i rfl).1), kp_of h2 (by decide)⟩)).up (by decide)
theorem st_line : laS_line pI := fun M M2 a0 a1 a2 a3 hI => (sy_line hI.1.1).imp (fun r M' h => ⟨h.1, (sn_line hI.1.2.1).imp (fun r2 M2' h2 => ⟨h2.1, qI_same hI.1 h.2.1 h2.2.1 h.2.2.1 h.2.2.2.1 h2.2.2.1 h2.2.2.2.1, rC_keep hI.2 h.2.2.2.2 h2.2.2.2.2⟩)⟩)
theorem sy_room {M : fmM} {a0 a1 : Int32} (hI : scInv Tx invX M) : pvGood Tx 250 qX10_room [.ref 0, .int a0, .int a1] M (fun r M' => rkI true false r ∧ scInv Tx invX M' ∧ M'.1 1 1 = M.1 1 1 ∧ (∀ i, M'.1 2 i = M.1 2 i) ∧ kpl pX M M') := (wsx_room (scq_t a0) (scq_t a1) hI (fun n M' _ h1 h2 => ⟨Or.inl ⟨n, rfl⟩, h1, (h2 1 1 rfl).1, (fun i => (h2 2 i rfl).1), kpl_of h2 (by decide)⟩) (fun M' h1 h2 => ⟨Or.inr (Or.inl ⟨rfl, rfl⟩), h1, (h2 1 1 rfl).1, (fun i => (h2 2 i rfl).1), kpl_of h2 (by decide)⟩)).up (by decide)
theorem sn_room {M : fmM} {a0 a1 : Int32} (hI : scInv Tm invM M) : pvGood Tm 250 qX11_room [.ref 0, .int a0, .int a1] M (fun r M' => tI r ∧ scInv Tm invM M' ∧ M'.1 0 1 = M.1 0 1 ∧ (∀ i, M'.1 1 i = M.1 1 i) ∧ kpt pM M M') := (wsm_room (scq_t a0) (scq_t a1) hI (fun n M' _ h1 h2 => ⟨⟨n, rfl⟩, h1, (h2 0 1 rfl).1, (fun i => (h2 1 i rfl).1), kp_of h2 (by decide)⟩)).up (by decide)
theorem st_room : laS_room pI := fun M M2 a0 a1 hI => (sy_room hI.1.1).imp (fun r M' h => ⟨h.1, (sn_room hI.1.2.1).imp (fun r2 M2' h2 => ⟨h2.1, qI_same hI.1 h.2.1 h2.2.1 h.2.2.1 h.2.2.2.1 h2.2.2.1 h2.2.2.2.1, rC_keep hI.2 h.2.2.2.2 h2.2.2.2.2⟩)⟩)
theorem sy_lines {M : fmM} {a0 a1 a2 : Int32} (hI : scInv Tx invX M) : pvGood Tx 250 qX10_lines [.ref 0, .int a0, .int a1, .int a2] M (fun r M' => rkI true true r ∧ scInv Tx invX M' ∧ M'.1 1 1 = M.1 1 1 ∧ (∀ i, M'.1 2 i = M.1 2 i) ∧ kpl pX M M') := (wsx_lines (scq_t a0) (scq_t a1) (scq_t a2) hI (fun n M' _ h1 h2 => ⟨Or.inl ⟨n, rfl⟩, h1, (h2 1 1 rfl).1, (fun i => (h2 2 i rfl).1), kpl_of h2 (by decide)⟩) (fun M' h1 h2 => ⟨Or.inr (Or.inl ⟨rfl, rfl⟩), h1, (h2 1 1 rfl).1, (fun i => (h2 2 i rfl).1), kpl_of h2 (by decide)⟩) (fun M' h1 h2 => ⟨Or.inr (Or.inr ⟨rfl, rfl⟩), h1, (h2 1 1 rfl).1, (fun i => (h2 2 i rfl).1), kpl_of h2 (by decide)⟩)).up (by decide)
theorem sn_lines {M : fmM} {a0 a1 a2 : Int32} (hI : scInv Tm invM M) : pvGood Tm 250 qX11_lines [.ref 0, .int a0, .int a1, .int a2] M (fun r M' => tI r ∧ scInv Tm invM M' ∧ M'.1 0 1 = M.1 0 1 ∧ (∀ i, M'.1 1 i = M.1 1 i) ∧ kpt pM M M') := (wsm_lines (scq_t a0) (scq_t a1) (scq_t a2) hI (fun n M' _ h1 h2 => ⟨⟨n, rfl⟩, h1, (h2 0 1 rfl).1, (fun i => (h2 1 i rfl).1), kp_of h2 (by decide)⟩)).up (by decide)
theorem st_lines : laS_lines pI := fun M M2 a0 a1 a2 hI => (sy_lines hI.1.1).imp (fun r M' h => ⟨h.1, (sn_lines hI.1.2.1).imp (fun r2 M2' h2 => ⟨h2.1, qI_same hI.1 h.2.1 h2.2.1 h.2.2.1 h.2.2.2.1 h2.2.2.1 h2.2.2.2.1, rC_keep hI.2 h.2.2.2.2 h2.2.2.2.2⟩)⟩)
theorem sy_apart {M : fmM} {a0 a1 : Int32} (hI : scInv Tx invX M) : pvGood Tx 250 qX10_apart [.ref 0, .int a0, .int a1] M (fun r M' => rkI true false r ∧ scInv Tx invX M' ∧ M'.1 1 1 = M.1 1 1 ∧ (∀ i, M'.1 2 i = M.1 2 i) ∧ kpl pX M M') := (wsx_apart (scq_t a0) (scq_t a1) hI (fun n M' _ h1 h2 => ⟨Or.inl ⟨n, rfl⟩, h1, (h2 1 1 rfl).1, (fun i => (h2 2 i rfl).1), kpl_of h2 (by decide)⟩) (fun M' h1 h2 => ⟨Or.inr (Or.inl ⟨rfl, rfl⟩), h1, (h2 1 1 rfl).1, (fun i => (h2 2 i rfl).1), kpl_of h2 (by decide)⟩)).up (by decide)
theorem sn_apart {M : fmM} {a0 a1 : Int32} (hI : scInv Tm invM M) : pvGood Tm 250 qX11_apart [.ref 0, .int a0, .int a1] M (fun r M' => tI r ∧ scInv Tm invM M' ∧ M'.1 0 1 = M.1 0 1 ∧ (∀ i, M'.1 1 i = M.1 1 i) ∧ kpt pM M M') := (wsm_apart (scq_t a0) (scq_t a1) hI (fun n M' _ h1 h2 => ⟨⟨n, rfl⟩, h1, (h2 0 1 rfl).1, (fun i => (h2 1 i rfl).1), kp_of h2 (by decide)⟩)).up (by decide)
theorem st_apart : laS_apart pI := fun M M2 a0 a1 hI => (sy_apart hI.1.1).imp (fun r M' h => ⟨h.1, (sn_apart hI.1.2.1).imp (fun r2 M2' h2 => ⟨h2.1, qI_same hI.1 h.2.1 h2.2.1 h.2.2.1 h.2.2.2.1 h2.2.2.1 h2.2.2.2.1, rC_keep hI.2 h.2.2.2.2 h2.2.2.2.2⟩)⟩)
theorem sy_twins {M : fmM} (hI : scInv Tx invX M) : pvGood Tx 250 qX10_twins [.ref 0] M (fun r M' => rkI false false r ∧ scInv Tx invX M' ∧ M'.1 1 1 = M.1 1 1 ∧ (∀ i, M'.1 2 i = M.1 2 i) ∧ kpl pX M M') := (wsx_twins  hI (fun n M' _ h1 h2 => ⟨Or.inl ⟨n, rfl⟩, h1, (h2 1 1 rfl).1, (fun i => (h2 2 i rfl).1), kpl_of h2 (by decide)⟩)).up (by decide)
theorem sn_twins {M : fmM} (hI : scInv Tm invM M) : pvGood Tm 250 qX11_twins [.ref 0] M (fun r M' => tI r ∧ scInv Tm invM M' ∧ M'.1 0 1 = M.1 0 1 ∧ (∀ i, M'.1 1 i = M.1 1 i) ∧ kpt pM M M') := (wsm_twins  hI (fun n M' _ h1 h2 => ⟨⟨n, rfl⟩, h1, (h2 0 1 rfl).1, (fun i => (h2 1 i rfl).1), kp_of h2 (by decide)⟩)).up (by decide)
theorem st_twins : laS_twins pI := fun M M2 hI => (sy_twins hI.1.1).imp (fun r M' h => ⟨h.1, (sn_twins hI.1.2.1).imp (fun r2 M2' h2 => ⟨h2.1, qI_same hI.1 h.2.1 h2.2.1 h.2.2.1 h.2.2.2.1 h2.2.2.1 h2.2.2.2.1, rC_keep hI.2 h.2.2.2.2 h2.2.2.2.2⟩)⟩)
theorem sy_written {M : fmM} {a0 : Int32} (hI : scInv Tx invX M) : pvGood Tx 250 qX10_written [.ref 0, .int a0] M (fun r M' => rkJ false true r ∧ scInv Tx invX M' ∧ M'.1 1 1 = M.1 1 1 ∧ (∀ i, M'.1 2 i = M.1 2 i) ∧ kpl pX M M') := (wsx_written (scq_t a0) hI (fun n M' _ h1 h2 => ⟨Or.inl ⟨n, rfl⟩, h1, (h2 1 1 rfl).1, (fun i => (h2 2 i rfl).1), kpl_of h2 (by decide)⟩) (fun M' h1 h2 => ⟨Or.inr (Or.inr ⟨rfl, rfl⟩), h1, (h2 1 1 rfl).1, (fun i => (h2 2 i rfl).1), kpl_of h2 (by decide)⟩)).up (by decide)
theorem sn_written {M : fmM} {a0 : Int32} (hI : scInv Tm invM M) : pvGood Tm 250 qX11_written [.ref 0, .int a0] M (fun r M' => tJ r ∧ scInv Tm invM M' ∧ M'.1 0 1 = M.1 0 1 ∧ (∀ i, M'.1 1 i = M.1 1 i) ∧ kpt pM M M') := (wsm_written (scq_t a0) hI (fun n M' _ h1 h2 => ⟨⟨n, rfl⟩, h1, (h2 0 1 rfl).1, (fun i => (h2 1 i rfl).1), kp_of h2 (by decide)⟩)).up (by decide)
theorem st_written : laS_written pI := fun M M2 a0 hI => (sy_written hI.1.1).imp (fun r M' h => ⟨h.1, (sn_written hI.1.2.1).imp (fun r2 M2' h2 => ⟨h2.1, qI_same hI.1 h.2.1 h2.2.1 h.2.2.1 h.2.2.2.1 h2.2.2.1 h2.2.2.2.1, rC_keep hI.2 h.2.2.2.2 h2.2.2.2.2⟩)⟩)
theorem sy_whose {M : fmM} (hI : scInv Tx invX M) : pvGood Tx 250 qX10_whose [.ref 0] M (fun r M' => rkI false false r ∧ scInv Tx invX M' ∧ M'.1 1 1 = M.1 1 1 ∧ (∀ i, M'.1 2 i = M.1 2 i) ∧ kpl pX M M') := (wsx_whose  hI (fun n M' _ h1 h2 => ⟨Or.inl ⟨n, rfl⟩, h1, (h2 1 1 rfl).1, (fun i => (h2 2 i rfl).1), kpl_of h2 (by decide)⟩)).up (by decide)
theorem sn_whose {M : fmM} (hI : scInv Tm invM M) : pvGood Tm 250 qX11_whose [.ref 0] M (fun r M' => tI r ∧ scInv Tm invM M' ∧ M'.1 0 1 = M.1 0 1 ∧ (∀ i, M'.1 1 i = M.1 1 i) ∧ kpt pM M M') := (wsm_whose  hI (fun n M' _ h1 h2 => ⟨⟨n, rfl⟩, h1, (h2 0 1 rfl).1, (fun i => (h2 1 i rfl).1), kp_of h2 (by decide)⟩)).up (by decide)
theorem st_whose : laS_whose pI := fun M M2 hI => (sy_whose hI.1.1).imp (fun r M' h => ⟨h.1, (sn_whose hI.1.2.1).imp (fun r2 M2' h2 => ⟨h2.1, qI_same hI.1 h.2.1 h2.2.1 h.2.2.1 h.2.2.2.1 h2.2.2.1 h2.2.2.2.1, rC_keep hI.2 h.2.2.2.2 h2.2.2.2.2⟩)⟩)
theorem sy_ahead {M : fmM} {a0 a1 : Int32} (hI : scInv Tx invX M) : pvGood Tx 250 qX10_ahead [.ref 0, .int a0, .int a1] M (fun r M' => rkJ true false r ∧ scInv Tx invX M' ∧ M'.1 1 1 = M.1 1 1 ∧ (∀ i, M'.1 2 i = M.1 2 i) ∧ kpl pX M M') := (wsx_ahead (scq_t a0) (scq_t a1) hI (fun n M' _ h1 h2 => ⟨Or.inl ⟨n, rfl⟩, h1, (h2 1 1 rfl).1, (fun i => (h2 2 i rfl).1), kpl_of h2 (by decide)⟩) (fun M' h1 h2 => ⟨Or.inr (Or.inl ⟨rfl, rfl⟩), h1, (h2 1 1 rfl).1, (fun i => (h2 2 i rfl).1), kpl_of h2 (by decide)⟩)).up (by decide)
theorem sn_ahead {M : fmM} {a0 a1 : Int32} (hI : scInv Tm invM M) : pvGood Tm 250 qX11_ahead [.ref 0, .int a0, .int a1] M (fun r M' => tJ r ∧ scInv Tm invM M' ∧ M'.1 0 1 = M.1 0 1 ∧ (∀ i, M'.1 1 i = M.1 1 i) ∧ kpt pM M M') := (wsm_ahead (scq_t a0) (scq_t a1) hI (fun n M' _ h1 h2 => ⟨⟨n, rfl⟩, h1, (h2 0 1 rfl).1, (fun i => (h2 1 i rfl).1), kp_of h2 (by decide)⟩)).up (by decide)
theorem st_ahead : laS_ahead pI := fun M M2 a0 a1 hI => (sy_ahead hI.1.1).imp (fun r M' h => ⟨h.1, (sn_ahead hI.1.2.1).imp (fun r2 M2' h2 => ⟨h2.1, qI_same hI.1 h.2.1 h2.2.1 h.2.2.1 h.2.2.2.1 h2.2.2.1 h2.2.2.2.1, rC_keep hI.2 h.2.2.2.2 h2.2.2.2.2⟩)⟩)
theorem sy_lives {M : fmM} {a0 a1 a2 : Int32} (hI : scInv Tx invX M) : pvGood Tx 250 qX10_lives [.ref 0, .int a0, .int a1, .int a2] M (fun r M' => rkJ true true r ∧ scInv Tx invX M' ∧ M'.1 1 1 = M.1 1 1 ∧ (∀ i, M'.1 2 i = M.1 2 i) ∧ kpl pX M M') := (wsx_lives (scq_t a0) (scq_t a1) (scq_t a2) hI (fun n M' _ h1 h2 => ⟨Or.inl ⟨n, rfl⟩, h1, (h2 1 1 rfl).1, (fun i => (h2 2 i rfl).1), kpl_of h2 (by decide)⟩) (fun M' h1 h2 => ⟨Or.inr (Or.inl ⟨rfl, rfl⟩), h1, (h2 1 1 rfl).1, (fun i => (h2 2 i rfl).1), kpl_of h2 (by decide)⟩) (fun M' h1 h2 => ⟨Or.inr (Or.inr ⟨rfl, rfl⟩), h1, (h2 1 1 rfl).1, (fun i => (h2 2 i rfl).1), kpl_of h2 (by decide)⟩)).up (by decide)
theorem sn_lives {M : fmM} {a0 a1 a2 : Int32} (hI : scInv Tm invM M) : pvGood Tm 250 qX11_lives [.ref 0, .int a0, .int a1, .int a2] M (fun r M' => tJ r ∧ scInv Tm invM M' ∧ M'.1 0 1 = M.1 0 1 ∧ (∀ i, M'.1 1 i = M.1 1 i) ∧ kpt pM M M') := (wsm_lives (scq_t a0) (scq_t a1) (scq_t a2) hI (fun n M' _ h1 h2 => ⟨⟨n, rfl⟩, h1, (h2 0 1 rfl).1, (fun i => (h2 1 i rfl).1), kp_of h2 (by decide)⟩)).up (by decide)
theorem st_lives : laS_lives pI := fun M M2 a0 a1 a2 hI => (sy_lives hI.1.1).imp (fun r M' h => ⟨h.1, (sn_lives hI.1.2.1).imp (fun r2 M2' h2 => ⟨h2.1, qI_same hI.1 h.2.1 h2.2.1 h.2.2.1 h.2.2.2.1 h2.2.2.1 h2.2.2.2.1, rC_keep hI.2 h.2.2.2.2 h2.2.2.2.2⟩)⟩)
theorem sy_oldest {M : fmM} (hI : scInv Tx invX M) : pvGood Tx 250 qX10_oldest [.ref 0] M (fun r M' => rkI false false r ∧ scInv Tx invX M' ∧ M'.1 1 1 = M.1 1 1 ∧ (∀ i, M'.1 2 i = M.1 2 i) ∧ kpl pX M M') := (wsx_oldest  hI (fun n M' _ h1 h2 => ⟨Or.inl ⟨n, rfl⟩, h1, (h2 1 1 rfl).1, (fun i => (h2 2 i rfl).1), kpl_of h2 (by decide)⟩)).up (by decide)
theorem sn_oldest {M : fmM} (hI : scInv Tm invM M) : pvGood Tm 250 qX11_oldest [.ref 0] M (fun r M' => tI r ∧ scInv Tm invM M' ∧ M'.1 0 1 = M.1 0 1 ∧ (∀ i, M'.1 1 i = M.1 1 i) ∧ kpt pM M M') := (wsm_oldest  hI (fun n M' _ h1 h2 => ⟨⟨n, rfl⟩, h1, (h2 0 1 rfl).1, (fun i => (h2 1 i rfl).1), kp_of h2 (by decide)⟩)).up (by decide)
theorem st_oldest : laS_oldest pI := fun M M2 hI => (sy_oldest hI.1.1).imp (fun r M' h => ⟨h.1, (sn_oldest hI.1.2.1).imp (fun r2 M2' h2 => ⟨h2.1, qI_same hI.1 h.2.1 h2.2.1 h.2.2.1 h.2.2.2.1 h2.2.2.1 h2.2.2.2.1, rC_keep hI.2 h.2.2.2.2 h2.2.2.2.2⟩)⟩)
theorem sy_chain {M : fmM} {a0 a1 : Int32} (hI : scInv Tx invX M) : pvGood Tx 250 qX10_chain [.ref 0, .int a0, .int a1] M (fun r M' => rkI true true r ∧ scInv Tx invX M' ∧ M'.1 1 1 = M.1 1 1 ∧ (∀ i, M'.1 2 i = M.1 2 i) ∧ kpl pX M M') := (wsx_chain (scq_t a0) (scq_t a1) hI (fun n M' _ h1 h2 => ⟨Or.inl ⟨n, rfl⟩, h1, (h2 1 1 rfl).1, (fun i => (h2 2 i rfl).1), kpl_of h2 (by decide)⟩) (fun M' h1 h2 => ⟨Or.inr (Or.inl ⟨rfl, rfl⟩), h1, (h2 1 1 rfl).1, (fun i => (h2 2 i rfl).1), kpl_of h2 (by decide)⟩) (fun M' h1 h2 => ⟨Or.inr (Or.inr ⟨rfl, rfl⟩), h1, (h2 1 1 rfl).1, (fun i => (h2 2 i rfl).1), kpl_of h2 (by decide)⟩)).up (by decide)
theorem sn_chain {M : fmM} {a0 a1 : Int32} (hI : scInv Tm invM M) : pvGood Tm 250 qX11_chain [.ref 0, .int a0, .int a1] M (fun r M' => tI r ∧ scInv Tm invM M' ∧ M'.1 0 1 = M.1 0 1 ∧ (∀ i, M'.1 1 i = M.1 1 i) ∧ kpt pM M M') := (u_chain hI (fun r M' h1 h2 h3 => ⟨h1, h2, (h3 0 1 rfl).1, (fun i => (h3 1 i rfl).1), kp_of h3 (by decide)⟩)).up (by decide)
theorem st_chain : laS_chain pI := fun M M2 a0 a1 hI => (sy_chain hI.1.1).imp (fun r M' h => ⟨h.1, (sn_chain hI.1.2.1).imp (fun r2 M2' h2 => ⟨h2.1, qI_same hI.1 h.2.1 h2.2.1 h.2.2.1 h.2.2.2.1 h2.2.2.1 h2.2.2.2.1, rC_keep hI.2 h.2.2.2.2 h2.2.2.2.2⟩)⟩)
theorem sy_due {M : fmM} {a0 a1 : Int32} (hI : scInv Tx invX M) : pvGood Tx 250 qX10_due [.ref 0, .int a0, .int a1] M (fun r M' => rkI true true r ∧ scInv Tx invX M' ∧ M'.1 1 1 = M.1 1 1 ∧ (∀ i, M'.1 2 i = M.1 2 i) ∧ kpl pX M M') := (wsx_due (scq_t a0) (scq_t a1) hI (fun n M' _ h1 h2 => ⟨Or.inl ⟨n, rfl⟩, h1, (h2 1 1 rfl).1, (fun i => (h2 2 i rfl).1), kpl_of h2 (by decide)⟩) (fun M' h1 h2 => ⟨Or.inr (Or.inl ⟨rfl, rfl⟩), h1, (h2 1 1 rfl).1, (fun i => (h2 2 i rfl).1), kpl_of h2 (by decide)⟩) (fun M' h1 h2 => ⟨Or.inr (Or.inr ⟨rfl, rfl⟩), h1, (h2 1 1 rfl).1, (fun i => (h2 2 i rfl).1), kpl_of h2 (by decide)⟩)).up (by decide)
theorem sn_due {M : fmM} {a0 a1 : Int32} (hI : scInv Tm invM M) : pvGood Tm 250 qX11_due [.ref 0, .int a0, .int a1] M (fun r M' => tI r ∧ scInv Tm invM M' ∧ M'.1 0 1 = M.1 0 1 ∧ (∀ i, M'.1 1 i = M.1 1 i) ∧ kpt pM M M') := (wsm_due (scq_t a0) (scq_t a1) hI (fun n M' _ h1 h2 => ⟨⟨n, rfl⟩, h1, (h2 0 1 rfl).1, (fun i => (h2 1 i rfl).1), kp_of h2 (by decide)⟩)).up (by decide)
theorem st_due : laS_due pI := fun M M2 a0 a1 hI => (sy_due hI.1.1).imp (fun r M' h => ⟨h.1, (sn_due hI.1.2.1).imp (fun r2 M2' h2 => ⟨h2.1, qI_same hI.1 h.2.1 h2.2.1 h.2.2.1 h.2.2.2.1 h2.2.2.1 h2.2.2.2.1, rC_keep hI.2 h.2.2.2.2 h2.2.2.2.2⟩)⟩)
theorem sy_news {M : fmM} {a0 : Int32} (hI : scInv Tx invX M) : pvGood Tx 250 qX10_news [.ref 0, .int a0] M (fun r M' => rkI false true r ∧ scInv Tx invX M' ∧ M'.1 1 1 = M.1 1 1 ∧ (∀ i, M'.1 2 i = M.1 2 i) ∧ kpl pX M M') := (wsx_news (scq_t a0) hI (fun n M' _ h1 h2 => ⟨Or.inl ⟨n, rfl⟩, h1, (h2 1 1 rfl).1, (fun i => (h2 2 i rfl).1), kpl_of h2 (by decide)⟩) (fun M' h1 h2 => ⟨Or.inr (Or.inr ⟨rfl, rfl⟩), h1, (h2 1 1 rfl).1, (fun i => (h2 2 i rfl).1), kpl_of h2 (by decide)⟩)).up (by decide)
theorem sn_news {M : fmM} {a0 : Int32} (hI : scInv Tm invM M) : pvGood Tm 250 qX11_news [.ref 0, .int a0] M (fun r M' => tI r ∧ scInv Tm invM M' ∧ M'.1 0 1 = M.1 0 1 ∧ (∀ i, M'.1 1 i = M.1 1 i) ∧ kpt pM M M') := (wsm_news (scq_t a0) hI (fun n M' _ h1 h2 => ⟨⟨n, rfl⟩, h1, (h2 0 1 rfl).1, (fun i => (h2 1 i rfl).1), kp_of h2 (by decide)⟩)).up (by decide)
theorem st_news : laS_news pI := fun M M2 a0 hI => (sy_news hI.1.1).imp (fun r M' h => ⟨h.1, (sn_news hI.1.2.1).imp (fun r2 M2' h2 => ⟨h2.1, qI_same hI.1 h.2.1 h2.2.1 h.2.2.1 h.2.2.2.1 h2.2.2.1 h2.2.2.2.1, rC_keep hI.2 h.2.2.2.2 h2.2.2.2.2⟩)⟩)
theorem sy_expects {M : fmM} {a0 a1 a2 : Int32} (hI : scInv Tx invX M) : pvGood Tx 250 qX10_expects [.ref 0, .int a0, .int a1, .int a2] M (fun r M' => rkJ true true r ∧ scInv Tx invX M' ∧ M'.1 1 1 = M.1 1 1 ∧ (∀ i, M'.1 2 i = M.1 2 i) ∧ kpl pX M M') := (wsx_expects (scq_t a0) (scq_t a1) (scq_t a2) hI (fun n M' _ h1 h2 => ⟨Or.inl ⟨n, rfl⟩, h1, (h2 1 1 rfl).1, (fun i => (h2 2 i rfl).1), kpl_of h2 (by decide)⟩) (fun M' h1 h2 => ⟨Or.inr (Or.inl ⟨rfl, rfl⟩), h1, (h2 1 1 rfl).1, (fun i => (h2 2 i rfl).1), kpl_of h2 (by decide)⟩) (fun M' h1 h2 => ⟨Or.inr (Or.inr ⟨rfl, rfl⟩), h1, (h2 1 1 rfl).1, (fun i => (h2 2 i rfl).1), kpl_of h2 (by decide)⟩)).up (by decide)
theorem sn_expects {M : fmM} {a0 a1 a2 : Int32} (hI : scInv Tm invM M) : pvGood Tm 250 qX11_expects [.ref 0, .int a0, .int a1, .int a2] M (fun r M' => tJ r ∧ scInv Tm invM M' ∧ M'.1 0 1 = M.1 0 1 ∧ (∀ i, M'.1 1 i = M.1 1 i) ∧ kpt pM M M') := (wsm_expects (scq_t a0) (scq_t a1) (scq_t a2) hI (fun n M' _ h1 h2 => ⟨⟨n, rfl⟩, h1, (h2 0 1 rfl).1, (fun i => (h2 1 i rfl).1), kp_of h2 (by decide)⟩)).up (by decide)
theorem st_expects : laS_expects pI := fun M M2 a0 a1 a2 hI => (sy_expects hI.1.1).imp (fun r M' h => ⟨h.1, (sn_expects hI.1.2.1).imp (fun r2 M2' h2 => ⟨h2.1, qI_same hI.1 h.2.1 h2.2.1 h.2.2.1 h.2.2.2.1 h2.2.2.1 h2.2.2.2.1, rC_keep hI.2 h.2.2.2.2 h2.2.2.2.2⟩)⟩)
theorem sy_worst {M : fmM} (hI : scInv Tx invX M) : pvGood Tx 250 qX10_worst [.ref 0] M (fun r M' => rkI false false r ∧ scInv Tx invX M' ∧ M'.1 1 1 = M.1 1 1 ∧ (∀ i, M'.1 2 i = M.1 2 i) ∧ kpl pX M M') := (wsx_worst  hI (fun n M' _ h1 h2 => ⟨Or.inl ⟨n, rfl⟩, h1, (h2 1 1 rfl).1, (fun i => (h2 2 i rfl).1), kpl_of h2 (by decide)⟩)).up (by decide)
theorem sn_worst {M : fmM} (hI : scInv Tm invM M) : pvGood Tm 250 qX11_worst [.ref 0] M (fun r M' => tI r ∧ scInv Tm invM M' ∧ M'.1 0 1 = M.1 0 1 ∧ (∀ i, M'.1 1 i = M.1 1 i) ∧ kpt pM M M') := (wsm_worst  hI (fun n M' _ h1 h2 => ⟨⟨n, rfl⟩, h1, (h2 0 1 rfl).1, (fun i => (h2 1 i rfl).1), kp_of h2 (by decide)⟩)).up (by decide)
theorem st_worst : laS_worst pI := fun M M2 hI => by
  obtain ⟨D, cs, hD, hX, hY, hL, hM, hd, hr, e⟩ := hI.2
  obtain ⟨w, S, h1, h2, h3, hs, ht, ho⟩ := rC_w hI.1.1 hr
  exact ((sy_worst hI.1.1).and (xe_worst ⟨hD, hX, hL, hs, ho⟩)).imp (fun r M' h => ⟨h.1.1, ((sn_worst hI.1.2.1).and (me_worst ⟨hD, hY, hM, hd, ht, ho⟩)).imp (fun r2 M2' h2 => ⟨h2.1.1, h2.2.trans h.2.symm, qI_same hI.1 h.1.2.1 h2.1.2.1 h.1.2.2.1 h.1.2.2.2.1 h2.1.2.2.1 h2.1.2.2.2.1, rC_keep hI.2 h.1.2.2.2.2 h2.1.2.2.2.2⟩)⟩)
theorem sy_years {M : fmM} {a0 a1 a2 : Int32} (hI : scInv Tx invX M) : pvGood Tx 250 qX10_years [.ref 0, .int a0, .int a1, .int a2] M (fun r M' => rkI true false r ∧ scInv Tx invX M' ∧ M'.1 1 1 = M.1 1 1 ∧ (∀ i, M'.1 2 i = M.1 2 i) ∧ kpl pX M M') := (wsx_years (scq_t a0) (scq_t a1) (scq_t a2) hI (fun n M' _ h1 h2 => ⟨Or.inl ⟨n, rfl⟩, h1, (h2 1 1 rfl).1, (fun i => (h2 2 i rfl).1), kpl_of h2 (by decide)⟩) (fun M' h1 h2 => ⟨Or.inr (Or.inl ⟨rfl, rfl⟩), h1, (h2 1 1 rfl).1, (fun i => (h2 2 i rfl).1), kpl_of h2 (by decide)⟩)).up (by decide)
theorem sn_years {M : fmM} {a0 a1 a2 : Int32} (hI : scInv Tm invM M) : pvGood Tm 250 qX11_years [.ref 0, .int a0, .int a1, .int a2] M (fun r M' => tI r ∧ scInv Tm invM M' ∧ M'.1 0 1 = M.1 0 1 ∧ (∀ i, M'.1 1 i = M.1 1 i) ∧ kpt pM M M') := (wsm_years (scq_t a0) (scq_t a1) (scq_t a2) hI (fun n M' _ h1 h2 => ⟨⟨n, rfl⟩, h1, (h2 0 1 rfl).1, (fun i => (h2 1 i rfl).1), kp_of h2 (by decide)⟩)).up (by decide)
theorem st_years : laS_years pI := fun M M2 a0 a1 a2 hI => (sy_years hI.1.1).imp (fun r M' h => ⟨h.1, (sn_years hI.1.2.1).imp (fun r2 M2' h2 => ⟨h2.1, qI_same hI.1 h.2.1 h2.2.1 h.2.2.1 h.2.2.2.1 h2.2.2.1 h2.2.2.2.1, rC_keep hI.2 h.2.2.2.2 h2.2.2.2.2⟩)⟩)
theorem sy_span {M : fmM} {a0 a1 a2 a3 a4 : Int32} (hI : scInv Tx invX M) : pvGood Tx 250 qX10_span [.ref 0, .int a0, .int a1, .int a2, .int a3, .int a4] M (fun r M' => rkI true false r ∧ scInv Tx invX M' ∧ M'.1 1 1 = M.1 1 1 ∧ (∀ i, M'.1 2 i = M.1 2 i) ∧ kpl pX M M') := (wsx_span (scq_t a0) (scq_t a1) (scq_t a2) (scq_t a3) (scq_t a4) hI (fun n M' _ h1 h2 => ⟨Or.inl ⟨n, rfl⟩, h1, (h2 1 1 rfl).1, (fun i => (h2 2 i rfl).1), kpl_of h2 (by decide)⟩) (fun M' h1 h2 => ⟨Or.inr (Or.inl ⟨rfl, rfl⟩), h1, (h2 1 1 rfl).1, (fun i => (h2 2 i rfl).1), kpl_of h2 (by decide)⟩)).up (by decide)
theorem sn_span {M : fmM} {a0 a1 a2 a3 a4 : Int32} (hI : scInv Tm invM M) : pvGood Tm 250 qX11_span [.ref 0, .int a0, .int a1, .int a2, .int a3, .int a4] M (fun r M' => tI r ∧ scInv Tm invM M' ∧ M'.1 0 1 = M.1 0 1 ∧ (∀ i, M'.1 1 i = M.1 1 i) ∧ kpt pM M M') := (wsm_span (scq_t a0) (scq_t a1) (scq_t a2) (scq_t a3) (scq_t a4) hI (fun n M' _ h1 h2 => ⟨⟨n, rfl⟩, h1, (h2 0 1 rfl).1, (fun i => (h2 1 i rfl).1), kp_of h2 (by decide)⟩)).up (by decide)
theorem st_span : laS_span pI := fun M M2 a0 a1 a2 a3 a4 hI => (sy_span hI.1.1).imp (fun r M' h => ⟨h.1, (sn_span hI.1.2.1).imp (fun r2 M2' h2 => ⟨h2.1, qI_same hI.1 h.2.1 h2.2.1 h.2.2.1 h.2.2.2.1 h2.2.2.1 h2.2.2.2.1, rC_keep hI.2 h.2.2.2.2 h2.2.2.2.2⟩)⟩)
theorem sy_image {M : fmM} (hI : scInv Tx invX M) : pvGood Tx 250 qX10_image [.ref 0] M (fun r M' => rkI false false r ∧ scInv Tx invX M' ∧ M'.1 1 1 = M.1 1 1 ∧ (∀ i, M'.1 2 i = M.1 2 i) ∧ kpl ([], []) M M') := (wsx_image  hI (fun n M' _ h1 h2 => ⟨Or.inl ⟨n, rfl⟩, h1, (h2 1 1 rfl).1, (fun i => (h2 2 i rfl).1), kpl_of h2 (by decide)⟩)).up (by decide)
theorem sn_image {M : fmM} (hI : scInv Tm invM M) : pvGood Tm 250 qX11_image [.ref 0] M (fun r M' => tI r ∧ scInv Tm invM M' ∧ M'.1 0 1 = M.1 0 1 ∧ (∀ i, M'.1 1 i = M.1 1 i) ∧ kpt ([], []) M M') := (wsm_image  hI (fun n M' _ h1 h2 => ⟨⟨n, rfl⟩, h1, (h2 0 1 rfl).1, (fun i => (h2 1 i rfl).1), kp_of h2 (by decide)⟩)).up (by decide)
theorem st_image : laS_image pI := fun M M2 hI => by
  obtain ⟨D, cs, hD, hX, hY, hL, hM, hd, hr, e⟩ := hI.2
  obtain ⟨i, hi, h3, hi2⟩ := rC_i hI.1.1 hr
  have ex : pvGood Tx 250 qX10_image [.ref 0] M (fun r M' => (i = 3 ∧ r = .inl (some (.int (-1))) ∧ M' = M) ∨ (i < 3 ∧ r = .inl (some (.int (M.1 0 13 + 1))) ∧ ∃ M1, shA (1 + i) 0 M M1 ∧ M' = fmI M1 0 13 (M.1 0 13 + 1))) := (c_ximS hi h3 (fun h => Or.inl ⟨h, rfl, rfl⟩) (fun h M1 k => Or.inr ⟨h, rfl, M1, k, rfl⟩)).up (by decide)
  have em : pvGood Tm 250 qX11_image [.ref 0] M2 (fun r M' => (i = 3 ∧ r = .inl (some (.int (-1))) ∧ M' = fmI M2 0 0 0) ∨ (i < 3 ∧ r = .inl (some (.int (M2.1 0 34 + 1))) ∧ ∃ M1, pa0 (fmI M2 0 0 0) i 239 M1 ∧ M' = fmI M1 0 34 (M2.1 0 34 + 1))) := (c_mimS hi2 h3 (fun h => Or.inl ⟨h, rfl, rfl⟩) (fun h M1 k => Or.inr ⟨h, rfl, M1, k, rfl⟩)).up (by decide)
  exact ((sy_image hI.1.1).and ex).imp (fun r M' h => ⟨h.1.1, ((sn_image hI.1.2.1).and em).imp (fun r2 M2' h2' => by
    have g : r2 = r ∧ rC M' M2' := by
      rcases h.2 with ⟨p, e1, k⟩ | ⟨p, e1, M1, k, e9⟩ <;> rcases h2'.2 with ⟨p2, e2, k2⟩ | ⟨p2, e2, N1, k2, e8⟩
      · rw [k, k2]
        exact ⟨e2.trans e1.symm, rC_keep hI.2 (kpl.refl _) (kp_putA (kpt.refl M2) rfl)⟩
      · omega
      · omega
      · rw [e9, e8]
        have kx : ∀ k', k' ≠ 0 → k' < 46 → ∀ j, (fmI M1 0 13 (M.1 0 13 + 1)).1 k' j = M.1 k' j := fun k' a b j => by
          rw [fmI_k _ _ a]
          exact (k.2.2.2 k' (by omega) j).1
        have km : ∀ k' j, k' ≠ 0 → k' < 503 → (fmI N1 0 34 (M2.1 0 34 + 1)).1 k' j = M2.1 k' j := fun k' j a b => by
          rw [fmI_k _ _ a, k2.2.1 k' j (by omega) (by omega), fmI_k _ _ a]
        refine ⟨by rw [e1, e2, hr.2.1], rC_mk hD hX hY hL hM hd (fun k' j a b => kx k' (by omega) (by omega) j) (kx 23 (by decide) (by decide) 3) (fun j => kx 24 (by decide) (by decide) j) (fun k' j a => km k' j (by omega) (by omega)) ?_ (fun k' j a b => km k' j (by omega) (by omega)) (hr.im hD.1 hi p k k2) ?_⟩
        · rw [fmI_j _ _ (by decide), k2.2.1 0 17 (by omega) (by decide), fmI_j _ _ (by decide)]
        · rw [fmI_j _ _ (by decide), (k.2.2.2 0 (by omega) 14).1, fmI_j _ _ (by decide), k2.2.1 0 33 (by omega) (by decide), fmI_j _ _ (by decide)]
          exact e
    exact ⟨h2'.1.1, qI_same hI.1 h.1.2.1 h2'.1.2.1 h.1.2.2.1 h.1.2.2.2.1 h2'.1.2.2.1 h2'.1.2.2.2.1, g.2⟩)⟩)
theorem sy_restore {M : fmM} (hI : scInv Tx invX M) : pvGood Tx 250 qX10_restore [.ref 0] M (fun r M' => rkI false false r ∧ scInv Tx invX M' ∧ M'.1 1 1 = M.1 1 1 ∧ (∀ i, M'.1 2 i = M.1 2 i) ∧ kpl ([], []) M M') := (wsx_restore  hI (fun n M' _ h1 h2 => ⟨Or.inl ⟨n, rfl⟩, h1, (h2 1 1 rfl).1, (fun i => (h2 2 i rfl).1), kpl_of h2 (by decide)⟩)).up (by decide)
theorem sn_restore {M : fmM} (hI : scInv Tm invM M) : pvGood Tm 250 qX11_restore [.ref 0] M (fun r M' => tI r ∧ scInv Tm invM M' ∧ M'.1 0 1 = M.1 0 1 ∧ (∀ i, M'.1 1 i = M.1 1 i) ∧ kpt ([], []) M M') := (wsm_restore  hI (fun n M' _ h1 h2 => ⟨⟨n, rfl⟩, h1, (h2 0 1 rfl).1, (fun i => (h2 1 i rfl).1), kp_of h2 (by decide)⟩)).up (by decide)
theorem st_restore : laS_restore pI := fun M M2 hI => by
  obtain ⟨D, cs, hD, hX, hY, hL, hM, hd, hr, e⟩ := hI.2
  obtain ⟨i, hi, h3, hi2⟩ := rC_i hI.1.1 hr
  have ex : pvGood Tx 250 qX10_restore [.ref 0] M (fun r M' => (i = 0 ∧ r = .inl (some (.int (-1))) ∧ M' = M) ∨ (0 < i ∧ r = .inl (some (.int (M.1 0 13 - 1))) ∧ ∃ M1, shA 0 (1 + (i - 1)) (fmI M 0 13 (M.1 0 13 - 1)) M1 ∧ M' = fmI (fmI M1 0 14 0) 34 5 0)) := (c_xreS hi h3 (fun h => Or.inl ⟨h, rfl, rfl⟩) (fun h M1 k => Or.inr ⟨h, rfl, M1, k, rfl⟩)).up (by decide)
  have em : pvGood Tm 250 qX11_restore [.ref 0] M2 (fun r M' => (i = 0 ∧ r = .inl (some (.int (-1))) ∧ M' = fmI M2 0 0 0) ∨ (0 < i ∧ r = .inl (some (.int (M2.1 0 34 - 1))) ∧ ∃ M1, pa1 (fmI (fmI M2 0 0 0) 0 34 (M2.1 0 34 - 1)) (i - 1) 239 M1 ∧ M' = fmI M1 0 33 0)) := (c_mreS hi2 h3 (fun h => Or.inl ⟨h, rfl, rfl⟩) (fun h M1 k => Or.inr ⟨h, rfl, M1, k, rfl⟩)).up (by decide)
  exact ((sy_restore hI.1.1).and ex).imp (fun r M' h => ⟨h.1.1, ((sn_restore hI.1.2.1).and em).imp (fun r2 M2' h2' => by
    have g : r2 = r ∧ rC M' M2' := by
      rcases h.2 with ⟨p, e1, k⟩ | ⟨p, e1, M1, k, e9⟩ <;> rcases h2'.2 with ⟨p2, e2, k2⟩ | ⟨p2, e2, N1, k2, e8⟩
      · rw [k, k2]
        exact ⟨e2.trans e1.symm, rC_keep hI.2 (kpl.refl _) (kp_putA (kpt.refl M2) rfl)⟩
      · omega
      · omega
      · rw [e9, e8]
        have kx : ∀ k', k' ≠ 0 → k' ≠ 34 → k' < 46 → ∀ j, (fmI (fmI M1 0 14 0) 34 5 0).1 k' j = M.1 k' j := fun k' a c b j => by
          rw [fmI_k _ _ c, fmI_k _ _ a, (k.2.2.2 k' (by omega) j).1, fmI_k _ _ a]
        have km : ∀ k' j, k' ≠ 0 → k' ≠ 7 → k' < 503 → (fmI N1 0 33 0).1 k' j = M2.1 k' j := fun k' j a c b => by
          rw [fmI_k _ _ a, k2.2.1 k' j (fun t ht h8 => by have := sl_d t ht; omega) (by omega), fmI_k _ _ a, fmI_k _ _ a]
        refine ⟨by rw [e1, e2, hr.2.1], rC_mk hD hX hY hL hM hd (fun k' j a b => kx k' (by omega) (by omega) (by omega) j) (kx 23 (by decide) (by decide) (by decide) 3) (fun j => kx 24 (by decide) (by decide) (by decide) j) (fun k' j a => km k' j (by omega) (by omega) (by omega)) ?_ (fun k' j a b => km k' j (by omega) (by omega) (by omega)) (hr.re hD.1 hi p h3 k k2) ?_⟩
        · rw [fmI_j _ _ (by decide), k2.2.1 0 17 (fun t ht h8 => by have := sl_d t ht; omega) (by decide), fmI_j _ _ (by decide), fmI_j _ _ (by decide)]
        · rw [fmI_k _ _ (by decide), fmI_s, fmI_s]
    exact ⟨h2'.1.1, qI_same hI.1 h.1.2.1 h2'.1.2.1 h.1.2.2.1 h.1.2.2.2.1 h2'.1.2.2.1 h2'.1.2.2.2.1, g.2⟩)⟩)
theorem sy_status {M : fmM} {a0 : Int32} (hI : scInv Tx invX M) : pvGood Tx 250 qX10_status [.ref 0, .int a0] M (fun r M' => rkI false false r ∧ scInv Tx invX M' ∧ M'.1 1 1 = M.1 1 1 ∧ (∀ i, M'.1 2 i = M.1 2 i) ∧ kpl pX M M') := (wsx_status (scq_t a0) hI (fun n M' _ h1 h2 => ⟨Or.inl ⟨n, rfl⟩, h1, (h2 1 1 rfl).1, (fun i => (h2 2 i rfl).1), kpl_of h2 (by decide)⟩)).up (by decide)
theorem sn_status {M : fmM} {a0 : Int32} (hI : scInv Tm invM M) : pvGood Tm 250 qX11_status [.ref 0, .int a0] M (fun r M' => tI r ∧ scInv Tm invM M' ∧ M'.1 0 1 = M.1 0 1 ∧ (∀ i, M'.1 1 i = M.1 1 i) ∧ kpt pM M M') := (wsm_status (scq_t a0) hI (fun n M' _ h1 h2 => ⟨⟨n, rfl⟩, h1, (h2 0 1 rfl).1, (fun i => (h2 1 i rfl).1), kp_of h2 (by decide)⟩)).up (by decide)
theorem st_status : laS_status pI := fun M M2 a0 hI => (sy_status hI.1.1).imp (fun r M' h => ⟨h.1, (sn_status hI.1.2.1).imp (fun r2 M2' h2 => ⟨h2.1, qI_same hI.1 h.2.1 h2.2.1 h.2.2.1 h.2.2.2.1 h2.2.2.1 h2.2.2.2.1, rC_keep hI.2 h.2.2.2.2 h2.2.2.2.2⟩)⟩)
theorem sy_count {M : fmM} {a0 : Int32} (hI : scInv Tx invX M) : pvGood Tx 250 qX10_count [.ref 0, .int a0] M (fun r M' => rkI false false r ∧ scInv Tx invX M' ∧ M'.1 1 1 = M.1 1 1 ∧ (∀ i, M'.1 2 i = M.1 2 i) ∧ kpl pX M M') := (wsx_count (scq_t a0) hI (fun n M' _ h1 h2 => ⟨Or.inl ⟨n, rfl⟩, h1, (h2 1 1 rfl).1, (fun i => (h2 2 i rfl).1), kpl_of h2 (by decide)⟩)).up (by decide)
theorem sn_count {M : fmM} {a0 : Int32} (hI : scInv Tm invM M) : pvGood Tm 250 qX11_count [.ref 0, .int a0] M (fun r M' => tI r ∧ scInv Tm invM M' ∧ M'.1 0 1 = M.1 0 1 ∧ (∀ i, M'.1 1 i = M.1 1 i) ∧ kpt pM M M') := (wsm_count (scq_t a0) hI (fun n M' _ h1 h2 => ⟨⟨n, rfl⟩, h1, (h2 0 1 rfl).1, (fun i => (h2 1 i rfl).1), kp_of h2 (by decide)⟩)).up (by decide)
theorem st_count : laS_count pI := fun M M2 a0 hI => (sy_count hI.1.1).imp (fun r M' h => ⟨h.1, (sn_count hI.1.2.1).imp (fun r2 M2' h2 => ⟨h2.1, qI_same hI.1 h.2.1 h2.2.1 h.2.2.1 h.2.2.2.1 h2.2.2.1 h2.2.2.2.1, rC_keep hI.2 h.2.2.2.2 h2.2.2.2.2⟩)⟩)
theorem pAll : laAll pI := ⟨st_feed, st_drawer, st_law, st_work, st_page, st_fault, st_undo, st_told, st_life, st_facts, st_wrong, st_would, st_loss, st_cost, st_risk, st_saves, st_first, st_lacking, st_signed, st_stale, st_best, st_bestIn, st_often, st_yearly, st_brings, st_says, st_line, st_room, st_lines, st_apart, st_twins, st_written, st_whose, st_ahead, st_lives, st_oldest, st_chain, st_due, st_news, st_expects, st_worst, st_years, st_span, st_image, st_restore, st_status, st_count⟩
