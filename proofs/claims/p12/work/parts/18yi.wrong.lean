/-- how wrong its piece is now, -1 for none -/
def woA (D : dD) (cs : tC) (S : aS) (i : Nat) : Int := if S.2 i = -1 then -1 else wrS D cs S.1.2.2.1 S.1.1 i (S.2 i).toNat
set_option maxRecDepth 20000 in
theorem c_xwrong {M : fmM} {Q : fmR → fmM → Prop} {D : dD} {cs : tC} {S : aS} {x : Int32} (h : xAq M D cs S) (hn1 : ¬ inL D x → Q (.inr fmNSE) (fmI M 0 15 (M.1 0 15 + 1))) (hq : inL D x → ∀ (r : Int32) (M' : fmM), r.toInt = woA D cs S x.toInt.toNat → Q (.inl (some (.int r))) M') : pvGood Tx 40 qX10_wrong [.ref 0, .int x] M Q := by
  refine pvGood_of (Nat.le_of_ble_eq_true rfl) ?_
  show pvEv Tx 40 qX10_wrong 0 [some (.ref 0), some (.int x), none] [] M Q
  have hxq := h
  obtain ⟨hD, hX, hL, hs, ho⟩ := h
  have d8 := hD.1
  have hl9 : (M.1 3 9).toInt = (D.1 : Int) := hX.1.1
  refine pv_aloadn (pc := 0) (n := 0) 0 rfl rfl (fm_dec dtX10_wrong 0 rfl) ?_
  refine pv_iloadn (pc := 1) (n := 1) 1 rfl rfl (fm_dec dtX10_wrong 1 rfl) ?_
  refine pv_invV1 (k := 0) (d' := 0) (pc := 2) pcv_X10_197 (by decide) rfl (Nat.le_of_ble_eq_true rfl) (by decide) (fm_dec dtX10_wrong 2 rfl) ?_
  refine c_needL (fun h2a h2b => ?_) (fun h2 => ?_)
  · refine pv_then0 ?_
    have hn : inL D x := ⟨h2a, by omega⟩
    obtain ⟨i, hi, rfl, ei⟩ := hn.n hD
    rw [ei] at hq
    have hi9 : (nI i).toInt = (i : Int) := nI_toInt (by omega)
    have hi8 : i < 8 := (by omega)
    have g := ag_x hs hi
    have ab := ag_b ho hi
    refine pv_aloadn (pc := 5) (n := 0) 0 rfl rfl (fm_dec dtX10_wrong 3 rfl) ?_
    refine pv_getR (k := 0) (j := 9) (ci := 10) (pc := 6) 46 rfl (by decide) pfl_X10_75 (by decide) rfl (by decide) (fm_dec dtX10_wrong 4 rfl) ?_
    refine pv_getR (k := 46) (j := 0) (ci := 5) (pc := 9) 47 rfl (by decide) pfl_X10_90 (by decide) rfl (by decide) (fm_dec dtX10_wrong 5 rfl) ?_
    refine pv_getR (k := 47) (j := 0) (ci := 6) (pc := 12) 48 rfl (by decide) pfl_X10_219 (by decide) rfl (by decide) (fm_dec dtX10_wrong 6 rfl) ?_
    refine pv_iloadn (pc := 15) (n := 1) 1 rfl rfl (fm_dec dtX10_wrong 7 rfl) ?_
    refine pv_iald (k := 48) (n := 8) (pc := 16) (by decide) rfl rfl (ix_in hi9 (by omega)) (fm_dec dtX10_wrong 8 rfl) ?_
    rw [i32_cl hi9]
    refine pv_istoren (pc := 17) (n := 2) 2 rfl (by decide) rfl (fm_dec dtX10_wrong 9 rfl) ?_
    dsimp only [List.set_cons_zero, List.set_cons_succ]
    refine pv_iloadn (pc := 18) (n := 2) 2 rfl rfl (fm_dec dtX10_wrong 10 rfl) ?_
    refine pv_iconst (pc := 19) (v := (-1)) (by decide) (fm_dec dtX10_wrong 11 rfl) ?_
    refine pv_icmp_ne (pc := 20) 27 (by decide) (fm_dec dtX10_wrong 12 rfl) (fun hc20 => ?_) (fun hc20 => ?_)
    · obtain ⟨exn, hne⟩ := ag_n hs ho hi hc20
      rw [exn]
      refine pv_aloadn (pc := 27) (n := 0) 0 rfl rfl (fm_dec dtX10_wrong 15 rfl) ?_
      refine pv_getR (k := 0) (j := 6) (ci := 10) (pc := 28) 32 rfl (by decide) pfl_X10_52 (by decide) rfl (by decide) (fm_dec dtX10_wrong 16 rfl) ?_
      refine pv_aloadn (pc := 31) (n := 0) 0 rfl rfl (fm_dec dtX10_wrong 17 rfl) ?_
      refine pv_getR (k := 0) (j := 9) (ci := 10) (pc := 32) 46 rfl (by decide) pfl_X10_75 (by decide) rfl (by decide) (fm_dec dtX10_wrong 18 rfl) ?_
      refine pv_getR (k := 46) (j := 0) (ci := 5) (pc := 35) 47 rfl (by decide) pfl_X10_90 (by decide) rfl (by decide) (fm_dec dtX10_wrong 19 rfl) ?_
      refine pv_iloadn (pc := 38) (n := 1) 1 rfl rfl (fm_dec dtX10_wrong 20 rfl) ?_
      refine pv_iconst (pc := 39) (v := 0) (by decide) (fm_dec dtX10_wrong 21 rfl) ?_
      refine pv_iloadn (pc := 40) (n := 2) 2 rfl rfl (fm_dec dtX10_wrong 22 rfl) ?_
      refine pv_invV4 (k := 32) (d' := 2) (pc := 41) pcv_X10_229 (by decide) rfl (Nat.le_of_ble_eq_true rfl) (by decide) (fm_dec dtX10_wrong 23 rfl) ?_
      refine c_xwrg hD hX hL hs ho hi (by omega) (fun M41 r41 g41 h41 e41 => ?_)
      refine pv_then1 ?_
      exact pv_ireturn (pc := 44) rfl (fm_dec dtX10_wrong 24 rfl) (hq hn _ _ (by unfold woA; rw [if_neg hne]; exact e41))
    · refine pv_iconst (pc := 23) (v := (-1)) (by decide) (fm_dec dtX10_wrong 13 rfl) ?_
      refine pv_goto (pc := 24) 44 (by decide) (fm_dec dtX10_wrong 14 rfl) ?_
      exact pv_ireturn (pc := 44) rfl (fm_dec dtX10_wrong 24 rfl) (hq hn _ _ (by unfold woA; rw [if_pos (ag_m hs hi hc20)]; decide))
  · refine pv_thenX ?_
    exact hn1 (fun h8 => h2 ⟨h8.1, by have := h8.2; omega⟩)
set_option maxRecDepth 20000 in
theorem c_mwof {M : fmM} {Q : fmR → fmM → Prop} {D : dD} {cs : tC} {S : aS} {i : Nat} (h : mAq M D cs S) (hi : i < D.1) (hq : ∀ (r : Int32) (M' : fmM), (∀ k j, k ≠ 5 → k ≠ 6 → M'.1 k j = M.1 k j) → M'.2 = M.2 → r.toInt = woA D cs S i → Q (.inl (some (.int r))) M') : pvGood Tm 8 qX11_wrongOf [.ref 0, .int (nI i)] M Q := by
  refine pvGood_of (Nat.le_of_ble_eq_true rfl) ?_
  show pvEv Tm 8 qX11_wrongOf 0 [some (.ref 0), some (.int (nI i))] [] M Q
  obtain ⟨hD, hY, hM, hd, ht, ho⟩ := h
  have d8 := hD.1
  have hi9 : (nI i).toInt = (i : Int) := nI_toInt (by omega)
  have hi8 : i < 8 := (by omega)
  have h1i := one_i hi8
  have g := ht.2.2.2.2.2.2 i hi
  have ab := ag_b ho hi
  have zm : (-1000 : Int32).toInt = -1000 := (by decide)
  refine pv_aloadn (pc := 0) (n := 0) 0 rfl rfl (fm_dec dtX11_wrongOf 0 rfl) ?_
  refine pv_getR (k := 0) (j := 27) (ci := 11) (pc := 1) 7 rfl (by decide) pfl_X11_61 (by decide) rfl (by decide) (fm_dec dtX11_wrongOf 1 rfl) ?_
  refine pv_iloadn (pc := 4) (n := 1) 1 rfl rfl (fm_dec dtX11_wrongOf 2 rfl) ?_
  refine pv_iS2 (d' := 0) (pc := 5) pcs_X11_283 (Nat.le_of_ble_eq_true rfl) (by decide) (fm_dec dtX11_wrongOf 3 rfl) ?_
  refine c_hasPiece7 hi9 hi8 (fun h5 => ?_) (fun h5 => ?_)
  · refine pv_then1 ?_
    refine pv_if_eq (pc := 8) 38 (by decide) (fm_dec dtX11_wrongOf 4 rfl) (fun hc8 => by exfalso; revert hc8; decide) (fun _ => ?_)
    refine pv_aloadn (pc := 11) (n := 0) 0 rfl rfl (fm_dec dtX11_wrongOf 5 rfl) ?_
    refine pv_aloadn (pc := 12) (n := 0) 0 rfl rfl (fm_dec dtX11_wrongOf 6 rfl) ?_
    refine pv_getR (k := 0) (j := 27) (ci := 11) (pc := 13) 7 rfl (by decide) pfl_X11_61 (by decide) rfl (by decide) (fm_dec dtX11_wrongOf 7 rfl) ?_
    refine pv_iloadn (pc := 16) (n := 1) 1 rfl rfl (fm_dec dtX11_wrongOf 8 rfl) ?_
    refine pv_aloadn (pc := 17) (n := 0) 0 rfl rfl (fm_dec dtX11_wrongOf 9 rfl) ?_
    refine pv_getR (k := 0) (j := 27) (ci := 11) (pc := 18) 7 rfl (by decide) pfl_X11_61 (by decide) rfl (by decide) (fm_dec dtX11_wrongOf 10 rfl) ?_
    refine pv_iconst (pc := 21) (v := 1) (by decide) (fm_dec dtX11_wrongOf 11 rfl) ?_
    refine pv_iloadn (pc := 22) (n := 1) 1 rfl rfl (fm_dec dtX11_wrongOf 12 rfl) ?_
    refine pv_iadd (pc := 23) (fm_dec dtX11_wrongOf 13 rfl) ?_
    refine pv_iald (k := 7) (n := 14) (pc := 24) (by decide) rfl rfl (ix_in h1i (by omega)) (fm_dec dtX11_wrongOf 14 rfl) ?_
    rw [i32_cl h1i]
    refine pv_aloadn (pc := 25) (n := 0) 0 rfl rfl (fm_dec dtX11_wrongOf 15 rfl) ?_
    refine pv_getR (k := 0) (j := 27) (ci := 11) (pc := 26) 7 rfl (by decide) pfl_X11_61 (by decide) rfl (by decide) (fm_dec dtX11_wrongOf 16 rfl) ?_
    refine pv_bipush (pc := 29) (v := 10) (by decide) (fm_dec dtX11_wrongOf 17 rfl) ?_
    refine pv_iald (k := 7) (n := 14) (pc := 31) (by decide) rfl rfl (fm_inl (by decide)) (fm_dec dtX11_wrongOf 18 rfl) ?_
    refine pv_invV4 (k := 0) (d' := 5) (pc := 32) pcv_X11_276 (by decide) rfl (Nat.le_of_ble_eq_true rfl) (by decide) (fm_dec dtX11_wrongOf 19 rfl) ?_
    refine c_mwrg (a := (S.2 i).toNat) hD hY hM hd ht ho hi ht.2.1 (by have hne : ¬ S.2 i = -1 := (fun e => h5 ((ht.no ho hi).mpr e)); rw [g, if_neg hne]; omega) (by omega) (fun M32 r32 g32 h32 e32 => ?_)
    refine pv_then1 ?_
    refine pv_goto (pc := 35) 39 (by decide) (fm_dec dtX11_wrongOf 20 rfl) ?_
    exact pv_ireturn (pc := 39) rfl (fm_dec dtX11_wrongOf 22 rfl) (hq _ _ g32 h32 (by unfold woA; rw [if_neg (fun e => h5 ((ht.no ho hi).mpr e))]; exact e32))
  · refine pv_then1 ?_
    refine pv_if_eq (pc := 8) 38 (by decide) (fm_dec dtX11_wrongOf 4 rfl) (fun _ => ?_) (fun hc8 => by exfalso; revert hc8; decide)
    refine pv_iconst (pc := 38) (v := (-1)) (by decide) (fm_dec dtX11_wrongOf 21 rfl) ?_
    exact pv_ireturn (pc := 39) rfl (fm_dec dtX11_wrongOf 22 rfl) (hq _ _ (fun _ _ _ _ => rfl) rfl (by unfold woA; rw [if_pos ((ht.no ho hi).mp h5)]; decide))
set_option maxRecDepth 20000 in
theorem c_mwrong {M : fmM} {Q : fmR → fmM → Prop} {D : dD} {cs : tC} {S : aS} {x : Int32} (h : mAq M D cs S) (hn1 : ¬ inL D x → ∀ (z : Int32) (M' : fmM), M'.1 0 0 = 1 → Q (.inl (some (.int z))) M') (hq : inL D x → ∀ (r : Int32) (M' : fmM), M'.1 0 0 = 0 → r.toInt = woA D cs S x.toInt.toNat → Q (.inl (some (.int r))) M') : pvGood Tm 40 qX11_wrong [.ref 0, .int x] M Q := by
  refine pvGood_of (Nat.le_of_ble_eq_true rfl) ?_
  show pvEv Tm 40 qX11_wrong 0 [some (.ref 0), some (.int x)] [] M Q
  have hmq := h.z (x := 0)
  obtain ⟨hD, hY, hM, hd, ht, ho⟩ := hmq
  have d8 := hD.1
  have h4 : (M.1 4 0).toInt = (D.1 : Int) := hY.1
  have hl := hD.1
  refine pv_aloadn (pc := 0) (n := 0) 0 rfl rfl (fm_dec dtX11_wrong 0 rfl) ?_
  refine pv_iconst (pc := 1) (v := 0) (by decide) (fm_dec dtX11_wrong 1 rfl) ?_
  refine pv_putI (k := 0) (j := 0) (ci := 11) (pc := 2) pfl_X11_101 (by decide) rfl (by decide) (fm_dec dtX11_wrong 2 rfl) ?_
  refine pv_aloadn (pc := 5) (n := 0) 0 rfl rfl (fm_dec dtX11_wrong 3 rfl) ?_
  refine pv_aloadn (pc := 6) (n := 0) 0 rfl rfl (fm_dec dtX11_wrong 4 rfl) ?_
  refine pv_iloadn (pc := 7) (n := 1) 1 rfl rfl (fm_dec dtX11_wrong 5 rfl) ?_
  refine pv_invV1 (k := 0) (d' := 1) (pc := 8) pcv_X11_331 (by decide) rfl (Nat.le_of_ble_eq_true rfl) (by decide) (fm_dec dtX11_wrong 6 rfl) ?_
  refine c_isLife (M := fmI M 0 0 0) h4 hl (fun k hk hkl => ?_) (fun hno => ?_)
  · refine pv_then1 ?_
    refine pv_if_ne (pc := 11) 18 (by decide) (fm_dec dtX11_wrong 7 rfl) (fun _ => ?_) (fun hc11 => by exfalso; revert hc11; decide)
    refine pv_iconst (pc := 18) (v := 0) (by decide) (fm_dec dtX11_wrong 10 rfl) ?_
    refine pv_iconst (pc := 19) (v := 1) (by decide) (fm_dec dtX11_wrong 11 rfl) ?_
    refine pv_iconst (pc := 20) (v := 0) (by decide) (fm_dec dtX11_wrong 12 rfl) ?_
    refine pv_invV3 (k := 0) (d' := 0) (pc := 21) pcv_X11_177 (by decide) rfl (Nat.le_of_ble_eq_true rfl) (by decide) (fm_dec dtX11_wrong 13 rfl) ?_
    refine c_badF0 rfl ?_
    refine pv_then1 ?_
    refine pv_if_eq (pc := 24) 29 (by decide) (fm_dec dtX11_wrong 14 rfl) (fun _ => ?_) (fun hc24 => by exfalso; revert hc24; decide)
    have hn : inL D x := ⟨by omega, by omega⟩
    obtain ⟨i, hi, rfl, ei⟩ := hn.n hD
    rw [ei] at hq
    have hi9 : (nI i).toInt = (i : Int) := nI_toInt (by omega)
    have hi8 : i < 8 := (by omega)
    refine pv_aloadn (pc := 29) (n := 0) 0 rfl rfl (fm_dec dtX11_wrong 17 rfl) ?_
    refine pv_iloadn (pc := 30) (n := 1) 1 rfl rfl (fm_dec dtX11_wrong 18 rfl) ?_
    refine pv_invV1 (k := 0) (d' := 8) (pc := 31) pcv_X11_337 (by decide) rfl (Nat.le_of_ble_eq_true rfl) (by decide) (fm_dec dtX11_wrong 19 rfl) ?_
    refine c_mwof ⟨hD, hY, hM, hd, ht, ho⟩ hi (fun r31 M31 g31 h31 e31 => ?_)
    refine pv_then1 ?_
    exact pv_ireturn (pc := 34) rfl (fm_dec dtX11_wrong 20 rfl) (hq hn _ _ ((g31 0 0 (by decide) (by decide)).trans rfl) e31)
  · refine pv_then1 ?_
    refine pv_if_ne (pc := 11) 18 (by decide) (fm_dec dtX11_wrong 7 rfl) (fun hc11 => by exfalso; revert hc11; decide) (fun _ => ?_)
    refine pv_iconst (pc := 14) (v := 1) (by decide) (fm_dec dtX11_wrong 8 rfl) ?_
    refine pv_goto (pc := 15) 19 (by decide) (fm_dec dtX11_wrong 9 rfl) ?_
    refine pv_iconst (pc := 19) (v := 1) (by decide) (fm_dec dtX11_wrong 11 rfl) ?_
    refine pv_iconst (pc := 20) (v := 0) (by decide) (fm_dec dtX11_wrong 12 rfl) ?_
    refine pv_invV3 (k := 0) (d' := 0) (pc := 21) pcv_X11_177 (by decide) rfl (Nat.le_of_ble_eq_true rfl) (by decide) (fm_dec dtX11_wrong 13 rfl) ?_
    refine c_badT0 rfl (by decide) ?_
    refine pv_then1 ?_
    refine pv_if_eq (pc := 24) 29 (by decide) (fm_dec dtX11_wrong 14 rfl) (fun hc24 => by exfalso; revert hc24; decide) (fun _ => ?_)
    refine pv_iconst (pc := 27) (v := 0) (by decide) (fm_dec dtX11_wrong 15 rfl) ?_
    exact pv_ireturn (pc := 28) rfl (fm_dec dtX11_wrong 16 rfl) (hn1 hno _ _ rfl)
theorem xe_wrong {M : fmM} {D : dD} {cs : tC} {S : aS} {x : Int32} (h : xAq M D cs S) : pvGood Tx 250 qX10_wrong [.ref 0, .int x] M (fun r _ => (inL D x ∧ r = .inl (some (.int (iZ (woA D cs S x.toInt.toNat))))) ∨ (¬ inL D x ∧ r = .inr fmNSE)) := (c_xwrong h (fun h => Or.inr ⟨h, rfl⟩) (fun h r M' e => Or.inl ⟨h, by rw [iZ_is e]⟩)).up (by decide)
theorem me_wrong {M : fmM} {D : dD} {cs : tC} {S : aS} {x : Int32} (h : mAq M D cs S) : pvGood Tm 250 qX11_wrong [.ref 0, .int x] M (fun r M' => (inL D x ∧ r = .inl (some (.int (iZ (woA D cs S x.toInt.toNat)))) ∧ M'.1 0 0 = 0) ∨ (¬ inL D x ∧ M'.1 0 0 = 1)) := (c_mwrong h (fun h z M' e => Or.inr ⟨h, e⟩) (fun h r M' z e => Or.inl ⟨h, by rw [iZ_is e], z⟩)).up (by decide)
