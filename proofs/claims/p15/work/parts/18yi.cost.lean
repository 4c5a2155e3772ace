set_option maxRecDepth 20000 in
theorem c_needP {M : fmM} {Q : fmR → fmM → Prop} {x : Int32} (hq : inW x 0 1 → Q (.inl none) M) (hf : ¬ inW x 0 1 → Q (.inr fmIAE) (fmI M 0 16 (M.1 0 16 + 1))) : pvGood Tx 1 qX10_needPart [.ref 0, .int x] M Q := by
  refine pvGood_of (Nat.le_of_ble_eq_true rfl) ?_
  show pvEv Tx 1 qX10_needPart 0 [some (.ref 0), some (.int x)] [] M Q
  refine pv_aloadn (pc := 0) (n := 0) 0 rfl rfl (fm_dec dtX10_needPart 0 rfl) ?_
  refine pv_iloadn (pc := 1) (n := 1) 1 rfl rfl (fm_dec dtX10_needPart 1 rfl) ?_
  refine pv_iconst (pc := 2) (v := 0) (by decide) (fm_dec dtX10_needPart 2 rfl) ?_
  refine pv_iconst (pc := 3) (v := 1) (by decide) (fm_dec dtX10_needPart 3 rfl) ?_
  refine pv_invV3 (k := 0) (d' := 0) (pc := 4) pcv_X10_169 (by decide) rfl (Nat.le_of_ble_eq_true rfl) (by decide) (fm_dec dtX10_needPart 4 rfl) ?_
  refine c_needW (fun h4a h4b => ?_) (fun h4 => ?_)
  · refine pv_then0 ?_
    exact pv_return (pc := 7) rfl (fm_dec dtX10_needPart 5 rfl) (hq ⟨h4a, h4b⟩)
  · refine pv_thenX ?_
    exact hf h4
set_option maxRecDepth 20000 in
theorem c_noP {M : fmM} {Q : fmR → fmM → Prop} {x w : Int32} (hth : M.1 0 0 = 0) (hw : ¬ w = 0) (hq : inW x 0 1 → Q (.inl (some (.int 0))) M) (hf : ¬ inW x 0 1 → Q (.inl (some (.int 1))) (fmI (fmI M 0 0 w) 2 1 (M.1 2 1 + 1))) : pvGood Tm 1 qX11_noPart [.ref 0, .int x, .int w] M Q := by
  refine pvGood_of (Nat.le_of_ble_eq_true rfl) ?_
  show pvEv Tm 1 qX11_noPart 0 [some (.ref 0), some (.int x), some (.int w)] [] M Q
  refine pv_aloadn (pc := 0) (n := 0) 0 rfl rfl (fm_dec dtX11_noPart 0 rfl) ?_
  refine pv_iloadn (pc := 1) (n := 1) 1 rfl rfl (fm_dec dtX11_noPart 1 rfl) ?_
  refine pv_iconst (pc := 2) (v := 0) (by decide) (fm_dec dtX11_noPart 2 rfl) ?_
  refine pv_iconst (pc := 3) (v := 1) (by decide) (fm_dec dtX11_noPart 3 rfl) ?_
  refine pv_iS3 (d' := 0) (pc := 4) pcs_X11_135 (Nat.le_of_ble_eq_true rfl) (by decide) (fm_dec dtX11_noPart 4 rfl) ?_
  refine c_in (fun h4a h4b => ?_) (fun h4 => ?_)
  · refine pv_then1 ?_
    refine pv_if_ne (pc := 7) 14 (by decide) (fm_dec dtX11_noPart 5 rfl) (fun _ => ?_) (fun hc7 => by exfalso; revert hc7; decide)
    refine pv_iconst (pc := 14) (v := 0) (by decide) (fm_dec dtX11_noPart 8 rfl) ?_
    refine pv_iloadn (pc := 15) (n := 2) 2 rfl rfl (fm_dec dtX11_noPart 9 rfl) ?_
    refine pv_iconst (pc := 16) (v := 1) (by decide) (fm_dec dtX11_noPart 10 rfl) ?_
    refine pv_invV3 (k := 0) (d' := 0) (pc := 17) pcv_X11_177 (by decide) rfl (Nat.le_of_ble_eq_true rfl) (by decide) (fm_dec dtX11_noPart 11 rfl) ?_
    refine c_badF1 hth ?_
    refine pv_then1 ?_
    exact pv_zreturn (pc := 20) rfl (by first | exact Or.inr rfl | exact Or.inl rfl) (fm_dec dtX11_noPart 12 rfl) (hq ⟨h4a, h4b⟩)
  · refine pv_then1 ?_
    refine pv_if_ne (pc := 7) 14 (by decide) (fm_dec dtX11_noPart 5 rfl) (fun hc7 => by exfalso; revert hc7; decide) (fun _ => ?_)
    refine pv_iconst (pc := 10) (v := 1) (by decide) (fm_dec dtX11_noPart 6 rfl) ?_
    refine pv_goto (pc := 11) 15 (by decide) (fm_dec dtX11_noPart 7 rfl) ?_
    refine pv_iloadn (pc := 15) (n := 2) 2 rfl rfl (fm_dec dtX11_noPart 9 rfl) ?_
    refine pv_iconst (pc := 16) (v := 1) (by decide) (fm_dec dtX11_noPart 10 rfl) ?_
    refine pv_invV3 (k := 0) (d' := 0) (pc := 17) pcv_X11_177 (by decide) rfl (Nat.le_of_ble_eq_true rfl) (by decide) (fm_dec dtX11_noPart 11 rfl) ?_
    refine c_badT1 hth hw ?_
    refine pv_then1 ?_
    exact pv_zreturn (pc := 20) rfl (by first | exact Or.inr rfl | exact Or.inl rfl) (fm_dec dtX11_noPart 12 rfl) (hf h4)
/-- what its death would lose now -/
def coV (D : dD) (cs : tC) (S : aS) (i : Nat) (p : Int32) : Int64 := if S.1.2.2.1.testBit i then frV 0 64 p else frV (jZ (coS D cs S i)) 64 p
theorem al_b {t : Bool} (h : bI (!t) = 0) : t = true := by
  cases t with
  | true => rfl
  | false => exact absurd h (by decide)
theorem al_n {t : Bool} (h : ¬ bI (!t) = 0) : t = false := by
  cases t with
  | false => rfl
  | true => exact absurd (by decide) h
set_option maxRecDepth 20000 in
theorem c_xcosts {M : fmM} {Q : fmR → fmM → Prop} {D : dD} {cs : tC} {S : aS} {x p : Int32} (h : xAq M D cs S) (hn1 : ¬ inL D x → Q (.inr fmNSE) (fmI M 0 15 (M.1 0 15 + 1))) (hn2 : inL D x → ¬ (inW p 0 1) → Q (.inr fmIAE) (fmI M 0 16 (M.1 0 16 + 1))) (hq : inL D x → inW p 0 1 → ∀ M' : fmM, Q (.inl (some (.long (coV D cs S x.toInt.toNat p)))) M') : pvGood Tx 40 qX10_cost [.ref 0, .int x, .int p] M Q := by
  refine pvGood_of (Nat.le_of_ble_eq_true rfl) ?_
  show pvEv Tx 40 qX10_cost 0 [some (.ref 0), some (.int x), some (.int p)] [] M Q
  have hxq := h
  obtain ⟨hD, hX, hL, hs, ho⟩ := h
  have d8 := hD.1
  have hl9 : (M.1 3 9).toInt = (D.1 : Int) := hX.1.1
  refine pv_aloadn (pc := 0) (n := 0) 0 rfl rfl (fm_dec dtX10_cost 0 rfl) ?_
  refine pv_iloadn (pc := 1) (n := 1) 1 rfl rfl (fm_dec dtX10_cost 1 rfl) ?_
  refine pv_invV1 (k := 0) (d' := 0) (pc := 2) pcv_X10_197 (by decide) rfl (Nat.le_of_ble_eq_true rfl) (by decide) (fm_dec dtX10_cost 2 rfl) ?_
  refine c_needL (fun h2a h2b => ?_) (fun h2 => ?_)
  · refine pv_then0 ?_
    have hn : inL D x := ⟨h2a, by omega⟩
    obtain ⟨i, hi, rfl, ei⟩ := hn.n hD
    rw [ei] at hq
    have hi9 : (nI i).toInt = (i : Int) := nI_toInt (by omega)
    have hi8 : i < 8 := (by omega)
    have g := ag_x hs hi
    refine pv_aloadn (pc := 5) (n := 0) 0 rfl rfl (fm_dec dtX10_cost 3 rfl) ?_
    refine pv_iloadn (pc := 6) (n := 2) 2 rfl rfl (fm_dec dtX10_cost 4 rfl) ?_
    refine pv_invV1 (k := 0) (d' := 1) (pc := 7) pcv_X10_244 (by decide) rfl (Nat.le_of_ble_eq_true rfl) (by decide) (fm_dec dtX10_cost 5 rfl) ?_
    refine c_needP (fun h7 => ?_) (fun h7 => ?_)
    · refine pv_then0 ?_
      refine pv_aloadn (pc := 10) (n := 0) 0 rfl rfl (fm_dec dtX10_cost 6 rfl) ?_
      refine pv_getR (k := 0) (j := 9) (ci := 10) (pc := 11) 46 rfl (by decide) pfl_X10_75 (by decide) rfl (by decide) (fm_dec dtX10_cost 7 rfl) ?_
      refine pv_getR (k := 46) (j := 0) (ci := 5) (pc := 14) 47 rfl (by decide) pfl_X10_90 (by decide) rfl (by decide) (fm_dec dtX10_cost 8 rfl) ?_
      refine pv_iloadn (pc := 17) (n := 1) 1 rfl rfl (fm_dec dtX10_cost 9 rfl) ?_
      refine pv_invV1 (k := 47) (d' := 0) (pc := 18) pcv_X10_215 (by decide) rfl (Nat.le_of_ble_eq_true rfl) (by decide) (fm_dec dtX10_cost 10 rfl) ?_
      refine c_xaliv hs ho hi8 ?_
      refine pv_then1 ?_
      refine pv_if_ne (pc := 21) 31 (by decide) (fm_dec dtX10_cost 11 rfl) (fun hc21 => ?_) (fun hc21 => ?_)
      · refine pv_aloadn (pc := 31) (n := 0) 0 rfl rfl (fm_dec dtX10_cost 17 rfl) ?_
        refine pv_getR (k := 0) (j := 6) (ci := 10) (pc := 32) 32 rfl (by decide) pfl_X10_52 (by decide) rfl (by decide) (fm_dec dtX10_cost 18 rfl) ?_
        refine pv_aloadn (pc := 35) (n := 0) 0 rfl rfl (fm_dec dtX10_cost 19 rfl) ?_
        refine pv_getR (k := 0) (j := 9) (ci := 10) (pc := 36) 46 rfl (by decide) pfl_X10_75 (by decide) rfl (by decide) (fm_dec dtX10_cost 20 rfl) ?_
        refine pv_getR (k := 46) (j := 0) (ci := 5) (pc := 39) 47 rfl (by decide) pfl_X10_90 (by decide) rfl (by decide) (fm_dec dtX10_cost 21 rfl) ?_
        refine pv_iloadn (pc := 42) (n := 1) 1 rfl rfl (fm_dec dtX10_cost 22 rfl) ?_
        refine pv_iconst (pc := 43) (v := 0) (by decide) (fm_dec dtX10_cost 23 rfl) ?_
        refine pv_aloadn (pc := 44) (n := 0) 0 rfl rfl (fm_dec dtX10_cost 24 rfl) ?_
        refine pv_getR (k := 0) (j := 9) (ci := 10) (pc := 45) 46 rfl (by decide) pfl_X10_75 (by decide) rfl (by decide) (fm_dec dtX10_cost 25 rfl) ?_
        refine pv_getR (k := 46) (j := 0) (ci := 5) (pc := 48) 47 rfl (by decide) pfl_X10_90 (by decide) rfl (by decide) (fm_dec dtX10_cost 26 rfl) ?_
        refine pv_getR (k := 47) (j := 0) (ci := 6) (pc := 51) 48 rfl (by decide) pfl_X10_219 (by decide) rfl (by decide) (fm_dec dtX10_cost 27 rfl) ?_
        refine pv_iloadn (pc := 54) (n := 1) 1 rfl rfl (fm_dec dtX10_cost 28 rfl) ?_
        refine pv_iald (k := 48) (n := 8) (pc := 55) (by decide) rfl rfl (ix_in hi9 (by omega)) (fm_dec dtX10_cost 29 rfl) ?_
        rw [i32_cl hi9]
        refine pv_invV4 (k := 32) (d' := 3) (pc := 56) pcv_X10_257 (by decide) rfl (Nat.le_of_ble_eq_true rfl) (by decide) (fm_dec dtX10_cost 30 rfl) ?_
        refine c_xcost hD hX hL hs ho hi g (fun M56 r56 g56 h56 e56 => ?_)
        refine pv_then1 ?_
        refine pv_ldc2 (pc := 59) pkc_X10_251 (fm_dec dtX10_cost 31 rfl) ?_
        refine pv_iloadn (pc := 62) (n := 2) 2 rfl rfl (fm_dec dtX10_cost 32 rfl) ?_
        refine pv_iS3 (d' := 0) (pc := 63) pcs_X10_253 (Nat.le_of_ble_eq_true rfl) (by decide) (fm_dec dtX10_cost 33 rfl) ?_
        refine c_xterm (by have := (coS_b (cs := cs) (S := S) hD hi).1; omega) (by decide) ?_
        refine pv_then1 ?_
        exact pv_lreturn (pc := 66) rfl (fm_dec dtX10_cost 34 rfl) (by have h9 := hq hn h7 M56; unfold coV at h9; rw [if_neg (by rw [al_n hc21]; decide), ← jZ_is e56] at h9; exact h9)
      · refine pv_lconst (pc := 24) (v := 0) (by decide) (fm_dec dtX10_cost 12 rfl) ?_
        refine pv_lconst (pc := 25) (v := 1) (by decide) (fm_dec dtX10_cost 13 rfl) ?_
        refine pv_iloadn (pc := 26) (n := 2) 2 rfl rfl (fm_dec dtX10_cost 14 rfl) ?_
        refine pv_iS3 (d' := 0) (pc := 27) pcs_X10_253 (Nat.le_of_ble_eq_true rfl) (by decide) (fm_dec dtX10_cost 15 rfl) ?_
        refine c_xterm (by decide) (by decide) ?_
        refine pv_then1 ?_
        exact pv_lreturn (pc := 30) rfl (fm_dec dtX10_cost 16 rfl) (by have h9 := hq hn h7 M; unfold coV at h9; rw [if_pos (al_b hc21), ← frV_z] at h9; exact h9)
    · refine pv_thenX ?_
      first | exact hn2 hn h7 | exact hn1 (fun h8 => h2 ⟨h8.1, by have := h8.2; omega⟩)
  · refine pv_thenX ?_
    first | exact hn2 hn h7 | exact hn1 (fun h8 => h2 ⟨h8.1, by have := h8.2; omega⟩)
set_option maxRecDepth 20000 in
theorem c_mcofA {M : fmM} {Q : fmR → fmM → Prop} {D : dD} {cs : tC} {S : aS} {i : Nat} (h : mAq M D cs S) (hi : i < D.1) (hq : ∀ (M' : fmM) (r : Int32), (∀ k j, k ≠ 5 → k ≠ 6 → M'.1 k j = M.1 k j) → M'.2 = M.2 → r.toInt = (if S.1.2.2.1.testBit i then 0 else coS D cs S i) → Q (.inl (some (.int r))) M') : pvGood Tm 8 qX11_costOf [.ref 0, .ref 7, .int (nI i)] M Q := by
  refine pvGood_of (Nat.le_of_ble_eq_true rfl) ?_
  show pvEv Tm 8 qX11_costOf 0 [some (.ref 0), some (.ref 7), some (.int (nI i))] [] M Q
  obtain ⟨hD, hY, hM, hd, ht, ho⟩ := h
  have d8 := hD.1
  have hi9 : (nI i).toInt = (i : Int) := nI_toInt (by omega)
  have hi8 : i < 8 := (by omega)
  have h1i := one_i hi8
  have e0 : M.1 7 (Int32.toNatClampNeg 0) = nI S.1.2.2.1 := nI_is ht.1 (by have := ho.2.2.1; omega)
  refine pv_aloadn (pc := 0) (n := 1) 1 rfl rfl (fm_dec dtX11_costOf 0 rfl) ?_
  refine pv_iconst (pc := 1) (v := 0) (by decide) (fm_dec dtX11_costOf 1 rfl) ?_
  refine pv_iald (k := 7) (n := 14) (pc := 2) (by decide) rfl rfl (fm_inl (by decide)) (fm_dec dtX11_costOf 2 rfl) ?_
  refine pv_iloadn (pc := 3) (n := 2) 2 rfl rfl (fm_dec dtX11_costOf 3 rfl) ?_
  refine pv_iS2 (d' := 0) (pc := 4) pcs_X11_256 (Nat.le_of_ble_eq_true rfl) (by decide) (fm_dec dtX11_costOf 4 rfl) ?_
  refine c_has (fun h4 => ?_) (fun h4 => ?_)
  · refine pv_then1 ?_
    refine pv_if_eq (pc := 7) 14 (by decide) (fm_dec dtX11_costOf 5 rfl) (fun hc7 => by exfalso; revert hc7; decide) (fun _ => ?_)
    refine pv_iconst (pc := 10) (v := 0) (by decide) (fm_dec dtX11_costOf 6 rfl) ?_
    refine pv_goto (pc := 11) 29 (by decide) (fm_dec dtX11_costOf 7 rfl) ?_
    exact pv_ireturn (pc := 29) rfl (fm_dec dtX11_costOf 20 rfl) (hq _ _ (fun _ _ _ _ => rfl) rfl (by rw [if_pos ((has8 _ ho.2.2.1 i hi8).mp (by rw [← e0]; exact h4))]; decide))
  · refine pv_then1 ?_
    refine pv_if_eq (pc := 7) 14 (by decide) (fm_dec dtX11_costOf 5 rfl) (fun _ => ?_) (fun hc7 => by exfalso; revert hc7; decide)
    refine pv_aloadn (pc := 14) (n := 0) 0 rfl rfl (fm_dec dtX11_costOf 8 rfl) ?_
    refine pv_aloadn (pc := 15) (n := 1) 1 rfl rfl (fm_dec dtX11_costOf 9 rfl) ?_
    refine pv_iloadn (pc := 16) (n := 2) 2 rfl rfl (fm_dec dtX11_costOf 10 rfl) ?_
    refine pv_aloadn (pc := 17) (n := 1) 1 rfl rfl (fm_dec dtX11_costOf 11 rfl) ?_
    refine pv_iconst (pc := 18) (v := 1) (by decide) (fm_dec dtX11_costOf 12 rfl) ?_
    refine pv_iloadn (pc := 19) (n := 2) 2 rfl rfl (fm_dec dtX11_costOf 13 rfl) ?_
    refine pv_iadd (pc := 20) (fm_dec dtX11_costOf 14 rfl) ?_
    refine pv_iald (k := 7) (n := 14) (pc := 21) (by decide) rfl rfl (ix_in h1i (by omega)) (fm_dec dtX11_costOf 15 rfl) ?_
    rw [i32_cl h1i]
    refine pv_aloadn (pc := 22) (n := 1) 1 rfl rfl (fm_dec dtX11_costOf 16 rfl) ?_
    refine pv_bipush (pc := 23) (v := 10) (by decide) (fm_dec dtX11_costOf 17 rfl) ?_
    refine pv_iald (k := 7) (n := 14) (pc := 25) (by decide) rfl rfl (fm_inl (by decide)) (fm_dec dtX11_costOf 18 rfl) ?_
    refine pv_invV4 (k := 0) (d' := 6) (pc := 26) pcv_X11_280 (by decide) rfl (Nat.le_of_ble_eq_true rfl) (by decide) (fm_dec dtX11_costOf 19 rfl) ?_
    refine c_mco hD hY hM hd ht ho hi ht.2.1 (ht.2.2.2.2.2.2 i hi) (fun M26 r26 g26 h26 e26 => ?_)
    refine pv_then1 ?_
    exact pv_ireturn (pc := 29) rfl (fm_dec dtX11_costOf 20 rfl) (hq _ _ g26 h26 (by rw [if_neg (fun h9 => h4 (by rw [e0]; exact (has8 _ ho.2.2.1 i hi8).mpr h9))]; exact e26))
set_option maxRecDepth 20000 in
theorem c_mcosts {M : fmM} {Q : fmR → fmM → Prop} {D : dD} {cs : tC} {S : aS} {x p : Int32} (h : mAq M D cs S) (hn1 : ¬ inL D x → ∀ (z : Int64) (M' : fmM), M'.1 0 0 = 1 → Q (.inl (some (.long z))) M') (hn2 : inL D x → ¬ (inW p 0 1) → ∀ (z : Int64) (M' : fmM), M'.1 0 0 = 2 → Q (.inl (some (.long z))) M') (hq : inL D x → inW p 0 1 → ∀ M' : fmM, M'.1 0 0 = 0 → Q (.inl (some (.long (coV D cs S x.toInt.toNat p)))) M') : pvGood Tm 40 qX11_cost [.ref 0, .int x, .int p] M Q := by
  refine pvGood_of (Nat.le_of_ble_eq_true rfl) ?_
  show pvEv Tm 40 qX11_cost 0 [some (.ref 0), some (.int x), some (.int p)] [] M Q
  have hmq := h.z (x := 0)
  obtain ⟨hD, hY, hM, hd, ht, ho⟩ := hmq
  have d8 := hD.1
  have h4 : (M.1 4 0).toInt = (D.1 : Int) := hY.1
  have hl := hD.1
  refine pv_aloadn (pc := 0) (n := 0) 0 rfl rfl (fm_dec dtX11_cost 0 rfl) ?_
  refine pv_iconst (pc := 1) (v := 0) (by decide) (fm_dec dtX11_cost 1 rfl) ?_
  refine pv_putI (k := 0) (j := 0) (ci := 11) (pc := 2) pfl_X11_101 (by decide) rfl (by decide) (fm_dec dtX11_cost 2 rfl) ?_
  refine pv_aloadn (pc := 5) (n := 0) 0 rfl rfl (fm_dec dtX11_cost 3 rfl) ?_
  refine pv_aloadn (pc := 6) (n := 0) 0 rfl rfl (fm_dec dtX11_cost 4 rfl) ?_
  refine pv_iloadn (pc := 7) (n := 1) 1 rfl rfl (fm_dec dtX11_cost 5 rfl) ?_
  refine pv_invV1 (k := 0) (d' := 1) (pc := 8) pcv_X11_331 (by decide) rfl (Nat.le_of_ble_eq_true rfl) (by decide) (fm_dec dtX11_cost 6 rfl) ?_
  refine c_isLife (M := fmI M 0 0 0) h4 hl (fun k hk hkl => ?_) (fun hno => ?_)
  · refine pv_then1 ?_
    refine pv_if_ne (pc := 11) 18 (by decide) (fm_dec dtX11_cost 7 rfl) (fun _ => ?_) (fun hc11 => by exfalso; revert hc11; decide)
    refine pv_iconst (pc := 18) (v := 0) (by decide) (fm_dec dtX11_cost 10 rfl) ?_
    refine pv_iconst (pc := 19) (v := 1) (by decide) (fm_dec dtX11_cost 11 rfl) ?_
    refine pv_iconst (pc := 20) (v := 0) (by decide) (fm_dec dtX11_cost 12 rfl) ?_
    refine pv_invV3 (k := 0) (d' := 0) (pc := 21) pcv_X11_177 (by decide) rfl (Nat.le_of_ble_eq_true rfl) (by decide) (fm_dec dtX11_cost 13 rfl) ?_
    refine c_badF0 rfl ?_
    refine pv_then1 ?_
    refine pv_if_ne (pc := 24) 36 (by decide) (fm_dec dtX11_cost 14 rfl) (fun hc24 => by exfalso; revert hc24; decide) (fun _ => ?_)
    have hn : inL D x := ⟨by omega, by omega⟩
    obtain ⟨i, hi, rfl, ei⟩ := hn.n hD
    rw [ei] at hq
    have hi9 : (nI i).toInt = (i : Int) := nI_toInt (by omega)
    have hi8 : i < 8 := (by omega)
    refine pv_aloadn (pc := 27) (n := 0) 0 rfl rfl (fm_dec dtX11_cost 15 rfl) ?_
    refine pv_iloadn (pc := 28) (n := 2) 2 rfl rfl (fm_dec dtX11_cost 16 rfl) ?_
    refine pv_iconst (pc := 29) (v := 2) (by decide) (fm_dec dtX11_cost 17 rfl) ?_
    refine pv_invV2 (k := 0) (d' := 1) (pc := 30) pcv_X11_340 (by decide) rfl (Nat.le_of_ble_eq_true rfl) (by decide) (fm_dec dtX11_cost 18 rfl) ?_
    refine c_noP rfl (by decide) (fun h30 => ?_) (fun h30 => ?_)
    · refine pv_then1 ?_
      refine pv_if_eq (pc := 33) 38 (by decide) (fm_dec dtX11_cost 19 rfl) (fun _ => ?_) (fun hc33 => by exfalso; revert hc33; decide)
      refine pv_aloadn (pc := 38) (n := 0) 0 rfl rfl (fm_dec dtX11_cost 22 rfl) ?_
      refine pv_aloadn (pc := 39) (n := 0) 0 rfl rfl (fm_dec dtX11_cost 23 rfl) ?_
      refine pv_getR (k := 0) (j := 27) (ci := 11) (pc := 40) 7 rfl (by decide) pfl_X11_61 (by decide) rfl (by decide) (fm_dec dtX11_cost 24 rfl) ?_
      refine pv_iloadn (pc := 43) (n := 1) 1 rfl rfl (fm_dec dtX11_cost 25 rfl) ?_
      refine pv_invV2 (k := 0) (d' := 8) (pc := 44) pcv_X11_293 (by decide) rfl (Nat.le_of_ble_eq_true rfl) (by decide) (fm_dec dtX11_cost 26 rfl) ?_
      refine c_mcofA ⟨hD, hY, hM, hd, ht, ho⟩ hi (fun M44 r44 g44 h44 e44 => ?_)
      refine pv_then1 ?_
      refine pv_i2l (pc := 47) (fm_dec dtX11_cost 27 rfl) ?_
      refine pv_ldc2 (pc := 48) pkc_X11_343 (fm_dec dtX11_cost 28 rfl) ?_
      refine pv_iloadn (pc := 51) (n := 2) 2 rfl rfl (fm_dec dtX11_cost 29 rfl) ?_
      refine pv_iS3 (d' := 0) (pc := 52) pcs_X11_345 (Nat.le_of_ble_eq_true rfl) (by decide) (fm_dec dtX11_cost 30 rfl) ?_
      refine c_mterm (by rw [Int32.toInt_toInt64, e44]; have := (coS_b (cs := cs) (S := S) hD hi).1; split <;> omega) (by decide) ?_
      refine pv_then1 ?_
      exact pv_lreturn (pc := 55) rfl (fm_dec dtX11_cost 31 rfl) (by have h9 := hq hn h30 M44 ((g44 0 0 (by decide) (by decide)).trans rfl); have e9 : r44.toInt64.toInt = (if S.1.2.2.1.testBit i then 0 else coS D cs S i) := (by rw [Int32.toInt_toInt64]; exact e44); rw [jZ_is e9]; unfold coV at h9; cases ht9 : S.1.2.2.1.testBit i with | true => (rw [ht9, if_pos rfl] at h9; exact h9) | false => (rw [ht9, if_neg (by decide)] at h9; exact h9))
    · refine pv_then1 ?_
      refine pv_if_eq (pc := 33) 38 (by decide) (fm_dec dtX11_cost 19 rfl) (fun hc33 => by exfalso; revert hc33; decide) (fun _ => ?_)
      refine pv_lconst (pc := 36) (v := 0) (by decide) (fm_dec dtX11_cost 20 rfl) ?_
      exact pv_lreturn (pc := 37) rfl (fm_dec dtX11_cost 21 rfl) (hn2 hn h30 _ _ rfl)
  · refine pv_then1 ?_
    refine pv_if_ne (pc := 11) 18 (by decide) (fm_dec dtX11_cost 7 rfl) (fun hc11 => by exfalso; revert hc11; decide) (fun _ => ?_)
    refine pv_iconst (pc := 14) (v := 1) (by decide) (fm_dec dtX11_cost 8 rfl) ?_
    refine pv_goto (pc := 15) 19 (by decide) (fm_dec dtX11_cost 9 rfl) ?_
    refine pv_iconst (pc := 19) (v := 1) (by decide) (fm_dec dtX11_cost 11 rfl) ?_
    refine pv_iconst (pc := 20) (v := 0) (by decide) (fm_dec dtX11_cost 12 rfl) ?_
    refine pv_invV3 (k := 0) (d' := 0) (pc := 21) pcv_X11_177 (by decide) rfl (Nat.le_of_ble_eq_true rfl) (by decide) (fm_dec dtX11_cost 13 rfl) ?_
    refine c_badT0 rfl (by decide) ?_
    refine pv_then1 ?_
    refine pv_if_ne (pc := 24) 36 (by decide) (fm_dec dtX11_cost 14 rfl) (fun _ => ?_) (fun hc24 => by exfalso; revert hc24; decide)
    refine pv_lconst (pc := 36) (v := 0) (by decide) (fm_dec dtX11_cost 20 rfl) ?_
    exact pv_lreturn (pc := 37) rfl (fm_dec dtX11_cost 21 rfl) (hn1 hno _ _ rfl)
theorem xe_cost {M : fmM} {D : dD} {cs : tC} {S : aS} {x p : Int32} (h : xAq M D cs S) : pvGood Tx 250 qX10_cost [.ref 0, .int x, .int p] M (fun r _ => (inL D x ∧ (inW p 0 1) ∧ r = .inl (some (.long (coV D cs S x.toInt.toNat p)))) ∨ (¬ inL D x ∧ r = .inr fmNSE) ∨ (inL D x ∧ ¬ (inW p 0 1) ∧ r = .inr fmIAE)) := (c_xcosts h (fun h => Or.inr (Or.inl ⟨h, rfl⟩)) (fun h h' => Or.inr (Or.inr ⟨h, h', rfl⟩)) (fun h h' M' => Or.inl ⟨h, h', rfl⟩)).up (by decide)
theorem me_cost {M : fmM} {D : dD} {cs : tC} {S : aS} {x p : Int32} (h : mAq M D cs S) : pvGood Tm 250 qX11_cost [.ref 0, .int x, .int p] M (fun r M' => (inL D x ∧ (inW p 0 1) ∧ r = .inl (some (.long (coV D cs S x.toInt.toNat p))) ∧ M'.1 0 0 = 0) ∨ (¬ inL D x ∧ M'.1 0 0 = 1) ∨ (inL D x ∧ ¬ (inW p 0 1) ∧ M'.1 0 0 = 2)) := (c_mcosts h (fun h z M' e => Or.inr (Or.inl ⟨h, e⟩)) (fun h h' z M' e => Or.inr (Or.inr ⟨h, h', e⟩)) (fun h h' M' z => Or.inl ⟨h, h', rfl, z⟩)).up (by decide)
