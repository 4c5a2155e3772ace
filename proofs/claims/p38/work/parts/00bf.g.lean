-- P 18q
section
-- WHAT STAYS, call for call
set_option maxRecDepth 20000 in
theorem c_kwork {M : fmM} {Q : fmR → fmM → Prop} {nn : Int32} (hI : scInv Tx invX M) (hq : ∀ (r : fmR) (M' : fmM), kpt PXk M M' → Q r M') : pvGood Tx 213 qX10_work [.ref 0, .int nn] M Q := by
  refine pvGood_of (Nat.le_of_ble_eq_true rfl) ?_
  show pvEv Tx 213 qX10_work 0 [some (.ref 0), some (.int nn)] [] M Q
  refine pv_aloadn (pc := 0) (n := 0) 0 rfl rfl (fm_dec dtX10_work 0 rfl) ?_
  refine pv_iloadn (pc := 1) (n := 1) 1 rfl rfl (fm_dec dtX10_work 1 rfl) ?_
  refine pv_sipush (pc := 2) (v := 150) (by decide) (fm_dec dtX10_work 2 rfl) ?_
  refine pv_invV2 (k := 0) (d' := 1) (pc := 5) pcv_X10_108 (by decide) rfl (Nat.le_of_ble_eq_true rfl) (by decide) (fm_dec dtX10_work 3 rfl) ?_
  refine c_openT (fun h5 => ?_) (fun h5 => ?_)
  · refine pv_then0 ?_
    have hI5 := inv_open (n := nn) hI h5.1 (by have h9 : nn.toInt ≤ 150 := h5.2.1; omega)
    refine pv_aloadn (pc := 8) (n := 0) 0 rfl rfl (fm_dec dtX10_work 4 rfl) ?_
    refine pv_getR (k := 0) (j := 9) (ci := 10) (pc := 9) 46 rfl (by decide) pfl_X10_75 (by decide) rfl (by decide) (fm_dec dtX10_work 5 rfl) ?_
    refine pv_getI (k := 46) (j := 2) (ci := 5) (pc := 12) pfl_X10_126 (by decide) rfl (by decide) (fm_dec dtX10_work 6 rfl) ?_
    refine pv_bipush (pc := 15) (v := 16) (by decide) (fm_dec dtX10_work 7 rfl) ?_
    refine pv_icmp_lt (pc := 17) 23 (by decide) (fm_dec dtX10_work 8 rfl) (fun hc17 => ?_) (fun hc17 => ?_)
    · refine pv_aloadn (pc := 23) (n := 0) 0 rfl rfl (fm_dec dtX10_work 11 rfl) ?_
      refine pv_getR (k := 0) (j := 5) (ci := 10) (pc := 24) 28 rfl (by decide) pfl_X10_43 (by decide) rfl (by decide) (fm_dec dtX10_work 12 rfl) ?_
      refine pv_aloadn (pc := 27) (n := 0) 0 rfl rfl (fm_dec dtX10_work 13 rfl) ?_
      refine pv_getR (k := 0) (j := 0) (ci := 10) (pc := 28) 1 rfl (by decide) pfl_X10_12 (by decide) rfl (by decide) (fm_dec dtX10_work 14 rfl) ?_
      refine pv_aloadn (pc := 31) (n := 0) 0 rfl rfl (fm_dec dtX10_work 15 rfl) ?_
      refine pv_getR (k := 0) (j := 1) (ci := 10) (pc := 32) 3 rfl (by decide) pfl_X10_19 (by decide) rfl (by decide) (fm_dec dtX10_work 16 rfl) ?_
      refine pv_getI (k := 3) (j := 9) (ci := 8) (pc := 35) pfl_X10_138 (by decide) rfl (by decide) (fm_dec dtX10_work 17 rfl) ?_
      refine pv_invV2 (k := 28) (d' := 27) (pc := 38) pcv_X10_142 (by decide) rfl (Nat.le_of_ble_eq_true rfl) (by decide) (fm_dec dtX10_work 18 rfl) ?_
      refine c_xread hI5 (hI5.1 3 9 (by decide)) (fun M38 z hI38 f38 h4 hz hz2 hS => ?_) (fun M38 hI38 f38 => ?_)  
      · refine pv_then1 ?_
        refine pv_if_ne (pc := 41) 55 (by decide) (fm_dec dtX10_work 19 rfl) (fun _ => ?_) (fun hc41 => by exfalso; revert hc41; decide)
        refine pv_aloadn (pc := 55) (n := 0) 0 rfl rfl (fm_dec dtX10_work 26 rfl) ?_
        refine pv_getR (k := 0) (j := 9) (ci := 10) (pc := 56) 46 rfl (by decide) pfl_X10_75 (by decide) rfl (by decide) (fm_dec dtX10_work 27 rfl) ?_
        refine pv_invV0 (k := 46) (d' := 1) (pc := 59) pcv_X10_145 (by decide) rfl (Nat.le_of_ble_eq_true rfl) (by decide) (fm_dec dtX10_work 28 rfl) ?_
        refine s_keepx hI38 (fun M59 hI59 f59 => ?_)
        refine pv_then0 ?_
        have hQ9 : xQ M59 z 0 := ⟨hz2, fun i a b => (hS i a b).up (Nat.le_refl _) (fun k hk => (f59 k i (kpW_k (by omega))).1), hI59, (by rw [(f59 28 4 (kpW_k (by decide))).1]; exact h4), by decide⟩
        refine pv_aloadn (pc := 62) (n := 0) 0 rfl rfl (fm_dec dtX10_work 29 rfl) ?_
        refine pv_getR (k := 0) (j := 5) (ci := 10) (pc := 63) 28 rfl (by decide) pfl_X10_43 (by decide) rfl (by decide) (fm_dec dtX10_work 30 rfl) ?_
        refine pv_aloadn (pc := 66) (n := 0) 0 rfl rfl (fm_dec dtX10_work 31 rfl) ?_
        refine pv_getR (k := 0) (j := 6) (ci := 10) (pc := 67) 32 rfl (by decide) pfl_X10_52 (by decide) rfl (by decide) (fm_dec dtX10_work 32 rfl) ?_
        refine pv_aloadn (pc := 70) (n := 0) 0 rfl rfl (fm_dec dtX10_work 33 rfl) ?_
        refine pv_getR (k := 0) (j := 9) (ci := 10) (pc := 71) 46 rfl (by decide) pfl_X10_75 (by decide) rfl (by decide) (fm_dec dtX10_work 34 rfl) ?_
        refine pv_getR (k := 46) (j := 0) (ci := 5) (pc := 74) 47 rfl (by decide) pfl_X10_90 (by decide) rfl (by decide) (fm_dec dtX10_work 35 rfl) ?_
        refine pv_iconst (pc := 77) (v := 0) (by decide) (fm_dec dtX10_work 36 rfl) ?_
        refine pv_aloadn (pc := 78) (n := 0) 0 rfl rfl (fm_dec dtX10_work 37 rfl) ?_
        refine pv_getR (k := 0) (j := 5) (ci := 10) (pc := 79) 28 rfl (by decide) pfl_X10_43 (by decide) rfl (by decide) (fm_dec dtX10_work 38 rfl) ?_
        refine pv_getI (k := 28) (j := 3) (ci := 9) (pc := 82) pfl_X10_148 (by decide) rfl (by decide) (fm_dec dtX10_work 39 rfl) ?_
        refine pv_iconst (pc := 85) (v := 0) (by decide) (fm_dec dtX10_work 40 rfl) ?_
        refine pv_invV5 (k := 28) (d' := (12 + 200)) (pc := 86) pcv_X10_151 (by decide) rfl (Nat.le_of_ble_eq_true rfl) (by decide) (fm_dec dtX10_work 41 rfl) ?_
        refine xp_G (xp_P 200) M59 _ z 0 0 z _ 0 0 hQ9 (by omega) (by decide) (by rw [(f59 28 3 (kpW_k (by decide))).1]; exact hz) (Nat.le_refl _) (fun M86 g86 hI86 f86 hg86 _ _ => ?_) 
        refine pv_then0 ?_
        refine pv_aloadn (pc := 89) (n := 0) 0 rfl rfl (fm_dec dtX10_work 42 rfl) ?_
        refine pv_aloadn (pc := 90) (n := 0) 0 rfl rfl (fm_dec dtX10_work 43 rfl) ?_
        refine pv_getR (k := 0) (j := 5) (ci := 10) (pc := 91) 28 rfl (by decide) pfl_X10_43 (by decide) rfl (by decide) (fm_dec dtX10_work 44 rfl) ?_
        refine pv_getI (k := 28) (j := 6) (ci := 9) (pc := 94) pfl_X10_155 (by decide) rfl (by decide) (fm_dec dtX10_work 45 rfl) ?_
        refine pv_putI (k := 0) (j := 14) (ci := 10) (pc := 97) pfl_X10_132 (by decide) rfl (by decide) (fm_dec dtX10_work 46 rfl) ?_
        refine pv_aloadn (pc := 100) (n := 0) 0 rfl rfl (fm_dec dtX10_work 47 rfl) ?_
        refine pv_getR (k := 0) (j := 7) (ci := 10) (pc := 101) 34 rfl (by decide) pfl_X10_61 (by decide) rfl (by decide) (fm_dec dtX10_work 48 rfl) ?_
        refine pv_invV0 (k := 34) (d' := 0) (pc := 104) pcv_X10_135 (by decide) rfl (Nat.le_of_ble_eq_true rfl) (by decide) (fm_dec dtX10_work 49 rfl) ?_
        refine s_forget (xInv.put hI86 (scq_t _)) (fun M104 hI104 f104 => ?_)
        refine pv_then0 ?_
        refine pv_aloadn (pc := 107) (n := 0) 0 rfl rfl (fm_dec dtX10_work 50 rfl) ?_
        refine pv_getR (k := 0) (j := 5) (ci := 10) (pc := 108) 28 rfl (by decide) pfl_X10_43 (by decide) rfl (by decide) (fm_dec dtX10_work 51 rfl) ?_
        refine pv_getI (k := 28) (j := 5) (ci := 9) (pc := 111) pfl_X10_158 (by decide) rfl (by decide) (fm_dec dtX10_work 52 rfl) ?_
        exact pv_ireturn (pc := 114) rfl (fm_dec dtX10_work 53 rfl) (hq _ _ ((kp_xI (((kp_op.trans (kp_of f38 (by decide))).trans (kp_of f59 (by decide))).trans (kp_of f86 (by decide))) (by decide)).trans (kp_of f104 (by decide))))
      · refine pv_then1 ?_
        refine pv_if_ne (pc := 41) 55 (by decide) (fm_dec dtX10_work 19 rfl) (fun hc41 => by exfalso; revert hc41; decide) (fun _ => ?_)
        refine pv_aloadn (pc := 44) (n := 0) 0 rfl rfl (fm_dec dtX10_work 20 rfl) ?_
        refine pv_getR (k := 0) (j := 0) (ci := 10) (pc := 45) 1 rfl (by decide) pfl_X10_12 (by decide) rfl (by decide) (fm_dec dtX10_work 21 rfl) ?_
        refine pv_getI (k := 1) (j := 4) (ci := 7) (pc := 48) pfl_X10_116 (by decide) rfl (by decide) (fm_dec dtX10_work 22 rfl) ?_
        refine pv_bipush (pc := 51) (v := 10) (by decide) (fm_dec dtX10_work 23 rfl) ?_
        refine pv_isub (pc := 53) (fm_dec dtX10_work 24 rfl) ?_
        exact pv_ireturn (pc := 54) rfl (fm_dec dtX10_work 25 rfl) (hq _ _ (kp_op.trans (kp_of f38 (by decide))))
    · refine pv_bipush (pc := 20) (v := (-20)) (by decide) (fm_dec dtX10_work 9 rfl) ?_
      exact pv_ireturn (pc := 22) rfl (fm_dec dtX10_work 10 rfl) (hq _ _ kp_op)
  · refine pv_thenX ?_
    exact hq _ _ (kp_xI (kpt.refl M) (by decide))
set_option maxRecDepth 20000 in
theorem wk_h0 {Q : fmR → fmM → Prop} {M : fmM} {nn : Int32} {ss : tS} {l w : Nat} (hf : M.1 0 5 = 0) (hI : scInv Tm invM M) (hw : (M.1 0 32).toInt = w) (hw16 : w < 16) (hR : stRep M 0 ss) (hO : ssOk l 0 ss) (hn : ss.length ≤ 80) (hl : l ≤ 8) (h4 : (M.1 4 0).toInt = l) (h26 : (M.1 0 26).toInt = (ss.length : Int)) (hq : ∀ (n : Int32) (M' : fmM), kpt PMk M M' → Q (.inl (some (.int n))) M') : pvEv Tm 213 qX11_work 101 [some (.ref 0), some (.int nn)] [] M Q := by
  refine pv_aloadn (pc := 101) (n := 0) 0 rfl rfl (fm_dec dtX11_work 53 rfl) ?_
  refine pv_getI (k := 0) (j := 5) (ci := 11) (pc := 102) pfl_X11_117 (by decide) rfl (by decide) (fm_dec dtX11_work 54 rfl) ?_
  refine pv_if_eq (pc := 105) 113 (by decide) (fm_dec dtX11_work 55 rfl) (fun _ => ?_) (fun hc105 => by exfalso; exact hc105 hf)
  refine pv_aloadn (pc := 113) (n := 0) 0 rfl rfl (fm_dec dtX11_work 59 rfl) ?_
  refine pv_iconst (pc := 114) (v := (-1)) (by decide) (fm_dec dtX11_work 60 rfl) ?_
  refine pv_putI (k := 0) (j := 3) (ci := 11) (pc := 115) pfl_X11_9 (by decide) rfl (by decide) (fm_dec dtX11_work 61 rfl) ?_
  refine pv_aloadn (pc := 118) (n := 0) 0 rfl rfl (fm_dec dtX11_work 62 rfl) ?_
  refine pv_getR (k := 0) (j := 27) (ci := 11) (pc := 119) 7 rfl (by decide) pfl_X11_61 (by decide) rfl (by decide) (fm_dec dtX11_work 63 rfl) ?_
  refine pv_aloadn (pc := 122) (n := 0) 0 rfl rfl (fm_dec dtX11_work 64 rfl) ?_
  refine pv_getR (k := 0) (j := 29) (ci := 11) (pc := 123) 25 rfl (by decide) pfl_X11_67 (by decide) rfl (by decide) (fm_dec dtX11_work 65 rfl) ?_
  refine pv_aloadn (pc := 126) (n := 0) 0 rfl rfl (fm_dec dtX11_work 66 rfl) ?_
  refine pv_getI (k := 0) (j := 32) (ci := 11) (pc := 127) pfl_X11_200 (by decide) rfl (by decide) (fm_dec dtX11_work 67 rfl) ?_
  refine pv_aald (k := 25) (n := 16) (r := (503 + w)) (pc := 130) (by decide) (Or.inr (Or.inr rfl)) rfl (rw_before.inb hw hw16) (rw_before.at hw hw16) (rw_before.2.2.2 _ hw16).2.1 (fm_dec dtX11_work 68 rfl) ?_
  refine pv_iS2 (d' := 0) (pc := 131) pcs_X11_323 (Nat.le_of_ble_eq_true rfl) (by omega) (fm_dec dtX11_work 69 rfl) ?_
  refine s_keep hw16 (hI.put (k := 0) (j := 3) (x := -1) (by decide) rfl) (fun M131 hI131 f131 => ?_) 
  refine pv_then0 ?_
  refine pv_aloadn (pc := 134) (n := 0) 0 rfl rfl (fm_dec dtX11_work 70 rfl) ?_
  refine pv_dup (pc := 135) rfl (fm_dec dtX11_work 71 rfl) ?_
  refine pv_getI (k := 0) (j := 32) (ci := 11) (pc := 136) pfl_X11_200 (by decide) rfl (by decide) (fm_dec dtX11_work 72 rfl) ?_
  refine pv_iconst (pc := 139) (v := 1) (by decide) (fm_dec dtX11_work 73 rfl) ?_
  refine pv_iadd (pc := 140) (fm_dec dtX11_work 74 rfl) ?_
  refine pv_putI (k := 0) (j := 32) (ci := 11) (pc := 141) pfl_X11_200 (by decide) rfl (by decide) (fm_dec dtX11_work 75 rfl) ?_
  refine pv_aloadn (pc := 144) (n := 0) 0 rfl rfl (fm_dec dtX11_work 76 rfl) ?_
  refine pv_iconst (pc := 145) (v := 0) (by decide) (fm_dec dtX11_work 77 rfl) ?_
  refine pv_putI (k := 0) (j := 36) (ci := 11) (pc := 146) pfl_X11_310 (by decide) rfl (by decide) (fm_dec dtX11_work 78 rfl) ?_
  refine pv_aloadn (pc := 149) (n := 0) 0 rfl rfl (fm_dec dtX11_work 79 rfl) ?_
  refine pv_iconst (pc := 150) (v := 0) (by decide) (fm_dec dtX11_work 80 rfl) ?_
  refine pv_putI (k := 0) (j := 37) (ci := 11) (pc := 151) pfl_X11_320 (by decide) rfl (by decide) (fm_dec dtX11_work 81 rfl) ?_
  refine pv_aloadn (pc := 154) (n := 0) 0 rfl rfl (fm_dec dtX11_work 82 rfl) ?_
  refine pv_iconst (pc := 155) (v := 0) (by decide) (fm_dec dtX11_work 83 rfl) ?_
  refine pv_putI (k := 0) (j := 33) (ci := 11) (pc := 156) pfl_X11_203 (by decide) rfl (by decide) (fm_dec dtX11_work 84 rfl) ?_
  have h32 : M131.1 0 32 = M.1 0 32 := (f131 0 32 rfl).1
  have hI5 : scInv Tm invM (wkM M131) := (by unfold wkM; refine inv_c0g (inv_c0g (inv_c0g (hI131.put (k := 0) (j := 32) ?_ rfl) (Or.inr (Or.inl rfl))) (Or.inr (Or.inr rfl))) (Or.inl rfl); rw [h32]; have h9 := i32_p1 hw (by omega); exact ⟨by show (0 : Int) ≤ _; omega, by show _ ≤ (16 : Int); omega⟩)
  have ek : ∀ k j, k ≠ 0 → k < 503 → (wkM M131).1 k j = M.1 k j := fun k j h0 h1 => (by unfold wkM; rw [fmI_k _ _ h0, fmI_k _ _ h0, fmI_k _ _ h0, fmI_k _ _ h0, (f131 k j (cpW_k h1)).1, fmI_k _ _ h0])
  have e26 : (wkM M131).1 0 26 = M.1 0 26 := (by unfold wkM; rw [fmI_j _ _ (by decide), fmI_j _ _ (by decide), fmI_j _ _ (by decide), fmI_j _ _ (by decide), (f131 0 26 rfl).1, fmI_j _ _ (by decide)])
  have hG5 : gSt (wkM M131) ss.length l 0 := gSt_of (hR.of (by omega) (fun k j a b => ek k j (by omega) b)) hO hn hl (by rw [ek 4 0 (by decide) (by decide)]; exact h4) hI5 rfl
  refine pv_aloadn (pc := 159) (n := 0) 0 rfl rfl (fm_dec dtX11_work 85 rfl) ?_
  refine pv_iconst (pc := 160) (v := 0) (by decide) (fm_dec dtX11_work 86 rfl) ?_
  refine pv_aloadn (pc := 161) (n := 0) 0 rfl rfl (fm_dec dtX11_work 87 rfl) ?_
  refine pv_getI (k := 0) (j := 26) (ci := 11) (pc := 162) pfl_X11_250 (by decide) rfl (by decide) (fm_dec dtX11_work 88 rfl) ?_
  refine pv_invV2 (k := 0) (d' := (12 + 200)) (pc := 165) pcv_X11_313 (by decide) rfl (Nat.le_of_ble_eq_true rfl) (by omega) (fm_dec dtX11_work 89 rfl) ?_
  refine gs_G (gs_P 200) _ _ ss.length l 0 0 ss.length 0 _ hG5 (by omega) (by decide) ((congrArg Int32.toInt e26).trans h26) (Nat.le_refl _) (fun M165 g165 hI165 f165 hg165 _ _ => ?_) 
  refine pv_then0 ?_
  refine pv_aloadn (pc := 168) (n := 0) 0 rfl rfl (fm_dec dtX11_work 90 rfl) ?_
  refine pv_getI (k := 0) (j := 37) (ci := 11) (pc := 169) pfl_X11_320 (by decide) rfl (by decide) (fm_dec dtX11_work 91 rfl) ?_
  exact pv_ireturn (pc := 172) rfl (fm_dec dtX11_work 92 rfl) (hq _ M165 (by refine kpt.trans (fun k j hk => ?_) (kp_of f165 (by decide)); have h9 := kpm_k hk; rw [fmI_at, if_neg (by omega), fmI_at, if_neg (by omega), fmI_at, if_neg (by omega), fmI_at, if_neg (by omega), (f131 k j (cpW_k (by omega))).1, fmI_at, if_neg (by omega)]))
set_option maxRecDepth 20000 in
theorem c_hwork {M : fmM} {Q : fmR → fmM → Prop} {nn : Int32} (hI : scInv Tm invM M) (hq : ∀ (r : fmR) (M' : fmM), kpt PMk M M' → Q r M') : pvGood Tm 213 qX11_work [.ref 0, .int nn] M Q := by
  refine pvGood_of (Nat.le_of_ble_eq_true rfl) ?_
  show pvEv Tm 213 qX11_work 0 [some (.ref 0), some (.int nn)] [] M Q
  obtain ⟨l, h4, hl⟩ := told8 hI
  obtain ⟨w, hw, hw16⟩ := works16 hI
  have hI0 := hI.p00 (x := 0) (Or.inl rfl)
  have hfed := inv_fed hI
  refine pv_aloadn (pc := 0) (n := 0) 0 rfl rfl (fm_dec dtX11_work 0 rfl) ?_
  refine pv_iconst (pc := 1) (v := 0) (by decide) (fm_dec dtX11_work 1 rfl) ?_
  refine pv_putI (k := 0) (j := 0) (ci := 11) (pc := 2) pfl_X11_101 (by decide) rfl (by decide) (fm_dec dtX11_work 2 rfl) ?_
  refine pv_aloadn (pc := 5) (n := 0) 0 rfl rfl (fm_dec dtX11_work 3 rfl) ?_
  refine pv_iloadn (pc := 6) (n := 1) 1 rfl rfl (fm_dec dtX11_work 4 rfl) ?_
  refine pv_iconst (pc := 7) (v := 0) (by decide) (fm_dec dtX11_work 5 rfl) ?_
  refine pv_aloadn (pc := 8) (n := 0) 0 rfl rfl (fm_dec dtX11_work 6 rfl) ?_
  refine pv_getI (k := 0) (j := 1) (ci := 11) (pc := 9) pfl_X11_104 (by decide) rfl (by decide) (fm_dec dtX11_work 7 rfl) ?_
  refine pv_iS3 (d' := 0) (pc := 12) pcs_X11_135 (Nat.le_of_ble_eq_true rfl) (by decide) (fm_dec dtX11_work 8 rfl) ?_
  refine c_in (fun h12a h12b => ?_) (fun h12 => ?_)
  · refine pv_then1 ?_
    refine pv_if_eq (pc := 15) 25 (by decide) (fm_dec dtX11_work 9 rfl) (fun hc15 => by exfalso; revert hc15; decide) (fun _ => ?_)
    refine pv_iloadn (pc := 18) (n := 1) 1 rfl rfl (fm_dec dtX11_work 10 rfl) ?_
    refine pv_sipush (pc := 19) (v := 150) (by decide) (fm_dec dtX11_work 11 rfl) ?_
    refine pv_icmp_le (pc := 22) 29 (by decide) (fm_dec dtX11_work 12 rfl) (fun hc22 => ?_) (fun hc22 => ?_)
    · refine pv_iconst (pc := 29) (v := 0) (by decide) (fm_dec dtX11_work 15 rfl) ?_
      refine pv_iconst (pc := 30) (v := 1) (by decide) (fm_dec dtX11_work 16 rfl) ?_
      refine pv_iconst (pc := 31) (v := 1) (by decide) (fm_dec dtX11_work 17 rfl) ?_
      refine pv_invV3 (k := 0) (d' := 0) (pc := 32) pcv_X11_177 (by decide) rfl (Nat.le_of_ble_eq_true rfl) (by decide) (fm_dec dtX11_work 18 rfl) ?_
      refine c_badF1 rfl ?_
      refine pv_then1 ?_
      refine pv_if_eq (pc := 35) 40 (by decide) (fm_dec dtX11_work 19 rfl) (fun _ => ?_) (fun hc35 => by exfalso; revert hc35; decide)
      refine pv_aloadn (pc := 40) (n := 0) 0 rfl rfl (fm_dec dtX11_work 22 rfl) ?_
      refine pv_getI (k := 0) (j := 32) (ci := 11) (pc := 41) pfl_X11_200 (by decide) rfl (by decide) (fm_dec dtX11_work 23 rfl) ?_
      refine pv_bipush (pc := 44) (v := 16) (by decide) (fm_dec dtX11_work 24 rfl) ?_
      refine pv_icmp_ne (pc := 46) 62 (by decide) (fm_dec dtX11_work 25 rfl) (fun hc46 => ?_) (fun hc46 => ?_)
      · obtain ⟨n0, hn0⟩ : ∃ n0 : Nat, nn.toInt = n0 := ⟨nn.toInt.toNat, by have h9 : (0 : Int32).toInt = 0 := (by decide); omega⟩
        have hn150 : n0 ≤ 150 := (by have h9 := hc22; rw [sc_le] at h9; have h8 : (150 : Int32).toInt = 150 := (by decide); omega)
        have hn6 : n0 ≤ 600 := (by omega)
        refine pv_aloadn (pc := 62) (n := 0) 0 rfl rfl (fm_dec dtX11_work 34 rfl) ?_
        refine pv_iloadn (pc := 63) (n := 1) 1 rfl rfl (fm_dec dtX11_work 35 rfl) ?_
        refine pv_invV1 (k := 0) (d' := 2) (pc := 64) pcv_X11_181 (by decide) rfl (Nat.le_of_ble_eq_true rfl) (by omega) (fm_dec dtX11_work 36 rfl) ?_
        refine c_starts (n := n0) (M := fmI M 0 0 0) hfed hn6 hn0 (fun M64 h64 => ?_) 
        refine pv_then0 ?_
        refine pv_aloadn (pc := 67) (n := 0) 0 rfl rfl (fm_dec dtX11_work 37 rfl) ?_
        refine pv_iconst (pc := 68) (v := 0) (by decide) (fm_dec dtX11_work 38 rfl) ?_
        refine pv_putI (k := 0) (j := 26) (ci := 11) (pc := 69) pfl_X11_250 (by decide) rfl (by decide) (fm_dec dtX11_work 39 rfl) ?_
        have hI64 := inv_st hI h64
        have hok9 := rT_ok (n := n0) hfed hn6
        have hs0 : sk (rT M n0) 0 ≤ n0 := sp_le tB_1 hok9 (Nat.zero_le _)
        have hIs : scInv Tm invM (fmI M64 0 26 0) := hI64.put (scq_t 0) rfl
        have h4s : ((fmI M64 0 26 0).1 4 0).toInt = l := (by rw [fmI_k _ _ (by decide), st_k h64 (by decide)]; exact h4)
        have hP : srPre (fmI M64 0 26 0) (rT M n0) n0 (sk (rT M n0) 0) 0 0 l := ⟨h64.1.of rfl rfl rfl, h64.2.1, (by show (M64.1 0 8).toInt = _; rw [h64.2.2.1]; decide), by decide, (by rw [fmI_s]; decide), by omega, hn150, h4s, hl⟩
        have hbd := fun e he => wkL_bad hok9 hn150 700 0 (sk (rT M n0) 0) e hs0 (by omega) he (l := l)
        refine wk_loop (l := l) 700 0 _ _ hP (fun a h9 => by have h8 := (hbd _ h9).1.2; exact absurd h8 (show ¬ 9 ≤ 3 by decide)) (fun M2 ss q e h => ?_) (fun M2 k a e hB => ?_)
        · have g := wkL_ok hok9 700 0 _ ss hs0 e
          refine wk_h0 (l := l) (w := w) h.2.1 (inv_sr hIs h.2.2.2.2.2) (by rw [h.2.2.2.2.2.2.1 32 (by decide) (by decide) (by decide) (by decide) (by decide), fmI_j _ _ (by decide), st_j h64 (by decide)]; exact hw) (by have h9 : ¬ w = 16 := (fun h9 => hc46 (i32_ext (hw.trans (by rw [h9]; decide)))); omega) h.2.2.2.2.1 g.1 (by omega) hl (by rw [h.2.2.2.2.2.1 4 0 (by decide) (by omega)]; exact h4s) (by rw [h.2.2.2.1]; congr 1; omega) (fun n M9 h9 => hq _ _ ((kp_mI (kp_st h64) (by decide)).trans ((kp_sr h.2.2.2.2.2).trans h9)))
        · have hk := hbd _ e
          exact wk_e1 hB.nz (hq _ _ (kp_mI ((kp_mI (kp_st h64) (by decide)).trans (kp_sr hB.2.2.2.2)) (by decide)))
      · refine pv_aloadn (pc := 49) (n := 0) 0 rfl rfl (fm_dec dtX11_work 26 rfl) ?_
        refine pv_iconst (pc := 50) (v := 0) (by decide) (fm_dec dtX11_work 27 rfl) ?_
        refine pv_putI (k := 0) (j := 1) (ci := 11) (pc := 51) pfl_X11_104 (by decide) rfl (by decide) (fm_dec dtX11_work 28 rfl) ?_
        refine pv_aloadn (pc := 54) (n := 0) 0 rfl rfl (fm_dec dtX11_work 29 rfl) ?_
        refine pv_iconst (pc := 55) (v := (-1)) (by decide) (fm_dec dtX11_work 30 rfl) ?_
        refine pv_putI (k := 0) (j := 3) (ci := 11) (pc := 56) pfl_X11_9 (by decide) rfl (by decide) (fm_dec dtX11_work 31 rfl) ?_
        refine pv_bipush (pc := 59) (v := (-20)) (by decide) (fm_dec dtX11_work 32 rfl) ?_
        exact pv_ireturn (pc := 61) rfl (fm_dec dtX11_work 33 rfl) (hq _ _ (kp_mI (kp_mI (kp_mI (kpt.refl M) (by decide)) (by decide)) (by decide)))
    · refine pv_iconst (pc := 25) (v := 1) (by decide) (fm_dec dtX11_work 13 rfl) ?_
      refine pv_goto (pc := 26) 30 (by decide) (fm_dec dtX11_work 14 rfl) ?_
      refine pv_iconst (pc := 30) (v := 1) (by decide) (fm_dec dtX11_work 16 rfl) ?_
      refine pv_iconst (pc := 31) (v := 1) (by decide) (fm_dec dtX11_work 17 rfl) ?_
      refine pv_invV3 (k := 0) (d' := 0) (pc := 32) pcv_X11_177 (by decide) rfl (Nat.le_of_ble_eq_true rfl) (by decide) (fm_dec dtX11_work 18 rfl) ?_
      refine c_badT1 rfl (by decide) ?_
      refine pv_then1 ?_
      refine pv_if_eq (pc := 35) 40 (by decide) (fm_dec dtX11_work 19 rfl) (fun hc35 => by exfalso; revert hc35; decide) (fun _ => ?_)
      refine pv_iconst (pc := 38) (v := 0) (by decide) (fm_dec dtX11_work 20 rfl) ?_
      exact pv_ireturn (pc := 39) rfl (fm_dec dtX11_work 21 rfl) (hq _ _ kp_rf)
  · refine pv_then1 ?_
    refine pv_if_eq (pc := 15) 25 (by decide) (fm_dec dtX11_work 9 rfl) (fun _ => ?_) (fun hc15 => by exfalso; revert hc15; decide)
    refine pv_iconst (pc := 25) (v := 1) (by decide) (fm_dec dtX11_work 13 rfl) ?_
    refine pv_goto (pc := 26) 30 (by decide) (fm_dec dtX11_work 14 rfl) ?_
    refine pv_iconst (pc := 30) (v := 1) (by decide) (fm_dec dtX11_work 16 rfl) ?_
    refine pv_iconst (pc := 31) (v := 1) (by decide) (fm_dec dtX11_work 17 rfl) ?_
    refine pv_invV3 (k := 0) (d' := 0) (pc := 32) pcv_X11_177 (by decide) rfl (Nat.le_of_ble_eq_true rfl) (by decide) (fm_dec dtX11_work 18 rfl) ?_
    refine c_badT1 rfl (by decide) ?_
    refine pv_then1 ?_
    refine pv_if_eq (pc := 35) 40 (by decide) (fm_dec dtX11_work 19 rfl) (fun hc35 => by exfalso; revert hc35; decide) (fun _ => ?_)
    refine pv_iconst (pc := 38) (v := 0) (by decide) (fm_dec dtX11_work 20 rfl) ?_
    exact pv_ireturn (pc := 39) rfl (fm_dec dtX11_work 21 rfl) (hq _ _ kp_rf)
theorem s_im0 {M : fmM} {Q : fmR → fmM → Prop} {k0 : Nat} (hk0 : k0 ∈ [82, 118, 154]) (hI : scInv Tx invX M) (q0 : ∀ M' : fmM, scInv Tx invX M' → scFr [(82, 2, 1), (83, 1, 6), (84, 0, 8), (86, 1, 6), (87, 1, 6), (88, 1, 6), (89, 1, 6), (90, 1, 6), (91, 1, 6), (92, 1, 6), (93, 1, 6), (94, 1, 6), (95, 1, 6), (96, 1, 6), (97, 1, 6), (98, 1, 6), (99, 1, 6), (100, 1, 6), (101, 1, 6), (102, 0, 8), (103, 0, 8), (104, 0, 8), (105, 0, 8), (106, 0, 8), (107, 0, 8), (108, 0, 8), (109, 0, 8), (110, 0, 8), (111, 0, 8), (112, 0, 8), (113, 0, 8), (114, 0, 8), (115, 0, 8), (116, 0, 8), (117, 0, 8), (118, 2, 1), (119, 1, 6), (120, 0, 8), (122, 1, 6), (123, 1, 6), (124, 1, 6), (125, 1, 6), (126, 1, 6), (127, 1, 6), (128, 1, 6), (129, 1, 6), (130, 1, 6), (131, 1, 6), (132, 1, 6), (133, 1, 6), (134, 1, 6), (135, 1, 6), (136, 1, 6), (137, 1, 6), (138, 0, 8), (139, 0, 8), (140, 0, 8), (141, 0, 8), (142, 0, 8), (143, 0, 8), (144, 0, 8), (145, 0, 8), (146, 0, 8), (147, 0, 8), (148, 0, 8), (149, 0, 8), (150, 0, 8), (151, 0, 8), (152, 0, 8), (153, 0, 8), (154, 2, 1), (155, 1, 6), (156, 0, 8), (158, 1, 6), (159, 1, 6), (160, 1, 6), (161, 1, 6), (162, 1, 6), (163, 1, 6), (164, 1, 6), (165, 1, 6), (166, 1, 6), (167, 1, 6), (168, 1, 6), (169, 1, 6), (170, 1, 6), (171, 1, 6), (172, 1, 6), (173, 1, 6), (174, 0, 8), (175, 0, 8), (176, 0, 8), (177, 0, 8), (178, 0, 8), (179, 0, 8), (180, 0, 8), (181, 0, 8), (182, 0, 8), (183, 0, 8), (184, 0, 8), (185, 0, 8), (186, 0, 8), (187, 0, 8), (188, 0, 8), (189, 0, 8)] M M' → Q (.inl none) M') : pvGood Tx 1 qX5_copyFrom [.ref k0, .ref 46] M Q := (hh_X5_copyFrom_0 M [] [.ref k0, .ref 46] scEk.n0 ⟨⟨k0, hk0, rfl⟩, ⟨46, by simp, rfl⟩, trivial⟩ (fun f hf => by cases hf) hI).imp (fun r M' h => by
  obtain ⟨⟨o, ho, hr, hf9, hm⟩, h1, h2⟩ := h
  rcases List.mem_cons.mp ho with rfl | ho
  · have hr : r = .inl none := hr; subst hr; exact q0 M' h1 h2
  · cases ho)
theorem s_im1 {M : fmM} {Q : fmR → fmM → Prop} {k1 : Nat} (hk1 : k1 ∈ [82, 118, 154]) (hI : scInv Tx invX M) (q0 : ∀ M' : fmM, scInv Tx invX M' → scFr [(46, 2, 1), (47, 1, 6), (48, 0, 8), (50, 1, 6), (51, 1, 6), (52, 1, 6), (53, 1, 6), (54, 1, 6), (55, 1, 6), (56, 1, 6), (57, 1, 6), (58, 1, 6), (59, 1, 6), (60, 1, 6), (61, 1, 6), (62, 1, 6), (63, 1, 6), (64, 1, 6), (65, 1, 6), (66, 0, 8), (67, 0, 8), (68, 0, 8), (69, 0, 8), (70, 0, 8), (71, 0, 8), (72, 0, 8), (73, 0, 8), (74, 0, 8), (75, 0, 8), (76, 0, 8), (77, 0, 8), (78, 0, 8), (79, 0, 8), (80, 0, 8), (81, 0, 8)] M M' → Q (.inl none) M') : pvGood Tx 1 qX5_copyFrom [.ref 46, .ref k1] M Q := (hh_X5_copyFrom_1 M [] [.ref 46, .ref k1] scEk.n0 ⟨⟨46, by simp, rfl⟩, ⟨k1, hk1, rfl⟩, trivial⟩ (fun f hf => by cases hf) hI).imp (fun r M' h => by
  obtain ⟨⟨o, ho, hr, hf9, hm⟩, h1, h2⟩ := h
  rcases List.mem_cons.mp ho with rfl | ho
  · have hr : r = .inl none := hr; subst hr; exact q0 M' h1 h2
  · cases ho)
theorem xi_at {x : Int32} {i : Nat} (h : x.toInt = i) (h3 : i < 3) : Tx.2.2.2 43 x.toNatClampNeg = 82 + 36 * i := by
  rw [i32_cl h]
  match i, h3 with
  | 0, _ => rfl
  | 1, _ => rfl
  | 2, _ => rfl
  | i + 3, h => omega
theorem xi_kd {i : Nat} (h3 : i < 3) : Tx.2.1 (82 + 36 * i) = Tx.2.1 82 := by
  match i, h3 with
  | 0, _ => rfl
  | 1, _ => rfl
  | 2, _ => rfl
  | i + 3, h => omega
theorem xi_in {i : Nat} (h3 : i < 3) : 82 + 36 * i ∈ [82, 118, 154] := by
  match i, h3 with
  | 0, _ => simp
  | 1, _ => simp
  | 2, _ => simp
  | i + 3, h => omega
set_option maxRecDepth 20000 in
theorem c_ximage {M : fmM} {Q : fmR → fmM → Prop} {i : Nat} (hI : scInv Tx invX M) (hi : (M.1 0 13).toInt = (i : Int)) (h4 : i ≤ 3) (hn : i = 3 → Q (.inl (some (.int (-1)))) M) (hq : i < 3 → ∀ (M' : fmM) (r : Int32), r.toInt = ((i + 1 : Nat) : Int) → M'.1 0 13 = r → Q (.inl (some (.int r))) M') : pvGood Tx 2 qX10_image [.ref 0] M Q := by
  refine pvGood_of (Nat.le_of_ble_eq_true rfl) ?_
  show pvEv Tx 2 qX10_image 0 [some (.ref 0)] [] M Q
  refine pv_aloadn (pc := 0) (n := 0) 0 rfl rfl (fm_dec dtX10_image 0 rfl) ?_
  refine pv_getI (k := 0) (j := 13) (ci := 10) (pc := 1) pfl_X10_129 (by decide) rfl (by decide) (fm_dec dtX10_image 1 rfl) ?_
  refine pv_iconst (pc := 4) (v := 3) (by decide) (fm_dec dtX10_image 2 rfl) ?_
  refine pv_icmp_lt (pc := 5) 10 (by decide) (fm_dec dtX10_image 3 rfl) (fun hc5 => ?_) (fun hc5 => ?_)
  · have z3 : (3 : Int32).toInt = 3 := (by decide)
    have h3 : i < 3 := (by rw [sc_lt] at hc5; omega)
    refine pv_aloadn (pc := 10) (n := 0) 0 rfl rfl (fm_dec dtX10_image 6 rfl) ?_
    refine pv_getR (k := 0) (j := 10) (ci := 10) (pc := 11) 43 rfl (by decide) pfl_X10_79 (by decide) rfl (by decide) (fm_dec dtX10_image 7 rfl) ?_
    refine pv_aloadn (pc := 14) (n := 0) 0 rfl rfl (fm_dec dtX10_image 8 rfl) ?_
    refine pv_getI (k := 0) (j := 13) (ci := 10) (pc := 15) pfl_X10_129 (by decide) rfl (by decide) (fm_dec dtX10_image 9 rfl) ?_
    refine pv_aald (k := 43) (n := 3) (r := (82 + 36 * i)) (pc := 18) (by decide) (Or.inl rfl) rfl (ix_in hi h3) (xi_at hi h3) (by omega) (fm_dec dtX10_image 10 rfl) ?_
    refine pv_aloadn (pc := 19) (n := 0) 0 rfl rfl (fm_dec dtX10_image 11 rfl) ?_
    refine pv_getR (k := 0) (j := 9) (ci := 10) (pc := 20) 46 rfl (by decide) pfl_X10_75 (by decide) rfl (by decide) (fm_dec dtX10_image 12 rfl) ?_
    refine pv_invV1 (k := (82 + 36 * i)) (d' := 1) (pc := 23) pcv_X10_360 (show 82 + 36 * i < 190 by omega) ((xi_kd h3).trans rfl) (Nat.le_of_ble_eq_true rfl) (by decide) (fm_dec dtX10_image 13 rfl) ?_
    refine s_im0 (xi_in h3) hI (fun M23 hI23 f23 => ?_)
    refine pv_then0 ?_
    refine pv_aloadn (pc := 26) (n := 0) 0 rfl rfl (fm_dec dtX10_image 14 rfl) ?_
    refine pv_dup (pc := 27) rfl (fm_dec dtX10_image 15 rfl) ?_
    refine pv_getI (k := 0) (j := 13) (ci := 10) (pc := 28) pfl_X10_129 (by decide) rfl (by decide) (fm_dec dtX10_image 16 rfl) ?_
    refine pv_iconst (pc := 31) (v := 1) (by decide) (fm_dec dtX10_image 17 rfl) ?_
    refine pv_iadd (pc := 32) (fm_dec dtX10_image 18 rfl) ?_
    refine pv_putI (k := 0) (j := 13) (ci := 10) (pc := 33) pfl_X10_129 (by decide) rfl (by decide) (fm_dec dtX10_image 19 rfl) ?_
    refine pv_aloadn (pc := 36) (n := 0) 0 rfl rfl (fm_dec dtX10_image 20 rfl) ?_
    refine pv_getI (k := 0) (j := 13) (ci := 10) (pc := 37) pfl_X10_129 (by decide) rfl (by decide) (fm_dec dtX10_image 21 rfl) ?_
    exact pv_ireturn (pc := 40) rfl (fm_dec dtX10_image 22 rfl) (hq h3 _ _ (by show (M23.1 0 13 + 1).toInt = _; rw [(f23 0 13 rfl).1]; exact i32_p1 hi (by omega)) rfl)
  · refine pv_iconst (pc := 8) (v := (-1)) (by decide) (fm_dec dtX10_image 4 rfl) ?_
    exact pv_ireturn (pc := 9) rfl (fm_dec dtX10_image 5 rfl) (hn (by have z3 : (3 : Int32).toInt = 3 := (by decide); rw [sc_lt] at hc5; omega))
set_option maxRecDepth 20000 in
theorem c_xrest {M : fmM} {Q : fmR → fmM → Prop} {i : Nat} (hI : scInv Tx invX M) (hi : (M.1 0 13).toInt = (i : Int)) (h4 : i ≤ 3) (hn : i = 0 → Q (.inl (some (.int (-1)))) M) (hq : 0 < i → ∀ (M' : fmM) (r : Int32), r.toInt = ((i - 1 : Nat) : Int) → M'.1 0 13 = r → Q (.inl (some (.int r))) M') : pvGood Tx 2 qX10_restore [.ref 0] M Q := by
  refine pvGood_of (Nat.le_of_ble_eq_true rfl) ?_
  show pvEv Tx 2 qX10_restore 0 [some (.ref 0)] [] M Q
  refine pv_aloadn (pc := 0) (n := 0) 0 rfl rfl (fm_dec dtX10_restore 0 rfl) ?_
  refine pv_getI (k := 0) (j := 13) (ci := 10) (pc := 1) pfl_X10_129 (by decide) rfl (by decide) (fm_dec dtX10_restore 1 rfl) ?_
  refine pv_if_gt (pc := 4) 9 (by decide) (fm_dec dtX10_restore 2 rfl) (fun hc4 => ?_) (fun hc4 => ?_)
  · have z0 : (0 : Int32).toInt = 0 := (by decide)
    have h0 : 0 < i := (by rw [sc_lt] at hc4; omega)
    have e1 : (M.1 0 13 - 1).toInt = ((i - 1 : Nat) : Int) := (by have z1 : (1 : Int32).toInt = 1 := (by decide); rw [sc_sub (by omega) (by omega)]; omega)
    have hI1 : scInv Tx invX (fmI M 0 13 (M.1 0 13 - 1)) := xInv.put hI ⟨by show (0 : Int) ≤ _; omega, by show _ ≤ (3 : Int); omega⟩
    refine pv_aloadn (pc := 9) (n := 0) 0 rfl rfl (fm_dec dtX10_restore 5 rfl) ?_
    refine pv_dup (pc := 10) rfl (fm_dec dtX10_restore 6 rfl) ?_
    refine pv_getI (k := 0) (j := 13) (ci := 10) (pc := 11) pfl_X10_129 (by decide) rfl (by decide) (fm_dec dtX10_restore 7 rfl) ?_
    refine pv_iconst (pc := 14) (v := 1) (by decide) (fm_dec dtX10_restore 8 rfl) ?_
    refine pv_isub (pc := 15) (fm_dec dtX10_restore 9 rfl) ?_
    refine pv_putI (k := 0) (j := 13) (ci := 10) (pc := 16) pfl_X10_129 (by decide) rfl (by decide) (fm_dec dtX10_restore 10 rfl) ?_
    refine pv_aloadn (pc := 19) (n := 0) 0 rfl rfl (fm_dec dtX10_restore 11 rfl) ?_
    refine pv_getR (k := 0) (j := 9) (ci := 10) (pc := 20) 46 rfl (by decide) pfl_X10_75 (by decide) rfl (by decide) (fm_dec dtX10_restore 12 rfl) ?_
    refine pv_aloadn (pc := 23) (n := 0) 0 rfl rfl (fm_dec dtX10_restore 13 rfl) ?_
    refine pv_getR (k := 0) (j := 10) (ci := 10) (pc := 24) 43 rfl (by decide) pfl_X10_79 (by decide) rfl (by decide) (fm_dec dtX10_restore 14 rfl) ?_
    refine pv_aloadn (pc := 27) (n := 0) 0 rfl rfl (fm_dec dtX10_restore 15 rfl) ?_
    refine pv_getI (k := 0) (j := 13) (ci := 10) (pc := 28) pfl_X10_129 (by decide) rfl (by decide) (fm_dec dtX10_restore 16 rfl) ?_
    refine pv_aald (k := 43) (n := 3) (r := (82 + 36 * (i - 1))) (pc := 31) (by decide) (Or.inl rfl) rfl (ix_in e1 (by omega)) (xi_at e1 (by omega)) (by omega) (fm_dec dtX10_restore 17 rfl) ?_
    refine pv_invV1 (k := 46) (d' := 1) (pc := 32) pcv_X10_360 (by decide) rfl (Nat.le_of_ble_eq_true rfl) (by decide) (fm_dec dtX10_restore 18 rfl) ?_
    refine s_im1 (xi_in (by omega)) hI1 (fun M32 hI32 f32 => ?_)
    refine pv_then0 ?_
    refine pv_aloadn (pc := 35) (n := 0) 0 rfl rfl (fm_dec dtX10_restore 19 rfl) ?_
    refine pv_iconst (pc := 36) (v := 0) (by decide) (fm_dec dtX10_restore 20 rfl) ?_
    refine pv_putI (k := 0) (j := 14) (ci := 10) (pc := 37) pfl_X10_132 (by decide) rfl (by decide) (fm_dec dtX10_restore 21 rfl) ?_
    refine pv_aloadn (pc := 40) (n := 0) 0 rfl rfl (fm_dec dtX10_restore 22 rfl) ?_
    refine pv_getR (k := 0) (j := 7) (ci := 10) (pc := 41) 34 rfl (by decide) pfl_X10_61 (by decide) rfl (by decide) (fm_dec dtX10_restore 23 rfl) ?_
    refine pv_invV0 (k := 34) (d' := 0) (pc := 44) pcv_X10_135 (by decide) rfl (Nat.le_of_ble_eq_true rfl) (by decide) (fm_dec dtX10_restore 24 rfl) ?_
    refine s_forget (xInv.put hI32 (scq_t _)) (fun M44 hI44 f44 => ?_)
    refine pv_then0 ?_
    refine pv_aloadn (pc := 47) (n := 0) 0 rfl rfl (fm_dec dtX10_restore 25 rfl) ?_
    refine pv_getI (k := 0) (j := 13) (ci := 10) (pc := 48) pfl_X10_129 (by decide) rfl (by decide) (fm_dec dtX10_restore 26 rfl) ?_
    exact pv_ireturn (pc := 51) rfl (fm_dec dtX10_restore 27 rfl) (hq h0 _ _ (by rw [(f44 0 13 rfl).1]; show (M32.1 0 13).toInt = _; rw [(f32 0 13 rfl).1]; exact e1) rfl)
  · refine pv_iconst (pc := 7) (v := (-1)) (by decide) (fm_dec dtX10_restore 3 rfl) ?_
    exact pv_ireturn (pc := 8) rfl (fm_dec dtX10_restore 4 rfl) (hn (by have z0 : (0 : Int32).toInt = 0 := (by decide); rw [sc_lt] at hc4; omega))
set_option maxRecDepth 20000 in
theorem c_mimage {M : fmM} {Q : fmR → fmM → Prop} {i : Nat} (hi : (M.1 0 34).toInt = (i : Int)) (h4 : i ≤ 3) (hn : i = 3 → ∀ M' : fmM, M'.1 0 34 = M.1 0 34 → Q (.inl (some (.int (-1)))) M') (hq : i < 3 → ∀ (M' : fmM) (r : Int32), r.toInt = ((i + 1 : Nat) : Int) → M'.1 0 34 = r → Q (.inl (some (.int r))) M') : pvGood Tm 2 qX11_image [.ref 0] M Q := by
  refine pvGood_of (Nat.le_of_ble_eq_true rfl) ?_
  show pvEv Tm 2 qX11_image 0 [some (.ref 0)] [] M Q
  refine pv_aloadn (pc := 0) (n := 0) 0 rfl rfl (fm_dec dtX11_image 0 rfl) ?_
  refine pv_iconst (pc := 1) (v := 0) (by decide) (fm_dec dtX11_image 1 rfl) ?_
  refine pv_putI (k := 0) (j := 0) (ci := 11) (pc := 2) pfl_X11_101 (by decide) rfl (by decide) (fm_dec dtX11_image 2 rfl) ?_
  refine pv_aloadn (pc := 5) (n := 0) 0 rfl rfl (fm_dec dtX11_image 3 rfl) ?_
  refine pv_getI (k := 0) (j := 34) (ci := 11) (pc := 6) pfl_X11_206 (by decide) rfl (by decide) (fm_dec dtX11_image 4 rfl) ?_
  refine pv_iconst (pc := 9) (v := 3) (by decide) (fm_dec dtX11_image 5 rfl) ?_
  refine pv_icmp_ne (pc := 10) 15 (by decide) (fm_dec dtX11_image 6 rfl) (fun hc10 => ?_) (fun hc10 => ?_)
  · have z3 : (3 : Int32).toInt = 3 := (by decide)
    have h3 : i < 3 := (by have h9 : ¬ i = 3 := (fun h9 => hc10 (i32_ext (by show (M.1 0 34).toInt = _; omega))); omega)
    refine pv_aloadn (pc := 15) (n := 0) 0 rfl rfl (fm_dec dtX11_image 9 rfl) ?_
    refine pv_aloadn (pc := 16) (n := 0) 0 rfl rfl (fm_dec dtX11_image 10 rfl) ?_
    refine pv_getR (k := 0) (j := 30) (ci := 11) (pc := 17) 26 rfl (by decide) pfl_X11_70 (by decide) rfl (by decide) (fm_dec dtX11_image 11 rfl) ?_
    refine pv_aloadn (pc := 20) (n := 0) 0 rfl rfl (fm_dec dtX11_image 12 rfl) ?_
    refine pv_getI (k := 0) (j := 34) (ci := 11) (pc := 21) pfl_X11_206 (by decide) rfl (by decide) (fm_dec dtX11_image 13 rfl) ?_
    refine pv_aald (k := 26) (n := 3) (r := (519 + i)) (pc := 24) (by decide) (Or.inr (Or.inr rfl)) rfl (rw_kept.inb hi h3) (rw_kept.at hi h3) (rw_kept.2.2.2 i h3).2.1 (fm_dec dtX11_image 14 rfl) ?_
    refine pv_iconst (pc := 25) (v := 0) (by decide) (fm_dec dtX11_image 15 rfl) ?_
    refine pv_invV2 (k := 0) (d' := 1) (pc := 26) pcv_X11_443 (by decide) rfl (Nat.le_of_ble_eq_true rfl) (by decide) (fm_dec dtX11_image 16 rfl) ?_
    refine c_putsAll0 h3 (fun M26 p26 => ?_)
    refine pv_then0 ?_
    refine pv_aloadn (pc := 29) (n := 0) 0 rfl rfl (fm_dec dtX11_image 17 rfl) ?_
    refine pv_dup (pc := 30) rfl (fm_dec dtX11_image 18 rfl) ?_
    refine pv_getI (k := 0) (j := 34) (ci := 11) (pc := 31) pfl_X11_206 (by decide) rfl (by decide) (fm_dec dtX11_image 19 rfl) ?_
    refine pv_iconst (pc := 34) (v := 1) (by decide) (fm_dec dtX11_image 20 rfl) ?_
    refine pv_iadd (pc := 35) (fm_dec dtX11_image 21 rfl) ?_
    refine pv_putI (k := 0) (j := 34) (ci := 11) (pc := 36) pfl_X11_206 (by decide) rfl (by decide) (fm_dec dtX11_image 22 rfl) ?_
    refine pv_aloadn (pc := 39) (n := 0) 0 rfl rfl (fm_dec dtX11_image 23 rfl) ?_
    refine pv_getI (k := 0) (j := 34) (ci := 11) (pc := 40) pfl_X11_206 (by decide) rfl (by decide) (fm_dec dtX11_image 24 rfl) ?_
    exact pv_ireturn (pc := 43) rfl (fm_dec dtX11_image 25 rfl) (hq h3 _ _ (by show (M26.1 0 34 + 1).toInt = _; rw [p26.2.1 0 34 (by omega) (by decide)]; exact i32_p1 hi (by omega)) rfl)
  · refine pv_iconst (pc := 13) (v := (-1)) (by decide) (fm_dec dtX11_image 7 rfl) ?_
    exact pv_ireturn (pc := 14) rfl (fm_dec dtX11_image 8 rfl) (hn (by have z3 : (3 : Int32).toInt = 3 := (by decide); have h9 : (M.1 0 34).toInt = (3 : Int32).toInt := congrArg Int32.toInt hc10; omega) _ rfl)
theorem sl_34 : ∀ t, t < 239 → ¬ ((sl t).1 = 0 ∧ (sl t).2 = 34) := by decide +kernel
set_option maxRecDepth 20000 in
theorem c_mrest {M : fmM} {Q : fmR → fmM → Prop} {i : Nat} (hi : (M.1 0 34).toInt = (i : Int)) (h4 : i ≤ 3) (hn : i = 0 → ∀ M' : fmM, M'.1 0 34 = M.1 0 34 → Q (.inl (some (.int (-1)))) M') (hq : 0 < i → ∀ (M' : fmM) (r : Int32), r.toInt = ((i - 1 : Nat) : Int) → M'.1 0 34 = r → Q (.inl (some (.int r))) M') : pvGood Tm 2 qX11_restore [.ref 0] M Q := by
  refine pvGood_of (Nat.le_of_ble_eq_true rfl) ?_
  show pvEv Tm 2 qX11_restore 0 [some (.ref 0)] [] M Q
  refine pv_aloadn (pc := 0) (n := 0) 0 rfl rfl (fm_dec dtX11_restore 0 rfl) ?_
  refine pv_iconst (pc := 1) (v := 0) (by decide) (fm_dec dtX11_restore 1 rfl) ?_
  refine pv_putI (k := 0) (j := 0) (ci := 11) (pc := 2) pfl_X11_101 (by decide) rfl (by decide) (fm_dec dtX11_restore 2 rfl) ?_
  refine pv_aloadn (pc := 5) (n := 0) 0 rfl rfl (fm_dec dtX11_restore 3 rfl) ?_
  refine pv_getI (k := 0) (j := 34) (ci := 11) (pc := 6) pfl_X11_206 (by decide) rfl (by decide) (fm_dec dtX11_restore 4 rfl) ?_
  refine pv_if_ne (pc := 9) 14 (by decide) (fm_dec dtX11_restore 5 rfl) (fun hc9 => ?_) (fun hc9 => ?_)
  · have hi0 : ((fmI M 0 0 0).1 0 34).toInt = (i : Int) := hi
    have h0 : 0 < i := (by have h9 : ¬ i = 0 := (fun h9 => hc9 (i32_ext (by show (M.1 0 34).toInt = _; rw [hi, h9]; decide))); omega)
    have e1 : ((fmI M 0 0 0).1 0 34 - 1).toInt = ((i - 1 : Nat) : Int) := (by have z1 : (1 : Int32).toInt = 1 := (by decide); rw [sc_sub (by omega) (by omega)]; omega)
    refine pv_aloadn (pc := 14) (n := 0) 0 rfl rfl (fm_dec dtX11_restore 8 rfl) ?_
    refine pv_dup (pc := 15) rfl (fm_dec dtX11_restore 9 rfl) ?_
    refine pv_getI (k := 0) (j := 34) (ci := 11) (pc := 16) pfl_X11_206 (by decide) rfl (by decide) (fm_dec dtX11_restore 10 rfl) ?_
    refine pv_iconst (pc := 19) (v := 1) (by decide) (fm_dec dtX11_restore 11 rfl) ?_
    refine pv_isub (pc := 20) (fm_dec dtX11_restore 12 rfl) ?_
    refine pv_putI (k := 0) (j := 34) (ci := 11) (pc := 21) pfl_X11_206 (by decide) rfl (by decide) (fm_dec dtX11_restore 13 rfl) ?_
    refine pv_aloadn (pc := 24) (n := 0) 0 rfl rfl (fm_dec dtX11_restore 14 rfl) ?_
    refine pv_aloadn (pc := 25) (n := 0) 0 rfl rfl (fm_dec dtX11_restore 15 rfl) ?_
    refine pv_getR (k := 0) (j := 30) (ci := 11) (pc := 26) 26 rfl (by decide) pfl_X11_70 (by decide) rfl (by decide) (fm_dec dtX11_restore 16 rfl) ?_
    refine pv_aloadn (pc := 29) (n := 0) 0 rfl rfl (fm_dec dtX11_restore 17 rfl) ?_
    refine pv_getI (k := 0) (j := 34) (ci := 11) (pc := 30) pfl_X11_206 (by decide) rfl (by decide) (fm_dec dtX11_restore 18 rfl) ?_
    refine pv_aald (k := 26) (n := 3) (r := (519 + (i - 1))) (pc := 33) (by decide) (Or.inr (Or.inr rfl)) rfl (rw_kept.inb e1 (by omega)) (rw_kept.at e1 (by omega)) (rw_kept.2.2.2 (i - 1) (by omega)).2.1 (fm_dec dtX11_restore 19 rfl) ?_
    refine pv_iconst (pc := 34) (v := 1) (by decide) (fm_dec dtX11_restore 20 rfl) ?_
    refine pv_invV2 (k := 0) (d' := 1) (pc := 35) pcv_X11_443 (by decide) rfl (Nat.le_of_ble_eq_true rfl) (by decide) (fm_dec dtX11_restore 21 rfl) ?_
    refine c_putsAll1 (i := i - 1) (by omega) (fun M35 p35 => ?_)
    refine pv_then0 ?_
    refine pv_aloadn (pc := 38) (n := 0) 0 rfl rfl (fm_dec dtX11_restore 22 rfl) ?_
    refine pv_iconst (pc := 39) (v := 0) (by decide) (fm_dec dtX11_restore 23 rfl) ?_
    refine pv_putI (k := 0) (j := 33) (ci := 11) (pc := 40) pfl_X11_203 (by decide) rfl (by decide) (fm_dec dtX11_restore 24 rfl) ?_
    refine pv_aloadn (pc := 43) (n := 0) 0 rfl rfl (fm_dec dtX11_restore 25 rfl) ?_
    refine pv_getI (k := 0) (j := 34) (ci := 11) (pc := 44) pfl_X11_206 (by decide) rfl (by decide) (fm_dec dtX11_restore 26 rfl) ?_
    exact pv_ireturn (pc := 47) rfl (fm_dec dtX11_restore 27 rfl) (hq h0 _ _ (by show (M35.1 0 34).toInt = _; rw [p35.2.1 0 34 (fun t h9 => sl_34 t h9) (by decide)]; exact e1) rfl)
  · refine pv_iconst (pc := 12) (v := (-1)) (by decide) (fm_dec dtX11_restore 6 rfl) ?_
    exact pv_ireturn (pc := 13) rfl (fm_dec dtX11_restore 7 rfl) (hn (by have h9 : (M.1 0 34).toInt = (0 : Int32).toInt := congrArg Int32.toInt hc9; have z0 : (0 : Int32).toInt = 0 := (by decide); omega) _ rfl)
end
-- P 18r
section
def mdw (M' : fmM) (D : dD) : Prop := (M'.1 4 0).toInt = (D.1 : Int) ∧ (M'.1 4 1).toInt = (D.2.2.1 : Int) ∧ (∀ k, 2 ≤ k → k ≤ 5 → (M'.1 4 k).toInt = D.2.2.2.2 k) ∧ (∀ i, i < D.1 → ∀ j, j < 6 → (M'.1 (35 + i) j).toInt = D.2.1 i j) ∧ ∀ i, i < D.2.2.1 → ∀ j, j < 3 → (M'.1 (67 + i) j).toInt = D.2.2.2.1 i j
-- THE CHAIN, exactly
theorem bc8 : ∀ w, w < 256 → bcF (nI w) = nI (pop8 w) := by decide +kernel
def onF (b : Int32) : Int32 := 0 + (b >>> ((0 : Int32) &&& 31) &&& 1) + (b >>> ((1 : Int32) &&& 31) &&& 1) + (b >>> ((2 : Int32) &&& 31) &&& 1) + (b >>> ((3 : Int32) &&& 31) &&& 1) + (b >>> ((4 : Int32) &&& 31) &&& 1) + (b >>> ((5 : Int32) &&& 31) &&& 1) + (b >>> ((6 : Int32) &&& 31) &&& 1) + (b >>> ((7 : Int32) &&& 31) &&& 1)
theorem on8 : ∀ w, w < 256 → onF (nI w) = nI (pop8 w) := by decide +kernel
theorem full8 : ∀ w, w < 256 → pop8 w = 8 → ∀ k, k < 8 → w.testBit k = true := by decide +kernel
theorem has8z : ∀ w, w < 256 → ∀ k, k < 8 → ((nI w >>> (nI k &&& 31) &&& 1) = (0 : Int32) ↔ w.testBit k = false) := by decide +kernel
theorem pop8_1 : ∀ k, k < 8 → pop8 (1 <<< k) = 1 := by decide +kernel
def chS (b : Nat → Int) : Nat → Nat → Nat → Nat × Nat
  | 0, s, l => (s, l)
  | f + 1, s, l => if b l < 0 then (s, l) else if s.testBit (b l).toNat then (s, l) else chS b f (s ||| 1 <<< (b l).toNat) (b l).toNat
theorem ch_no {b : Nat → Int} {m s l : Nat} (h : b l < 0) : chS b m s l = (s, l) := by
  cases m with
  | zero => rfl
  | succ f => exact if_pos h
theorem ch_has {b : Nat → Int} {m s l k : Nat} (h : b l = (k : Int)) (ht : s.testBit k = true) : chS b m s l = (s, l) := by
  cases m with
  | zero => rfl
  | succ f =>
    show (if b l < 0 then (s, l) else if s.testBit (b l).toNat then (s, l) else chS b f (s ||| 1 <<< (b l).toNat) (b l).toNat) = (s, l)
    rw [if_neg (by omega), h, Int.toNat_natCast, if_pos ht]
theorem ch_go {b : Nat → Int} {f s l k : Nat} (h : b l = (k : Int)) (ht : s.testBit k = false) : chS b (f + 1) s l = chS b f (s ||| 1 <<< k) k := by
  show (if b l < 0 then (s, l) else if s.testBit (b l).toNat then (s, l) else chS b f (s ||| 1 <<< (b l).toNat) (b l).toNat) = _
  rw [if_neg (by omega), h, Int.toNat_natCast, if_neg (by rw [ht]; decide)]
def chR (p : Nat × Nat) (what : Int32) : Int32 := if what = 0 then nI (pop8 p.1) else nI p.2
theorem chR_s {p : Nat × Nat} {what : Int32} (h : what = 0) : chR p what = nI (pop8 p.1) := if_pos h
theorem chR_l {p : Nat × Nat} {what : Int32} (h : ¬ what = 0) : chR p what = nI p.2 := if_neg h
def chB (D : dD) : Nat → Int := fun i => D.2.1 i 5
def chV (D : dD) (x what : Int32) : Int32 := chR (chS (chB D) 7 (1 <<< x.toInt.toNat) x.toInt.toNat) what
theorem by_d {D : dD} {l : Nat} {x : Int32} (hD : dOk D) (hl : l < D.1) (hx : x.toInt = chB D l) (h : ¬ chB D l < 0) : ∃ k : Nat, k < D.1 ∧ k < 8 ∧ chB D l = (k : Int) ∧ x = nI k := by
  have h1 := (hD.2.2.1 l hl).2.2.2.2.2
  have h8 := hD.1
  have e : D.2.1 l 5 = chB D l := rfl
  rw [e] at h1
  exact ⟨(chB D l).toNat, by omega, by omega, by omega, nI_is (by omega) (by omega)⟩
theorem glueN {A : Prop} {v : fmR} {r r2 : fmR} {M : fmM} (hv : ∃ x, v = .inl x) (h : (A ∧ r = v) ∨ (¬ A ∧ r = .inr fmNSE)) (h2 : (A ∧ r2 = v ∧ M.1 0 0 = 0) ∨ (¬ A ∧ M.1 0 0 = 1)) : mtI 0 1 r r2 M := by
  obtain ⟨x, rfl⟩ := hv
  rcases h with ⟨a, rfl⟩ | ⟨a, rfl⟩ <;> rcases h2 with ⟨a2, e2, t⟩ | ⟨a2, t⟩
  · exact ⟨t, e2⟩
  · exact absurd a a2
  · exact absurd a2 a
  · exact ⟨fun h => absurd h (by decide), fun _ => t⟩
theorem glueL {A B : Prop} {v : fmR} {r r2 : fmR} {M : fmM} (hv : ∃ x, v = .inl x) (h : (A ∧ B ∧ r = v) ∨ (¬ A ∧ r = .inr fmNSE) ∨ (A ∧ ¬ B ∧ r = .inr fmIAE)) (h2 : (A ∧ B ∧ r2 = v ∧ M.1 0 0 = 0) ∨ (¬ A ∧ M.1 0 0 = 1) ∨ (A ∧ ¬ B ∧ M.1 0 0 = 2)) : mtI 2 1 r r2 M := by
  obtain ⟨x, rfl⟩ := hv
  rcases h with ⟨a, b, rfl⟩ | ⟨a, rfl⟩ | ⟨a, b, rfl⟩ <;> rcases h2 with ⟨a2, b2, e2, t⟩ | ⟨a2, t⟩ | ⟨a2, b2, t⟩
  · exact ⟨t, e2⟩
  · exact absurd a a2
  · exact absurd b b2
  · exact absurd a2 a
  · exact ⟨fun h => absurd h (by decide), fun _ => t⟩
  · exact absurd a2 a
  · exact absurd b2 b
  · exact absurd a a2
  · exact ⟨fun _ => t, fun h => absurd h (by decide)⟩
/-- a life that is told -/
def inL (D : dD) (x : Int32) : Prop := 0 ≤ x.toInt ∧ x.toInt < (D.1 : Int)
set_option maxRecDepth 20000 in
theorem c_needL {M : fmM} {Q : fmR → fmM → Prop} {x : Int32} (ht : 0 ≤ x.toInt → x.toInt < (M.1 3 9).toInt → Q (.inl none) M) (hf : ¬ (0 ≤ x.toInt ∧ x.toInt < (M.1 3 9).toInt) → Q (.inr fmNSE) (fmI M 0 15 (M.1 0 15 + 1))) : pvGood Tx 0 qX10_needLife [.ref 0, .int x] M Q := by
  refine pvGood_of (Nat.le_of_ble_eq_true rfl) ?_
  show pvEv Tx 0 qX10_needLife 0 [some (.ref 0), some (.int x)] [] M Q
  have z0 : (0 : Int32).toInt = 0 := (by decide)
  refine pv_iloadn (pc := 0) (n := 1) 1 rfl rfl (fm_dec dtX10_needLife 0 rfl) ?_
  refine pv_if_lt (pc := 1) 15 (by decide) (fm_dec dtX10_needLife 1 rfl) (fun hc1 => ?_) (fun hc1 => ?_)
  · refine pv_aloadn (pc := 15) (n := 0) 0 rfl rfl (fm_dec dtX10_needLife 7 rfl) ?_
    refine pv_dup (pc := 16) rfl (fm_dec dtX10_needLife 8 rfl) ?_
    refine pv_getI (k := 0) (j := 15) (ci := 10) (pc := 17) pfl_X10_363 (by decide) rfl (by decide) (fm_dec dtX10_needLife 9 rfl) ?_
    refine pv_iconst (pc := 20) (v := 1) (by decide) (fm_dec dtX10_needLife 10 rfl) ?_
    refine pv_iadd (pc := 21) (fm_dec dtX10_needLife 11 rfl) ?_
    refine pv_putI (k := 0) (j := 15) (ci := 10) (pc := 22) pfl_X10_363 (by decide) rfl (by decide) (fm_dec dtX10_needLife 12 rfl) ?_
    exact pv_thrN (pc := 25) pvK_10 (fm_dec dtX10_needLife 13 rfl) (fm_dec dtX10_needLife 14 rfl) (fm_dec dtX10_needLife 15 rfl) (fm_dec dtX10_needLife 16 rfl) (fm_dec dtX10_needLife 17 rfl) (hf (by intro h9; first | (rw [sc_lt] at hc1; omega) | (rw [sc_lt] at hc12; exact hc12 h9.2)))
  · refine pv_iloadn (pc := 4) (n := 1) 1 rfl rfl (fm_dec dtX10_needLife 2 rfl) ?_
    refine pv_aloadn (pc := 5) (n := 0) 0 rfl rfl (fm_dec dtX10_needLife 3 rfl) ?_
    refine pv_getR (k := 0) (j := 1) (ci := 10) (pc := 6) 3 rfl (by decide) pfl_X10_19 (by decide) rfl (by decide) (fm_dec dtX10_needLife 4 rfl) ?_
    refine pv_getI (k := 3) (j := 9) (ci := 8) (pc := 9) pfl_X10_138 (by decide) rfl (by decide) (fm_dec dtX10_needLife 5 rfl) ?_
    refine pv_icmp_lt (pc := 12) 36 (by decide) (fm_dec dtX10_needLife 6 rfl) (fun hc12 => ?_) (fun hc12 => ?_)
    · exact pv_return (pc := 36) rfl (fm_dec dtX10_needLife 18 rfl) (ht (by rw [sc_lt] at hc1; omega) (by rw [sc_lt] at hc12; exact hc12))
    · refine pv_aloadn (pc := 15) (n := 0) 0 rfl rfl (fm_dec dtX10_needLife 7 rfl) ?_
      refine pv_dup (pc := 16) rfl (fm_dec dtX10_needLife 8 rfl) ?_
      refine pv_getI (k := 0) (j := 15) (ci := 10) (pc := 17) pfl_X10_363 (by decide) rfl (by decide) (fm_dec dtX10_needLife 9 rfl) ?_
      refine pv_iconst (pc := 20) (v := 1) (by decide) (fm_dec dtX10_needLife 10 rfl) ?_
      refine pv_iadd (pc := 21) (fm_dec dtX10_needLife 11 rfl) ?_
      refine pv_putI (k := 0) (j := 15) (ci := 10) (pc := 22) pfl_X10_363 (by decide) rfl (by decide) (fm_dec dtX10_needLife 12 rfl) ?_
      exact pv_thrN (pc := 25) pvK_10 (fm_dec dtX10_needLife 13 rfl) (fm_dec dtX10_needLife 14 rfl) (fm_dec dtX10_needLife 15 rfl) (fm_dec dtX10_needLife 16 rfl) (fm_dec dtX10_needLife 17 rfl) (hf (by intro h9; first | (rw [sc_lt] at hc1; omega) | (rw [sc_lt] at hc12; exact hc12 h9.2)))
theorem c_bits8 {M : fmM} {Q : fmR → fmM → Prop} {w : Nat} (hw : w < 256) (hq : Q (.inl (some (.int (nI (pop8 w))))) M) : pvGood Tx 0 qJ6_bitCount_0f7a4 [.int (nI w)] M Q := c_bits (by rw [bc8 w hw]; exact hq)
set_option maxRecDepth 20000 in
theorem xc_end {Q : fmR → fmM → Prop} {M : fmM} {li wh : Int32} {w l : Nat} {v5 v6 : Option Value} (hw : w < 256) (hq : Q (.inl (some (.int (chR (w, l) wh)))) M) : pvEv Tx 1 qX10_chain 87 [some (.ref 0), some (.int li), some (.int wh), some (.int (nI w)), some (.int (nI l)), v5, v6] [] M Q := by
  refine pv_iloadn (pc := 87) (n := 2) 2 rfl rfl (fm_dec dtX10_chain 49 rfl) ?_
  refine pv_if_ne (pc := 88) 98 (by decide) (fm_dec dtX10_chain 50 rfl) (fun hc88 => ?_) (fun hc88 => ?_)
  · refine pv_iload (pc := 98) (i := 4) rfl (fm_dec dtX10_chain 54 rfl) ?_
    exact pv_ireturn (pc := 100) rfl (fm_dec dtX10_chain 55 rfl) (by rw [chR_l hc88] at hq; exact hq)
  · refine pv_iloadn (pc := 91) (n := 3) 3 rfl rfl (fm_dec dtX10_chain 51 rfl) ?_
    refine pv_iS1 (d' := 0) (pc := 92) pcs_X10_182 (Nat.le_of_ble_eq_true rfl) (by decide) (fm_dec dtX10_chain 52 rfl) ?_
    refine c_bits8 hw ?_
    refine pv_then1 ?_
    refine pv_goto (pc := 95) 100 (by decide) (fm_dec dtX10_chain 53 rfl) ?_
    exact pv_ireturn (pc := 100) rfl (fm_dec dtX10_chain 55 rfl) (by rw [chR_s hc88] at hq; exact hq)
set_option maxRecDepth 20000 in
theorem xc_loop {Q : fmR → fmM → Prop} {M : fmM} {li wh : Int32} {D : dD} (hD : dOk D) (hX : xdw 3 M D) : ∀ (m : Nat) (w l : Nat) (i : Int32) (v6 : Option Value), w < 256 → 8 - pop8 w = m → l < D.1 → i.toInt + m = 7 → Q (.inl (some (.int (chR (chS (chB D) m w l) wh)))) M → pvEv Tx 1 qX10_chain 22 [some (.ref 0), some (.int li), some (.int wh), some (.int (nI w)), some (.int (nI l)), some (.int i), v6] [] M Q := by
  intro m
  induction m using Nat.strongRecOn with
  | _ m ih =>
    intro w l i v6 hw hm hl hi hq
    refine pv_iload (pc := 22) (i := 5) rfl (fm_dec dtX10_chain 16 rfl) ?_
    refine pv_bipush (pc := 24) (v := 8) (by decide) (fm_dec dtX10_chain 17 rfl) ?_
    refine pv_icmp_ge (pc := 26) 87 (by decide) (fm_dec dtX10_chain 18 rfl) (fun hc26 => by exfalso; rw [sc_le] at hc26; have z8 : (8 : Int32).toInt = 8 := (by decide); have h9 := pop8_le w hw; omega) (fun _ => ?_)
    have d8 := hD.1
    have hl8 : l < 8 := (by omega)
    have hl9 : (nI l).toInt = (l : Int) := nI_toInt (by omega)
    have hx9 : (M.1 9 l).toInt = chB D l := hX.2.1 l hl 5 (by decide)
    have z0 : (0 : Int32).toInt = 0 := (by decide)
    refine pv_aloadn (pc := 29) (n := 0) 0 rfl rfl (fm_dec dtX10_chain 19 rfl) ?_
    refine pv_getR (k := 0) (j := 1) (ci := 10) (pc := 30) 3 rfl (by decide) pfl_X10_19 (by decide) rfl (by decide) (fm_dec dtX10_chain 20 rfl) ?_
    refine pv_getR (k := 3) (j := 5) (ci := 8) (pc := 33) 9 rfl (by decide) pfl_X10_222 (by decide) rfl (by decide) (fm_dec dtX10_chain 21 rfl) ?_
    refine pv_iload (pc := 36) (i := 4) rfl (fm_dec dtX10_chain 22 rfl) ?_
    refine pv_iald (k := 9) (n := 8) (pc := 38) (by decide) rfl rfl (ix_in hl9 hl8) (fm_dec dtX10_chain 23 rfl) ?_
    rw [i32_cl hl9]
    refine pv_istore (pc := 39) (i := 6) (by decide) rfl (fm_dec dtX10_chain 24 rfl) ?_
    dsimp only [List.set_cons_zero, List.set_cons_succ]
    refine pv_iload (pc := 41) (i := 6) rfl (fm_dec dtX10_chain 25 rfl) ?_
    refine pv_if_lt (pc := 43) 87 (by decide) (fm_dec dtX10_chain 26 rfl) (fun hc43 => ?_) (fun hc43 => ?_)
    · have e5 : chS (chB D) m w l = (w, l) := ch_no (by rw [sc_lt] at hc43; omega)
      rw [e5] at hq
      exact xc_end hw hq
    · obtain ⟨k, hk, hk8, hkb, hkx⟩ := by_d hD hl hx9 (by rw [sc_lt] at hc43; omega)
      rw [hkx]
      refine pv_iload (pc := 46) (i := 6) rfl (fm_dec dtX10_chain 27 rfl) ?_
      refine pv_aloadn (pc := 48) (n := 0) 0 rfl rfl (fm_dec dtX10_chain 28 rfl) ?_
      refine pv_getR (k := 0) (j := 1) (ci := 10) (pc := 49) 3 rfl (by decide) pfl_X10_19 (by decide) rfl (by decide) (fm_dec dtX10_chain 29 rfl) ?_
      refine pv_getI (k := 3) (j := 9) (ci := 8) (pc := 52) pfl_X10_138 (by decide) rfl (by decide) (fm_dec dtX10_chain 30 rfl) ?_
      refine pv_icmp_ge (pc := 55) 87 (by decide) (fm_dec dtX10_chain 31 rfl) (fun hc55 => by exfalso; rw [sc_le] at hc55; have h9 : (M.1 3 9).toInt = (D.1 : Int) := hX.1.1; have h8 : (nI k).toInt = (k : Int) := nI_toInt (by omega); omega) (fun _ => ?_)
      refine pv_iloadn (pc := 58) (n := 3) 3 rfl rfl (fm_dec dtX10_chain 32 rfl) ?_
      refine pv_iload (pc := 59) (i := 6) rfl (fm_dec dtX10_chain 33 rfl) ?_
      refine pv_ishr (pc := 61) (fm_dec dtX10_chain 34 rfl) ?_
      refine pv_iconst (pc := 62) (v := 1) (by decide) (fm_dec dtX10_chain 35 rfl) ?_
      refine pv_iand (pc := 63) (fm_dec dtX10_chain 36 rfl) ?_
      refine pv_if_eq (pc := 64) 70 (by decide) (fm_dec dtX10_chain 37 rfl) (fun hc64 => ?_) (fun hc64 => ?_)
      · refine pv_iloadn (pc := 70) (n := 3) 3 rfl rfl (fm_dec dtX10_chain 39 rfl) ?_
        refine pv_iconst (pc := 71) (v := 1) (by decide) (fm_dec dtX10_chain 40 rfl) ?_
        refine pv_iload (pc := 72) (i := 6) rfl (fm_dec dtX10_chain 41 rfl) ?_
        refine pv_ishl (pc := 74) (fm_dec dtX10_chain 42 rfl) ?_
        refine pv_ior (pc := 75) (fm_dec dtX10_chain 43 rfl) ?_
        refine pv_istoren (pc := 76) (n := 3) 3 rfl (by decide) rfl (fm_dec dtX10_chain 44 rfl) ?_
        dsimp only [List.set_cons_zero, List.set_cons_succ]
        refine pv_iload (pc := 77) (i := 6) rfl (fm_dec dtX10_chain 45 rfl) ?_
        refine pv_istore (pc := 79) (i := 4) (by decide) rfl (fm_dec dtX10_chain 46 rfl) ?_
        dsimp only [List.set_cons_zero, List.set_cons_succ]
        refine pv_iincc (pc := 81) 5 1 (by decide) rfl (by decide) rfl (fm_dec dtX10_chain 47 rfl) ?_
        dsimp only [List.set_cons_zero, List.set_cons_succ]
        refine pv_goto (pc := 84) 22 (by decide) (fm_dec dtX10_chain 48 rfl) ?_
        have ht : w.testBit k = false := (has8z w hw k hk8).mp hc64
        have hp := pop8_add w hw k hk8 ht
        have hle := pop8_le _ hp.2
        obtain ⟨f, rfl⟩ : ∃ f, m = f + 1 := ⟨m - 1, by omega⟩
        rw [ch_go hkb ht] at hq
        rw [or8 w hw k hk8]
        exact ih f (by omega) (w ||| 1 <<< k) k (i + 1) _ hp.2 (by omega) hk (by have h9 : (i + 1).toInt = i.toInt + 1 := (by have z1 : (1 : Int32).toInt = 1 := (by decide); rw [sc_add (by omega) (by omega)]; omega); omega) hq
      · refine pv_goto (pc := 67) 87 (by decide) (fm_dec dtX10_chain 38 rfl) ?_
        have ht : w.testBit k = true := (by cases h9 : w.testBit k with | true => rfl | false => exact absurd ((has8z w hw k hk8).mpr h9) hc64)
        have e5 : chS (chB D) m w l = (w, l) := ch_has hkb ht
        rw [e5] at hq
        exact xc_end hw hq
set_option maxRecDepth 20000 in
theorem c_xchain {M : fmM} {Q : fmR → fmM → Prop} {li wh : Int32} {D : dD} (hD : dOk D) (hX : xdw 3 M D) (hn1 : ¬ inL D li → Q (.inr fmNSE) (fmI M 0 15 (M.1 0 15 + 1))) (hn2 : inL D li → ¬ inW wh 0 1 → Q (.inr fmIAE) (fmI M 0 16 (M.1 0 16 + 1))) (hq : inL D li → inW wh 0 1 → Q (.inl (some (.int (chV D li wh)))) M) : pvGood Tx 1 qX10_chain [.ref 0, .int li, .int wh] M Q := by
  refine pvGood_of (Nat.le_of_ble_eq_true rfl) ?_
  show pvEv Tx 1 qX10_chain 0 [some (.ref 0), some (.int li), some (.int wh), none, none, none, none] [] M Q
  have hl9 : (M.1 3 9).toInt = (D.1 : Int) := hX.1.1
  have d8 := hD.1
  refine pv_aloadn (pc := 0) (n := 0) 0 rfl rfl (fm_dec dtX10_chain 0 rfl) ?_
  refine pv_iloadn (pc := 1) (n := 1) 1 rfl rfl (fm_dec dtX10_chain 1 rfl) ?_
  refine pv_invV1 (k := 0) (d' := 0) (pc := 2) pcv_X10_197 (by decide) rfl (Nat.le_of_ble_eq_true rfl) (by decide) (fm_dec dtX10_chain 2 rfl) ?_
  refine c_needL (fun h2a h2b => ?_) (fun h2 => ?_)
  · refine pv_then0 ?_
    refine pv_aloadn (pc := 5) (n := 0) 0 rfl rfl (fm_dec dtX10_chain 3 rfl) ?_
    refine pv_iloadn (pc := 6) (n := 2) 2 rfl rfl (fm_dec dtX10_chain 4 rfl) ?_
    refine pv_iconst (pc := 7) (v := 0) (by decide) (fm_dec dtX10_chain 5 rfl) ?_
    refine pv_iconst (pc := 8) (v := 1) (by decide) (fm_dec dtX10_chain 6 rfl) ?_
    refine pv_invV3 (k := 0) (d' := 0) (pc := 9) pcv_X10_169 (by decide) rfl (Nat.le_of_ble_eq_true rfl) (by decide) (fm_dec dtX10_chain 7 rfl) ?_
    refine c_needW (fun h9a h9b => ?_) (fun h9 => ?_)
    · refine pv_then0 ?_
      refine pv_iconst (pc := 12) (v := 1) (by decide) (fm_dec dtX10_chain 8 rfl) ?_
      refine pv_iloadn (pc := 13) (n := 1) 1 rfl rfl (fm_dec dtX10_chain 9 rfl) ?_
      refine pv_ishl (pc := 14) (fm_dec dtX10_chain 10 rfl) ?_
      refine pv_istoren (pc := 15) (n := 3) 3 rfl (by decide) rfl (fm_dec dtX10_chain 11 rfl) ?_
      dsimp only [List.set_cons_zero, List.set_cons_succ]
      refine pv_iloadn (pc := 16) (n := 1) 1 rfl rfl (fm_dec dtX10_chain 12 rfl) ?_
      refine pv_istore (pc := 17) (i := 4) (by decide) rfl (fm_dec dtX10_chain 13 rfl) ?_
      dsimp only [List.set_cons_zero, List.set_cons_succ]
      refine pv_iconst (pc := 19) (v := 0) (by decide) (fm_dec dtX10_chain 14 rfl) ?_
      refine pv_istore (pc := 20) (i := 5) (by decide) rfl (fm_dec dtX10_chain 15 rfl) ?_
      dsimp only [List.set_cons_zero, List.set_cons_succ]
      have hn : inL D li := ⟨h2a, by omega⟩
      obtain ⟨k, hk⟩ : ∃ k : Nat, li.toInt = (k : Int) := ⟨li.toInt.toNat, by omega⟩
      have ek : li.toInt.toNat = k := (by omega)
      have q9 := hq hn ⟨h9a, h9b⟩
      unfold chV at q9
      rw [ek] at q9
      have hli : li = nI k := nI_is hk (by omega)
      subst hli
      rw [(one8 k (by omega)).1]
      exact xc_loop hD hX 7 (1 <<< k) k 0 _ (one8 k (by omega)).2 (by rw [pop8_1 k (by omega)]) (by omega) (by decide) q9
    · refine pv_thenX ?_
      first | exact hn2 ⟨h2a, by omega⟩ h9 | exact hn1 (fun h8 => h2 ⟨h8.1, by have := h8.2; omega⟩)
  · refine pv_thenX ?_
    first | exact hn2 ⟨h2a, by omega⟩ h9 | exact hn1 (fun h8 => h2 ⟨h8.1, by have := h8.2; omega⟩)
set_option maxRecDepth 20000 in
theorem c_onesF {M : fmM} {Q : fmR → fmM → Prop} {b : Int32} (hq : Q (.inl (some (.int (onF b)))) M) : pvGood Tm 0 qX11_ones [.int b] M Q := by
  refine pvGood_of (Nat.le_of_ble_eq_true rfl) ?_
  show pvEv Tm 0 qX11_ones 0 [some (.int b), none, none] [] M Q
  refine pv_iconst (pc := 0) (v := 0) (by decide) (fm_dec dtX11_ones 0 rfl) ?_
  refine pv_istoren (pc := 1) (n := 1) 1 rfl (by decide) rfl (fm_dec dtX11_ones 1 rfl) ?_
  dsimp only [List.set_cons_zero, List.set_cons_succ]
  refine pv_iconst (pc := 2) (v := 0) (by decide) (fm_dec dtX11_ones 2 rfl) ?_
  refine pv_istoren (pc := 3) (n := 2) 2 rfl (by decide) rfl (fm_dec dtX11_ones 3 rfl) ?_
  dsimp only [List.set_cons_zero, List.set_cons_succ]
  refine pv_iloadn (pc := 4) (n := 2) 2 rfl rfl (fm_dec dtX11_ones 4 rfl) ?_
  refine pv_bipush (pc := 5) (v := 8) (by decide) (fm_dec dtX11_ones 5 rfl) ?_
  refine pv_icmp_ge (pc := 7) 24 (by decide) (fm_dec dtX11_ones 6 rfl) (fun hc7 => by exfalso; revert hc7; decide) (fun _ => ?_)
  refine pv_iloadn (pc := 10) (n := 1) 1 rfl rfl (fm_dec dtX11_ones 7 rfl) ?_
  refine pv_iloadn (pc := 11) (n := 0) 0 rfl rfl (fm_dec dtX11_ones 8 rfl) ?_
  refine pv_iloadn (pc := 12) (n := 2) 2 rfl rfl (fm_dec dtX11_ones 9 rfl) ?_
  refine pv_ishr (pc := 13) (fm_dec dtX11_ones 10 rfl) ?_
  refine pv_iconst (pc := 14) (v := 1) (by decide) (fm_dec dtX11_ones 11 rfl) ?_
  refine pv_iand (pc := 15) (fm_dec dtX11_ones 12 rfl) ?_
  refine pv_iadd (pc := 16) (fm_dec dtX11_ones 13 rfl) ?_
  refine pv_istoren (pc := 17) (n := 1) 1 rfl (by decide) rfl (fm_dec dtX11_ones 14 rfl) ?_
  dsimp only [List.set_cons_zero, List.set_cons_succ]
  refine pv_iincc (pc := 18) 2 1 (by decide) rfl (by decide) rfl (fm_dec dtX11_ones 15 rfl) ?_
  dsimp only [List.set_cons_zero, List.set_cons_succ]
  rw [show (0 : Int32) + 1 = 1 by decide]
  refine pv_goto (pc := 21) 4 (by decide) (fm_dec dtX11_ones 16 rfl) ?_
  refine pv_iloadn (pc := 4) (n := 2) 2 rfl rfl (fm_dec dtX11_ones 4 rfl) ?_
  refine pv_bipush (pc := 5) (v := 8) (by decide) (fm_dec dtX11_ones 5 rfl) ?_
  refine pv_icmp_ge (pc := 7) 24 (by decide) (fm_dec dtX11_ones 6 rfl) (fun hc7 => by exfalso; revert hc7; decide) (fun _ => ?_)
  refine pv_iloadn (pc := 10) (n := 1) 1 rfl rfl (fm_dec dtX11_ones 7 rfl) ?_
  refine pv_iloadn (pc := 11) (n := 0) 0 rfl rfl (fm_dec dtX11_ones 8 rfl) ?_
  refine pv_iloadn (pc := 12) (n := 2) 2 rfl rfl (fm_dec dtX11_ones 9 rfl) ?_
  refine pv_ishr (pc := 13) (fm_dec dtX11_ones 10 rfl) ?_
  refine pv_iconst (pc := 14) (v := 1) (by decide) (fm_dec dtX11_ones 11 rfl) ?_
  refine pv_iand (pc := 15) (fm_dec dtX11_ones 12 rfl) ?_
  refine pv_iadd (pc := 16) (fm_dec dtX11_ones 13 rfl) ?_
  refine pv_istoren (pc := 17) (n := 1) 1 rfl (by decide) rfl (fm_dec dtX11_ones 14 rfl) ?_
  dsimp only [List.set_cons_zero, List.set_cons_succ]
  refine pv_iincc (pc := 18) 2 1 (by decide) rfl (by decide) rfl (fm_dec dtX11_ones 15 rfl) ?_
  dsimp only [List.set_cons_zero, List.set_cons_succ]
  rw [show (1 : Int32) + 1 = 2 by decide]
  refine pv_goto (pc := 21) 4 (by decide) (fm_dec dtX11_ones 16 rfl) ?_
  refine pv_iloadn (pc := 4) (n := 2) 2 rfl rfl (fm_dec dtX11_ones 4 rfl) ?_
  refine pv_bipush (pc := 5) (v := 8) (by decide) (fm_dec dtX11_ones 5 rfl) ?_
  refine pv_icmp_ge (pc := 7) 24 (by decide) (fm_dec dtX11_ones 6 rfl) (fun hc7 => by exfalso; revert hc7; decide) (fun _ => ?_)
  refine pv_iloadn (pc := 10) (n := 1) 1 rfl rfl (fm_dec dtX11_ones 7 rfl) ?_
  refine pv_iloadn (pc := 11) (n := 0) 0 rfl rfl (fm_dec dtX11_ones 8 rfl) ?_
  refine pv_iloadn (pc := 12) (n := 2) 2 rfl rfl (fm_dec dtX11_ones 9 rfl) ?_
  refine pv_ishr (pc := 13) (fm_dec dtX11_ones 10 rfl) ?_
  refine pv_iconst (pc := 14) (v := 1) (by decide) (fm_dec dtX11_ones 11 rfl) ?_
  refine pv_iand (pc := 15) (fm_dec dtX11_ones 12 rfl) ?_
  refine pv_iadd (pc := 16) (fm_dec dtX11_ones 13 rfl) ?_
  refine pv_istoren (pc := 17) (n := 1) 1 rfl (by decide) rfl (fm_dec dtX11_ones 14 rfl) ?_
  dsimp only [List.set_cons_zero, List.set_cons_succ]
  refine pv_iincc (pc := 18) 2 1 (by decide) rfl (by decide) rfl (fm_dec dtX11_ones 15 rfl) ?_
  dsimp only [List.set_cons_zero, List.set_cons_succ]
  rw [show (2 : Int32) + 1 = 3 by decide]
  refine pv_goto (pc := 21) 4 (by decide) (fm_dec dtX11_ones 16 rfl) ?_
  refine pv_iloadn (pc := 4) (n := 2) 2 rfl rfl (fm_dec dtX11_ones 4 rfl) ?_
  refine pv_bipush (pc := 5) (v := 8) (by decide) (fm_dec dtX11_ones 5 rfl) ?_
  refine pv_icmp_ge (pc := 7) 24 (by decide) (fm_dec dtX11_ones 6 rfl) (fun hc7 => by exfalso; revert hc7; decide) (fun _ => ?_)
  refine pv_iloadn (pc := 10) (n := 1) 1 rfl rfl (fm_dec dtX11_ones 7 rfl) ?_
  refine pv_iloadn (pc := 11) (n := 0) 0 rfl rfl (fm_dec dtX11_ones 8 rfl) ?_
  refine pv_iloadn (pc := 12) (n := 2) 2 rfl rfl (fm_dec dtX11_ones 9 rfl) ?_
  refine pv_ishr (pc := 13) (fm_dec dtX11_ones 10 rfl) ?_
  refine pv_iconst (pc := 14) (v := 1) (by decide) (fm_dec dtX11_ones 11 rfl) ?_
  refine pv_iand (pc := 15) (fm_dec dtX11_ones 12 rfl) ?_
  refine pv_iadd (pc := 16) (fm_dec dtX11_ones 13 rfl) ?_
  refine pv_istoren (pc := 17) (n := 1) 1 rfl (by decide) rfl (fm_dec dtX11_ones 14 rfl) ?_
  dsimp only [List.set_cons_zero, List.set_cons_succ]
  refine pv_iincc (pc := 18) 2 1 (by decide) rfl (by decide) rfl (fm_dec dtX11_ones 15 rfl) ?_
  dsimp only [List.set_cons_zero, List.set_cons_succ]
  rw [show (3 : Int32) + 1 = 4 by decide]
  refine pv_goto (pc := 21) 4 (by decide) (fm_dec dtX11_ones 16 rfl) ?_
  refine pv_iloadn (pc := 4) (n := 2) 2 rfl rfl (fm_dec dtX11_ones 4 rfl) ?_
  refine pv_bipush (pc := 5) (v := 8) (by decide) (fm_dec dtX11_ones 5 rfl) ?_
  refine pv_icmp_ge (pc := 7) 24 (by decide) (fm_dec dtX11_ones 6 rfl) (fun hc7 => by exfalso; revert hc7; decide) (fun _ => ?_)
  refine pv_iloadn (pc := 10) (n := 1) 1 rfl rfl (fm_dec dtX11_ones 7 rfl) ?_
  refine pv_iloadn (pc := 11) (n := 0) 0 rfl rfl (fm_dec dtX11_ones 8 rfl) ?_
  refine pv_iloadn (pc := 12) (n := 2) 2 rfl rfl (fm_dec dtX11_ones 9 rfl) ?_
  refine pv_ishr (pc := 13) (fm_dec dtX11_ones 10 rfl) ?_
  refine pv_iconst (pc := 14) (v := 1) (by decide) (fm_dec dtX11_ones 11 rfl) ?_
  refine pv_iand (pc := 15) (fm_dec dtX11_ones 12 rfl) ?_
  refine pv_iadd (pc := 16) (fm_dec dtX11_ones 13 rfl) ?_
  refine pv_istoren (pc := 17) (n := 1) 1 rfl (by decide) rfl (fm_dec dtX11_ones 14 rfl) ?_
  dsimp only [List.set_cons_zero, List.set_cons_succ]
  refine pv_iincc (pc := 18) 2 1 (by decide) rfl (by decide) rfl (fm_dec dtX11_ones 15 rfl) ?_
  dsimp only [List.set_cons_zero, List.set_cons_succ]
  rw [show (4 : Int32) + 1 = 5 by decide]
  refine pv_goto (pc := 21) 4 (by decide) (fm_dec dtX11_ones 16 rfl) ?_
  refine pv_iloadn (pc := 4) (n := 2) 2 rfl rfl (fm_dec dtX11_ones 4 rfl) ?_
  refine pv_bipush (pc := 5) (v := 8) (by decide) (fm_dec dtX11_ones 5 rfl) ?_
  refine pv_icmp_ge (pc := 7) 24 (by decide) (fm_dec dtX11_ones 6 rfl) (fun hc7 => by exfalso; revert hc7; decide) (fun _ => ?_)
  refine pv_iloadn (pc := 10) (n := 1) 1 rfl rfl (fm_dec dtX11_ones 7 rfl) ?_
  refine pv_iloadn (pc := 11) (n := 0) 0 rfl rfl (fm_dec dtX11_ones 8 rfl) ?_
  refine pv_iloadn (pc := 12) (n := 2) 2 rfl rfl (fm_dec dtX11_ones 9 rfl) ?_
  refine pv_ishr (pc := 13) (fm_dec dtX11_ones 10 rfl) ?_
  refine pv_iconst (pc := 14) (v := 1) (by decide) (fm_dec dtX11_ones 11 rfl) ?_
  refine pv_iand (pc := 15) (fm_dec dtX11_ones 12 rfl) ?_
  refine pv_iadd (pc := 16) (fm_dec dtX11_ones 13 rfl) ?_
  refine pv_istoren (pc := 17) (n := 1) 1 rfl (by decide) rfl (fm_dec dtX11_ones 14 rfl) ?_
  dsimp only [List.set_cons_zero, List.set_cons_succ]
  refine pv_iincc (pc := 18) 2 1 (by decide) rfl (by decide) rfl (fm_dec dtX11_ones 15 rfl) ?_
  dsimp only [List.set_cons_zero, List.set_cons_succ]
  rw [show (5 : Int32) + 1 = 6 by decide]
  refine pv_goto (pc := 21) 4 (by decide) (fm_dec dtX11_ones 16 rfl) ?_
  refine pv_iloadn (pc := 4) (n := 2) 2 rfl rfl (fm_dec dtX11_ones 4 rfl) ?_
  refine pv_bipush (pc := 5) (v := 8) (by decide) (fm_dec dtX11_ones 5 rfl) ?_
  refine pv_icmp_ge (pc := 7) 24 (by decide) (fm_dec dtX11_ones 6 rfl) (fun hc7 => by exfalso; revert hc7; decide) (fun _ => ?_)
  refine pv_iloadn (pc := 10) (n := 1) 1 rfl rfl (fm_dec dtX11_ones 7 rfl) ?_
  refine pv_iloadn (pc := 11) (n := 0) 0 rfl rfl (fm_dec dtX11_ones 8 rfl) ?_
  refine pv_iloadn (pc := 12) (n := 2) 2 rfl rfl (fm_dec dtX11_ones 9 rfl) ?_
  refine pv_ishr (pc := 13) (fm_dec dtX11_ones 10 rfl) ?_
  refine pv_iconst (pc := 14) (v := 1) (by decide) (fm_dec dtX11_ones 11 rfl) ?_
  refine pv_iand (pc := 15) (fm_dec dtX11_ones 12 rfl) ?_
  refine pv_iadd (pc := 16) (fm_dec dtX11_ones 13 rfl) ?_
  refine pv_istoren (pc := 17) (n := 1) 1 rfl (by decide) rfl (fm_dec dtX11_ones 14 rfl) ?_
  dsimp only [List.set_cons_zero, List.set_cons_succ]
  refine pv_iincc (pc := 18) 2 1 (by decide) rfl (by decide) rfl (fm_dec dtX11_ones 15 rfl) ?_
  dsimp only [List.set_cons_zero, List.set_cons_succ]
  rw [show (6 : Int32) + 1 = 7 by decide]
  refine pv_goto (pc := 21) 4 (by decide) (fm_dec dtX11_ones 16 rfl) ?_
  refine pv_iloadn (pc := 4) (n := 2) 2 rfl rfl (fm_dec dtX11_ones 4 rfl) ?_
  refine pv_bipush (pc := 5) (v := 8) (by decide) (fm_dec dtX11_ones 5 rfl) ?_
  refine pv_icmp_ge (pc := 7) 24 (by decide) (fm_dec dtX11_ones 6 rfl) (fun hc7 => by exfalso; revert hc7; decide) (fun _ => ?_)
  refine pv_iloadn (pc := 10) (n := 1) 1 rfl rfl (fm_dec dtX11_ones 7 rfl) ?_
  refine pv_iloadn (pc := 11) (n := 0) 0 rfl rfl (fm_dec dtX11_ones 8 rfl) ?_
  refine pv_iloadn (pc := 12) (n := 2) 2 rfl rfl (fm_dec dtX11_ones 9 rfl) ?_
  refine pv_ishr (pc := 13) (fm_dec dtX11_ones 10 rfl) ?_
  refine pv_iconst (pc := 14) (v := 1) (by decide) (fm_dec dtX11_ones 11 rfl) ?_
  refine pv_iand (pc := 15) (fm_dec dtX11_ones 12 rfl) ?_
  refine pv_iadd (pc := 16) (fm_dec dtX11_ones 13 rfl) ?_
  refine pv_istoren (pc := 17) (n := 1) 1 rfl (by decide) rfl (fm_dec dtX11_ones 14 rfl) ?_
  dsimp only [List.set_cons_zero, List.set_cons_succ]
  refine pv_iincc (pc := 18) 2 1 (by decide) rfl (by decide) rfl (fm_dec dtX11_ones 15 rfl) ?_
  dsimp only [List.set_cons_zero, List.set_cons_succ]
  rw [show (7 : Int32) + 1 = 8 by decide]
  refine pv_goto (pc := 21) 4 (by decide) (fm_dec dtX11_ones 16 rfl) ?_
  refine pv_iloadn (pc := 4) (n := 2) 2 rfl rfl (fm_dec dtX11_ones 4 rfl) ?_
  refine pv_bipush (pc := 5) (v := 8) (by decide) (fm_dec dtX11_ones 5 rfl) ?_
  refine pv_icmp_ge (pc := 7) 24 (by decide) (fm_dec dtX11_ones 6 rfl) (fun _ => ?_) (fun hc7 => by exfalso; revert hc7; decide)
  refine pv_iloadn (pc := 24) (n := 1) 1 rfl rfl (fm_dec dtX11_ones 17 rfl) ?_
  exact pv_ireturn (pc := 25) rfl (fm_dec dtX11_ones 18 rfl) hq
theorem c_ones8 {M : fmM} {Q : fmR → fmM → Prop} {w : Nat} (hw : w < 256) (hq : Q (.inl (some (.int (nI (pop8 w))))) M) : pvGood Tm 0 qX11_ones [.int (nI w)] M Q := c_onesF (by rw [on8 w hw]; exact hq)
set_option maxRecDepth 20000 in
theorem mc_loop {Q : fmR → fmM → Prop} {M : fmM} {i wh : Int32} {D : dD} (hD : dOk D) (hY : mdw M D) : ∀ (m : Nat) (w l : Nat), w < 256 → 8 - pop8 w = m → l < D.1 → Q (.inl (some (.int (chR (chS (chB D) m w l) wh)))) M → pvEv Tm 2 qX11_chain 59 [some (.ref 0), some (.int i), some (.int wh), some (.int (nI w)), some (.int (nI l))] [] M Q := by
  intro m
  induction m using Nat.strongRecOn with
  | _ m ih =>
    intro w l hw hm hl hq
    have d8 := hD.1
    have hl8 : l < 8 := (by omega)
    have hl9 : (nI l).toInt = (l : Int) := nI_toInt (by omega)
    have hx9 : (M.1 (35 + l) (Int32.toNatClampNeg 5)).toInt = chB D l := hY.2.2.2.1 l hl 5 (by decide)
    have zm : (-1 : Int32).toInt = -1 := (by decide)
    refine pv_aloadn (pc := 59) (n := 0) 0 rfl rfl (fm_dec dtX11_chain 36 rfl) ?_
    refine pv_getR (k := 0) (j := 14) (ci := 11) (pc := 60) 17 rfl (by decide) pfl_X11_31 (by decide) rfl (by decide) (fm_dec dtX11_chain 37 rfl) ?_
    refine pv_iload (pc := 63) (i := 4) rfl (fm_dec dtX11_chain 38 rfl) ?_
    refine pv_aald (k := 17) (n := 8) (r := (35 + l)) (pc := 65) (by decide) (Or.inr (Or.inr rfl)) rfl (rw_life.inb hl9 hl8) (rw_life.at hl9 hl8) (rw_life.2.2.2 _ hl8).2.1 (fm_dec dtX11_chain 39 rfl) ?_
    refine pv_iconst (pc := 66) (v := 5) (by decide) (fm_dec dtX11_chain 40 rfl) ?_
    refine pv_iald (k := (35 + l)) (n := 6) (pc := 67) (rw_life.2.2.2 _ hl8).2.2.1 (rw_life.2.2.2 _ hl8).2.2.2.1 (rw_life.2.2.2 _ hl8).2.2.2.2 (fm_inl (by decide)) (fm_dec dtX11_chain 41 rfl) ?_
    refine pv_iconst (pc := 68) (v := (-1)) (by decide) (fm_dec dtX11_chain 42 rfl) ?_
    refine pv_icmp_eq (pc := 69) 109 (by decide) (fm_dec dtX11_chain 43 rfl) (fun hc69 => ?_) (fun hc69 => ?_)
    · have hn9 : chB D l < 0 := (by have h9 := congrArg Int32.toInt hc69; omega)
      rw [ch_no hn9] at hq
      refine pv_iloadn (pc := 109) (n := 2) 2 rfl rfl (fm_dec dtX11_chain 67 rfl) ?_
      refine pv_if_ne (pc := 110) 120 (by decide) (fm_dec dtX11_chain 68 rfl) (fun hc110 => ?_) (fun hc110 => ?_)
      · refine pv_iload (pc := 120) (i := 4) rfl (fm_dec dtX11_chain 72 rfl) ?_
        exact pv_ireturn (pc := 122) rfl (fm_dec dtX11_chain 73 rfl) (by rw [chR_l hc110] at hq; exact hq)
      · refine pv_iloadn (pc := 113) (n := 3) 3 rfl rfl (fm_dec dtX11_chain 69 rfl) ?_
        refine pv_iS1 (d' := 0) (pc := 114) pcs_X11_416 (Nat.le_of_ble_eq_true rfl) (by decide) (fm_dec dtX11_chain 70 rfl) ?_
        refine c_ones8 hw ?_
        refine pv_then1 ?_
        refine pv_goto (pc := 117) 122 (by decide) (fm_dec dtX11_chain 71 rfl) ?_
        exact pv_ireturn (pc := 122) rfl (fm_dec dtX11_chain 73 rfl) (by rw [chR_s hc110] at hq; exact hq)
    · have hn9 : ¬ chB D l < 0 := (by intro h9; apply hc69; apply i32_ext; have h8 := (hD.2.2.1 l hl).2.2.2.2.2; have e : D.2.1 l 5 = chB D l := rfl; omega)
      obtain ⟨k, hk, hk8, hkb, hkx⟩ := by_d hD hl hx9 hn9
      refine pv_iloadn (pc := 72) (n := 3) 3 rfl rfl (fm_dec dtX11_chain 44 rfl) ?_
      refine pv_aloadn (pc := 73) (n := 0) 0 rfl rfl (fm_dec dtX11_chain 45 rfl) ?_
      refine pv_getR (k := 0) (j := 14) (ci := 11) (pc := 74) 17 rfl (by decide) pfl_X11_31 (by decide) rfl (by decide) (fm_dec dtX11_chain 46 rfl) ?_
      refine pv_iload (pc := 77) (i := 4) rfl (fm_dec dtX11_chain 47 rfl) ?_
      refine pv_aald (k := 17) (n := 8) (r := (35 + l)) (pc := 79) (by decide) (Or.inr (Or.inr rfl)) rfl (rw_life.inb hl9 hl8) (rw_life.at hl9 hl8) (rw_life.2.2.2 _ hl8).2.1 (fm_dec dtX11_chain 48 rfl) ?_
      refine pv_iconst (pc := 80) (v := 5) (by decide) (fm_dec dtX11_chain 49 rfl) ?_
      refine pv_iald (k := (35 + l)) (n := 6) (pc := 81) (rw_life.2.2.2 _ hl8).2.2.1 (rw_life.2.2.2 _ hl8).2.2.2.1 (rw_life.2.2.2 _ hl8).2.2.2.2 (fm_inl (by decide)) (fm_dec dtX11_chain 50 rfl) ?_
      refine pv_iS2 (d' := 0) (pc := 82) pcs_X11_256 (Nat.le_of_ble_eq_true rfl) (by decide) (fm_dec dtX11_chain 51 rfl) ?_
      refine c_has (fun h82 => ?_) (fun h82 => ?_)
      · refine pv_then1 ?_
        refine pv_if_ne (pc := 85) 109 (by decide) (fm_dec dtX11_chain 52 rfl) (fun _ => ?_) (fun hc85 => by exfalso; revert hc85; decide)
        have ht : w.testBit k = true := (has8 w hw k hk8).mp (by rw [← hkx]; exact h82)
        rw [ch_has hkb ht] at hq
        refine pv_iloadn (pc := 109) (n := 2) 2 rfl rfl (fm_dec dtX11_chain 67 rfl) ?_
        refine pv_if_ne (pc := 110) 120 (by decide) (fm_dec dtX11_chain 68 rfl) (fun hc110 => ?_) (fun hc110 => ?_)
        · refine pv_iload (pc := 120) (i := 4) rfl (fm_dec dtX11_chain 72 rfl) ?_
          exact pv_ireturn (pc := 122) rfl (fm_dec dtX11_chain 73 rfl) (by rw [chR_l hc110] at hq; exact hq)
        · refine pv_iloadn (pc := 113) (n := 3) 3 rfl rfl (fm_dec dtX11_chain 69 rfl) ?_
          refine pv_iS1 (d' := 0) (pc := 114) pcs_X11_416 (Nat.le_of_ble_eq_true rfl) (by decide) (fm_dec dtX11_chain 70 rfl) ?_
          refine c_ones8 hw ?_
          refine pv_then1 ?_
          refine pv_goto (pc := 117) 122 (by decide) (fm_dec dtX11_chain 71 rfl) ?_
          exact pv_ireturn (pc := 122) rfl (fm_dec dtX11_chain 73 rfl) (by rw [chR_s hc110] at hq; exact hq)
      · refine pv_then1 ?_
        refine pv_if_ne (pc := 85) 109 (by decide) (fm_dec dtX11_chain 52 rfl) (fun hc85 => by exfalso; revert hc85; decide) (fun _ => ?_)
        refine pv_aloadn (pc := 88) (n := 0) 0 rfl rfl (fm_dec dtX11_chain 53 rfl) ?_
        refine pv_getR (k := 0) (j := 14) (ci := 11) (pc := 89) 17 rfl (by decide) pfl_X11_31 (by decide) rfl (by decide) (fm_dec dtX11_chain 54 rfl) ?_
        refine pv_iload (pc := 92) (i := 4) rfl (fm_dec dtX11_chain 55 rfl) ?_
        refine pv_aald (k := 17) (n := 8) (r := (35 + l)) (pc := 94) (by decide) (Or.inr (Or.inr rfl)) rfl (rw_life.inb hl9 hl8) (rw_life.at hl9 hl8) (rw_life.2.2.2 _ hl8).2.1 (fm_dec dtX11_chain 56 rfl) ?_
        refine pv_iconst (pc := 95) (v := 5) (by decide) (fm_dec dtX11_chain 57 rfl) ?_
        refine pv_iald (k := (35 + l)) (n := 6) (pc := 96) (rw_life.2.2.2 _ hl8).2.2.1 (rw_life.2.2.2 _ hl8).2.2.2.1 (rw_life.2.2.2 _ hl8).2.2.2.2 (fm_inl (by decide)) (fm_dec dtX11_chain 58 rfl) ?_
        refine pv_istore (pc := 97) (i := 4) (by decide) rfl (fm_dec dtX11_chain 59 rfl) ?_
        dsimp only [List.set_cons_zero, List.set_cons_succ]
        refine pv_iloadn (pc := 99) (n := 3) 3 rfl rfl (fm_dec dtX11_chain 60 rfl) ?_
        refine pv_iconst (pc := 100) (v := 1) (by decide) (fm_dec dtX11_chain 61 rfl) ?_
        refine pv_iload (pc := 101) (i := 4) rfl (fm_dec dtX11_chain 62 rfl) ?_
        refine pv_ishl (pc := 103) (fm_dec dtX11_chain 63 rfl) ?_
        refine pv_ior (pc := 104) (fm_dec dtX11_chain 64 rfl) ?_
        refine pv_istoren (pc := 105) (n := 3) 3 rfl (by decide) rfl (fm_dec dtX11_chain 65 rfl) ?_
        dsimp only [List.set_cons_zero, List.set_cons_succ]
        refine pv_goto (pc := 106) 59 (by decide) (fm_dec dtX11_chain 66 rfl) ?_
        have ht : w.testBit k = false := Bool.eq_false_iff.mpr (fun h9 => h82 (by rw [hkx]; exact (has8 w hw k hk8).mpr h9))
        have hp := pop8_add w hw k hk8 ht
        have hle := pop8_le _ hp.2
        obtain ⟨f, rfl⟩ : ∃ f, m = f + 1 := ⟨m - 1, by omega⟩
        rw [ch_go hkb ht] at hq
        rw [hkx, or8 w hw k hk8]
        exact ih f (by omega) (w ||| 1 <<< k) k hp.2 (by omega) hk hq
set_option maxRecDepth 20000 in
theorem c_mchain {M : fmM} {Q : fmR → fmM → Prop} {i p : Int32} {D : dD} (hD : dOk D) (hY : mdw M D) (h1 : ¬ inL D i → ∀ (x : Int32) (M' : fmM), M'.1 0 0 = 1 → Q (.inl (some (.int x))) M') (h2 : inL D i → ¬ inW p 0 1 → ∀ (x : Int32) (M' : fmM), M'.1 0 0 = 2 → Q (.inl (some (.int x))) M') (hq : inL D i → inW p 0 1 → Q (.inl (some (.int (chV D i p)))) (fmI M 0 0 0)) : pvGood Tm 2 qX11_chain [.ref 0, .int i, .int p] M Q := by
  refine pvGood_of (Nat.le_of_ble_eq_true rfl) ?_
  show pvEv Tm 2 qX11_chain 0 [some (.ref 0), some (.int i), some (.int p), none, none] [] M Q
  have h4 : (M.1 4 0).toInt = (D.1 : Int) := hY.1
  have hl := hD.1
  refine pv_aloadn (pc := 0) (n := 0) 0 rfl rfl (fm_dec dtX11_chain 0 rfl) ?_
  refine pv_iconst (pc := 1) (v := 0) (by decide) (fm_dec dtX11_chain 1 rfl) ?_
  refine pv_putI (k := 0) (j := 0) (ci := 11) (pc := 2) pfl_X11_101 (by decide) rfl (by decide) (fm_dec dtX11_chain 2 rfl) ?_
  refine pv_aloadn (pc := 5) (n := 0) 0 rfl rfl (fm_dec dtX11_chain 3 rfl) ?_
  refine pv_aloadn (pc := 6) (n := 0) 0 rfl rfl (fm_dec dtX11_chain 4 rfl) ?_
  refine pv_iloadn (pc := 7) (n := 1) 1 rfl rfl (fm_dec dtX11_chain 5 rfl) ?_
  refine pv_invV1 (k := 0) (d' := 1) (pc := 8) pcv_X11_331 (by decide) rfl (Nat.le_of_ble_eq_true rfl) (by decide) (fm_dec dtX11_chain 6 rfl) ?_
  refine c_isLife (M := fmI M 0 0 0) h4 hl (fun k hk hkl => ?_) (fun hno => ?_)
  · refine pv_then1 ?_
    refine pv_if_ne (pc := 11) 18 (by decide) (fm_dec dtX11_chain 7 rfl) (fun _ => ?_) (fun hc11 => by exfalso; revert hc11; decide)
    refine pv_iconst (pc := 18) (v := 0) (by decide) (fm_dec dtX11_chain 10 rfl) ?_
    refine pv_iconst (pc := 19) (v := 1) (by decide) (fm_dec dtX11_chain 11 rfl) ?_
    refine pv_iconst (pc := 20) (v := 0) (by decide) (fm_dec dtX11_chain 12 rfl) ?_
    refine pv_invV3 (k := 0) (d' := 0) (pc := 21) pcv_X11_177 (by decide) rfl (Nat.le_of_ble_eq_true rfl) (by decide) (fm_dec dtX11_chain 13 rfl) ?_
    refine c_badF0 rfl ?_
    refine pv_then1 ?_
    refine pv_if_ne (pc := 24) 50 (by decide) (fm_dec dtX11_chain 14 rfl) (fun hc24 => by exfalso; revert hc24; decide) (fun _ => ?_)
    refine pv_aloadn (pc := 27) (n := 0) 0 rfl rfl (fm_dec dtX11_chain 15 rfl) ?_
    refine pv_iloadn (pc := 28) (n := 2) 2 rfl rfl (fm_dec dtX11_chain 16 rfl) ?_
    refine pv_iconst (pc := 29) (v := 0) (by decide) (fm_dec dtX11_chain 17 rfl) ?_
    refine pv_iconst (pc := 30) (v := 1) (by decide) (fm_dec dtX11_chain 18 rfl) ?_
    refine pv_iS3 (d' := 0) (pc := 31) pcs_X11_135 (Nat.le_of_ble_eq_true rfl) (by decide) (fm_dec dtX11_chain 19 rfl) ?_
    refine c_in (fun h31a h31b => ?_) (fun h31 => ?_)
    · refine pv_then1 ?_
      refine pv_if_ne (pc := 34) 41 (by decide) (fm_dec dtX11_chain 20 rfl) (fun _ => ?_) (fun hc34 => by exfalso; revert hc34; decide)
      refine pv_iconst (pc := 41) (v := 0) (by decide) (fm_dec dtX11_chain 23 rfl) ?_
      refine pv_iconst (pc := 42) (v := 2) (by decide) (fm_dec dtX11_chain 24 rfl) ?_
      refine pv_iconst (pc := 43) (v := 1) (by decide) (fm_dec dtX11_chain 25 rfl) ?_
      refine pv_invV3 (k := 0) (d' := 0) (pc := 44) pcv_X11_177 (by decide) rfl (Nat.le_of_ble_eq_true rfl) (by decide) (fm_dec dtX11_chain 26 rfl) ?_
      refine c_badF1 rfl ?_
      refine pv_then1 ?_
      refine pv_if_eq (pc := 47) 52 (by decide) (fm_dec dtX11_chain 27 rfl) (fun _ => ?_) (fun hc47 => by exfalso; revert hc47; decide)
      refine pv_iconst (pc := 52) (v := 1) (by decide) (fm_dec dtX11_chain 30 rfl) ?_
      refine pv_iloadn (pc := 53) (n := 1) 1 rfl rfl (fm_dec dtX11_chain 31 rfl) ?_
      refine pv_ishl (pc := 54) (fm_dec dtX11_chain 32 rfl) ?_
      refine pv_istoren (pc := 55) (n := 3) 3 rfl (by decide) rfl (fm_dec dtX11_chain 33 rfl) ?_
      dsimp only [List.set_cons_zero, List.set_cons_succ]
      refine pv_iloadn (pc := 56) (n := 1) 1 rfl rfl (fm_dec dtX11_chain 34 rfl) ?_
      refine pv_istore (pc := 57) (i := 4) (by decide) rfl (fm_dec dtX11_chain 35 rfl) ?_
      dsimp only [List.set_cons_zero, List.set_cons_succ]
      have hn : inL D i := ⟨by omega, by omega⟩
      have ek : i.toInt.toNat = k := (by omega)
      have q9 := hq hn ⟨h31a, h31b⟩
      unfold chV at q9
      rw [ek] at q9
      have hi9 : i = nI k := nI_is hk (by omega)
      subst hi9
      rw [(one8 k (by omega)).1]
      exact mc_loop hD (M := fmI M 0 0 0) ⟨hY.1, hY.2.1, hY.2.2.1, fun i hi j hj => (by rw [fmI_k _ _ (by omega)]; exact hY.2.2.2.1 i hi j hj), fun i hi j hj => (by rw [fmI_k _ _ (by omega)]; exact hY.2.2.2.2 i hi j hj)⟩ 7 (1 <<< k) k (one8 k (by omega)).2 (by rw [pop8_1 k (by omega)]) (by omega) q9
    · refine pv_then1 ?_
      refine pv_if_ne (pc := 34) 41 (by decide) (fm_dec dtX11_chain 20 rfl) (fun hc34 => by exfalso; revert hc34; decide) (fun _ => ?_)
      refine pv_iconst (pc := 37) (v := 1) (by decide) (fm_dec dtX11_chain 21 rfl) ?_
      refine pv_goto (pc := 38) 42 (by decide) (fm_dec dtX11_chain 22 rfl) ?_
      refine pv_iconst (pc := 42) (v := 2) (by decide) (fm_dec dtX11_chain 24 rfl) ?_
      refine pv_iconst (pc := 43) (v := 1) (by decide) (fm_dec dtX11_chain 25 rfl) ?_
      refine pv_invV3 (k := 0) (d' := 0) (pc := 44) pcv_X11_177 (by decide) rfl (Nat.le_of_ble_eq_true rfl) (by decide) (fm_dec dtX11_chain 26 rfl) ?_
      refine c_badT1 rfl (by decide) ?_
      refine pv_then1 ?_
      refine pv_if_eq (pc := 47) 52 (by decide) (fm_dec dtX11_chain 27 rfl) (fun hc47 => by exfalso; revert hc47; decide) (fun _ => ?_)
      refine pv_iconst (pc := 50) (v := 0) (by decide) (fm_dec dtX11_chain 28 rfl) ?_
      exact pv_ireturn (pc := 51) rfl (fm_dec dtX11_chain 29 rfl) (h2 ⟨by omega, by omega⟩ h31 _ _ rfl)
  · refine pv_then1 ?_
    refine pv_if_ne (pc := 11) 18 (by decide) (fm_dec dtX11_chain 7 rfl) (fun hc11 => by exfalso; revert hc11; decide) (fun _ => ?_)
    refine pv_iconst (pc := 14) (v := 1) (by decide) (fm_dec dtX11_chain 8 rfl) ?_
    refine pv_goto (pc := 15) 19 (by decide) (fm_dec dtX11_chain 9 rfl) ?_
    refine pv_iconst (pc := 19) (v := 1) (by decide) (fm_dec dtX11_chain 11 rfl) ?_
    refine pv_iconst (pc := 20) (v := 0) (by decide) (fm_dec dtX11_chain 12 rfl) ?_
    refine pv_invV3 (k := 0) (d' := 0) (pc := 21) pcv_X11_177 (by decide) rfl (Nat.le_of_ble_eq_true rfl) (by decide) (fm_dec dtX11_chain 13 rfl) ?_
    refine c_badT0 rfl (by decide) ?_
    refine pv_then1 ?_
    refine pv_if_ne (pc := 24) 50 (by decide) (fm_dec dtX11_chain 14 rfl) (fun _ => ?_) (fun hc24 => by exfalso; revert hc24; decide)
    refine pv_iconst (pc := 50) (v := 0) (by decide) (fm_dec dtX11_chain 28 rfl) ?_
    exact pv_ireturn (pc := 51) rfl (fm_dec dtX11_chain 29 rfl) (h1 hno _ _ rfl)
theorem xe_chain {M : fmM} {a0 a1 : Int32} {D : dD} (hD : dOk D) (hX : xdw 3 M D) : pvGood Tx 250 qX10_chain [.ref 0, .int a0, .int a1] M (fun r _ => (inL D a0 ∧ inW a1 0 1 ∧ r = .inl (some (.int (chV D a0 a1)))) ∨ (¬ inL D a0 ∧ r = .inr fmNSE) ∨ (inL D a0 ∧ ¬ inW a1 0 1 ∧ r = .inr fmIAE)) := (c_xchain hD hX (fun h => Or.inr (Or.inl ⟨h, rfl⟩)) (fun h h' => Or.inr (Or.inr ⟨h, h', rfl⟩)) (fun h h' => Or.inl ⟨h, h', rfl⟩)).up (by decide)
theorem me_chain {M : fmM} {a0 a1 : Int32} {D : dD} (hD : dOk D) (hY : mdw M D) : pvGood Tm 250 qX11_chain [.ref 0, .int a0, .int a1] M (fun r M' => (inL D a0 ∧ inW a1 0 1 ∧ r = .inl (some (.int (chV D a0 a1))) ∧ M'.1 0 0 = 0) ∨ (¬ inL D a0 ∧ M'.1 0 0 = 1) ∨ (inL D a0 ∧ ¬ inW a1 0 1 ∧ M'.1 0 0 = 2)) := (c_mchain hD hY (fun h x M' e => Or.inr (Or.inl ⟨h, e⟩)) (fun h h' x M' e => Or.inr (Or.inr ⟨h, h', e⟩)) (fun h h' => Or.inl ⟨h, h', rfl, rfl⟩)).up (by decide)
end
