-- THE REFERENCE ON A FRESH OBJECT
set_option maxRecDepth 20000 in
theorem d_in {l : Launch} {G : fmG} {M : fmM} {Q : fmR → fmM → Prop} (hst : l.stackTraces = false) (v lo hi : Int32) (hq : inR v lo hi → Q (.inl (some (.int 1))) M) (hn : ¬ inR v lo hi → Q (.inl (some (.int 0))) M) : fmGood Tm l G 0 qX11_in [.int v, .int lo, .int hi] M Q := by
  refine fmGood_of hst (by decide +kernel) (Nat.le_of_ble_eq_true rfl) ?_
  show fmEv Tm l G 0 qX11_in 0 [some (.int v), some (.int lo), some (.int hi)] [] M Q
  refine fm_iloadn (pc := 0) (n := 0) 0 rfl rfl (fm_dec dtX11_in 0 rfl) ?_
  refine fm_iloadn (pc := 1) (n := 1) 1 rfl rfl (fm_dec dtX11_in 1 rfl) ?_
  refine fm_icmp_lt (pc := 2) 14 (by decide) (fm_dec dtX11_in 2 rfl) (fun hc2 => ?_) (fun hc2 => ?_)
  · refine fm_iconst (pc := 14) (v := 0) (by decide) (fm_dec dtX11_in 8 rfl) ?_
    exact fm_zreturn (pc := 15) rfl rfl (fm_dec dtX11_in 9 rfl) (by first | exact hq ⟨i32_nlt (i32_le_lt hc2), i32_le_lt hc7⟩ | exact hn (fun h => h.1 hc2) | exact hn (fun h => i32_nlt h.2 hc7))
  · refine fm_iloadn (pc := 5) (n := 0) 0 rfl rfl (fm_dec dtX11_in 3 rfl) ?_
    refine fm_iloadn (pc := 6) (n := 2) 2 rfl rfl (fm_dec dtX11_in 4 rfl) ?_
    refine fm_icmp_gt (pc := 7) 14 (by decide) (fm_dec dtX11_in 5 rfl) (fun hc7 => ?_) (fun hc7 => ?_)
    · refine fm_iconst (pc := 14) (v := 0) (by decide) (fm_dec dtX11_in 8 rfl) ?_
      exact fm_zreturn (pc := 15) rfl rfl (fm_dec dtX11_in 9 rfl) (by first | exact hq ⟨i32_nlt (i32_le_lt hc2), i32_le_lt hc7⟩ | exact hn (fun h => h.1 hc2) | exact hn (fun h => i32_nlt h.2 hc7))
    · refine fm_iconst (pc := 10) (v := 1) (by decide) (fm_dec dtX11_in 6 rfl) ?_
      refine fm_goto (pc := 11) 15 (by decide) (fm_dec dtX11_in 7 rfl) ?_
      exact fm_zreturn (pc := 15) rfl rfl (fm_dec dtX11_in 9 rfl) (by first | exact hq ⟨i32_nlt (i32_le_lt hc2), i32_le_lt hc7⟩ | exact hn (fun h => h.1 hc2) | exact hn (fun h => i32_nlt h.2 hc7))

set_option maxRecDepth 20000 in
theorem d_less {l : Launch} {G : fmG} {M : fmM} {Q : fmR → fmM → Prop} (hst : l.stackTraces = false) (a b : Int32) (hq : Q (.inl (some (.int (if a < b then a else b)))) M) : fmGood Tm l G 0 qX11_less [.int a, .int b] M Q := by
  refine fmGood_of hst (by decide +kernel) (Nat.le_of_ble_eq_true rfl) ?_
  show fmEv Tm l G 0 qX11_less 0 [some (.int a), some (.int b)] [] M Q
  refine fm_iloadn (pc := 0) (n := 0) 0 rfl rfl (fm_dec dtX11_less 0 rfl) ?_
  refine fm_iloadn (pc := 1) (n := 1) 1 rfl rfl (fm_dec dtX11_less 1 rfl) ?_
  refine fm_icmp_ge (pc := 2) 9 (by decide) (fm_dec dtX11_less 2 rfl) (fun hc2 => ?_) (fun hc2 => ?_)
  · refine fm_iloadn (pc := 9) (n := 1) 1 rfl rfl (fm_dec dtX11_less 5 rfl) ?_
    exact fm_ireturn (pc := 10) rfl (fm_dec dtX11_less 6 rfl) (by first | (rw [if_pos (i32_nle hc2)] at hq; exact hq) | (rw [if_neg (i32_nlt hc2)] at hq; exact hq))
  · refine fm_iloadn (pc := 5) (n := 0) 0 rfl rfl (fm_dec dtX11_less 3 rfl) ?_
    refine fm_goto (pc := 6) 10 (by decide) (fm_dec dtX11_less 4 rfl) ?_
    exact fm_ireturn (pc := 10) rfl (fm_dec dtX11_less 6 rfl) (by first | (rw [if_pos (i32_nle hc2)] at hq; exact hq) | (rw [if_neg (i32_nlt hc2)] at hq; exact hq))

set_option maxRecDepth 20000 in
theorem d_more {l : Launch} {G : fmG} {M : fmM} {Q : fmR → fmM → Prop} (hst : l.stackTraces = false) (a b : Int32) (hq : Q (.inl (some (.int (if b < a then a else b)))) M) : fmGood Tm l G 0 qX11_more [.int a, .int b] M Q := by
  refine fmGood_of hst (by decide +kernel) (Nat.le_of_ble_eq_true rfl) ?_
  show fmEv Tm l G 0 qX11_more 0 [some (.int a), some (.int b)] [] M Q
  refine fm_iloadn (pc := 0) (n := 0) 0 rfl rfl (fm_dec dtX11_more 0 rfl) ?_
  refine fm_iloadn (pc := 1) (n := 1) 1 rfl rfl (fm_dec dtX11_more 1 rfl) ?_
  refine fm_icmp_le (pc := 2) 9 (by decide) (fm_dec dtX11_more 2 rfl) (fun hc2 => ?_) (fun hc2 => ?_)
  · refine fm_iloadn (pc := 9) (n := 1) 1 rfl rfl (fm_dec dtX11_more 5 rfl) ?_
    exact fm_ireturn (pc := 10) rfl (fm_dec dtX11_more 6 rfl) (by first | (rw [if_pos (i32_nle hc2)] at hq; exact hq) | (rw [if_neg (i32_nlt hc2)] at hq; exact hq))
  · refine fm_iloadn (pc := 5) (n := 0) 0 rfl rfl (fm_dec dtX11_more 3 rfl) ?_
    refine fm_goto (pc := 6) 10 (by decide) (fm_dec dtX11_more 4 rfl) ?_
    exact fm_ireturn (pc := 10) rfl (fm_dec dtX11_more 6 rfl) (by first | (rw [if_pos (i32_nle hc2)] at hq; exact hq) | (rw [if_neg (i32_nlt hc2)] at hq; exact hq))

set_option maxRecDepth 20000 in
theorem d_bad0 {l : Launch} {G : fmG} {M : fmM} {Q : fmR → fmM → Prop} (hst : l.stackTraces = false) (w r : Int32) (h0 : M.1 0 0 = 0) (hq : Q (.inl (some (.int 0))) M) : fmGood Tm l G 0 qX11_bad [.ref (G.1 0), .int 0, .int w, .int r] M Q := by
  refine fmGood_of hst (by decide +kernel) (Nat.le_of_ble_eq_true rfl) ?_
  show fmEv Tm l G 0 qX11_bad 0 [some (.ref (G.1 0)), some (.int 0), some (.int w), some (.int r)] [] M Q
  refine fm_iloadn (pc := 0) (n := 1) 1 rfl rfl (fm_dec dtX11_bad 0 rfl) ?_
  refine fm_if_eq (pc := 1) 26 (by decide) (fm_dec dtX11_bad 1 rfl) (fun _ => ?_) (fun hc1 => by exfalso; revert hc1; decide)
  refine fm_aloadn (pc := 26) (n := 0) 0 rfl rfl (fm_dec dtX11_bad 16 rfl) ?_
  refine fm_getI (k := 0) (j := 0) (ci := 11) (pc := 27) fl_X11_101 (by decide) rfl (by decide) rfl (fm_dec dtX11_bad 17 rfl) ?_
  refine fm_if_eq (pc := 30) 37 (by decide) (fm_dec dtX11_bad 18 rfl) (fun _ => ?_) (fun hc30 => by exfalso; exact hc30 h0)
  refine fm_iconst (pc := 37) (v := 0) (by decide) (fm_dec dtX11_bad 21 rfl) ?_
  exact fm_zreturn (pc := 38) rfl rfl (fm_dec dtX11_bad 22 rfl) hq

set_option maxRecDepth 20000 in
theorem d_bad1_0 {l : Launch} {G : fmG} {M : fmM} {Q : fmR → fmM → Prop} (hst : l.stackTraces = false) (w : Int32) (h0 : M.1 0 0 = 0) (hw : w ≠ 0) (hq : ∀ M', M'.1 0 0 = w → Q (.inl (some (.int 1))) M') : fmGood Tm l G 0 qX11_bad [.ref (G.1 0), .int 1, .int w, .int 0] M Q := by
  refine fmGood_of hst (by decide +kernel) (Nat.le_of_ble_eq_true rfl) ?_
  show fmEv Tm l G 0 qX11_bad 0 [some (.ref (G.1 0)), some (.int 1), some (.int w), some (.int 0)] [] M Q
  refine fm_iloadn (pc := 0) (n := 1) 1 rfl rfl (fm_dec dtX11_bad 0 rfl) ?_
  refine fm_if_eq (pc := 1) 26 (by decide) (fm_dec dtX11_bad 1 rfl) (fun hc1 => by exfalso; revert hc1; decide) (fun _ => ?_)
  refine fm_aloadn (pc := 4) (n := 0) 0 rfl rfl (fm_dec dtX11_bad 2 rfl) ?_
  refine fm_getI (k := 0) (j := 0) (ci := 11) (pc := 5) fl_X11_101 (by decide) rfl (by decide) rfl (fm_dec dtX11_bad 3 rfl) ?_
  refine fm_if_ne (pc := 8) 26 (by decide) (fm_dec dtX11_bad 4 rfl) (fun hc8 => by exfalso; exact hc8 h0) (fun _ => ?_)
  refine fm_aloadn (pc := 11) (n := 0) 0 rfl rfl (fm_dec dtX11_bad 5 rfl) ?_
  refine fm_iloadn (pc := 12) (n := 2) 2 rfl rfl (fm_dec dtX11_bad 6 rfl) ?_
  refine fm_putI (k := 0) (j := 0) (ci := 11) (pc := 13) fl_X11_101 (by decide) rfl (by decide) rfl rfl (fm_dec dtX11_bad 7 rfl) ?_
  refine fm_aloadn (pc := 16) (n := 0) 0 rfl rfl (fm_dec dtX11_bad 8 rfl) ?_
  refine fm_getR (k := 0) (j := 10) (ci := 11) (pc := 17) 2 rfl fl_X11_17 (by decide) rfl (by decide) (by decide) (fm_dec dtX11_bad 9 rfl) ?_
  refine fm_iloadn (pc := 20) (n := 3) 3 rfl rfl (fm_dec dtX11_bad 10 rfl) ?_
  refine fm_dup2 (pc := 21) rfl rfl (fm_dec dtX11_bad 11 rfl) ?_
  refine fm_iald (k := 2) (n := 2) (pc := 22) (by decide) rfl rfl (fm_inl (by decide)) (fm_dec dtX11_bad 12 rfl) ?_
  refine fm_iconst (pc := 23) (v := 1) (by decide) (fm_dec dtX11_bad 13 rfl) ?_
  refine fm_iadd (pc := 24) (fm_dec dtX11_bad 14 rfl) ?_
  refine fm_iast (k := 2) (n := 2) (pc := 25) (by decide) rfl rfl (fm_inl (by decide)) (fm_dec dtX11_bad 15 rfl) ?_
  refine fm_aloadn (pc := 26) (n := 0) 0 rfl rfl (fm_dec dtX11_bad 16 rfl) ?_
  refine fm_getI (k := 0) (j := 0) (ci := 11) (pc := 27) fl_X11_101 (by decide) rfl (by decide) rfl (fm_dec dtX11_bad 17 rfl) ?_
  refine fm_if_eq (pc := 30) 37 (by decide) (fm_dec dtX11_bad 18 rfl) (fun hc30 => by exfalso; exact hw (by simpa [fmI, upd] using hc30)) (fun _ => ?_)
  refine fm_iconst (pc := 33) (v := 1) (by decide) (fm_dec dtX11_bad 19 rfl) ?_
  refine fm_goto (pc := 34) 38 (by decide) (fm_dec dtX11_bad 20 rfl) ?_
  exact fm_zreturn (pc := 38) rfl rfl (fm_dec dtX11_bad 22 rfl) (hq _ (by simp [fmI, upd]))

set_option maxRecDepth 20000 in
theorem d_bad1_1 {l : Launch} {G : fmG} {M : fmM} {Q : fmR → fmM → Prop} (hst : l.stackTraces = false) (w : Int32) (h0 : M.1 0 0 = 0) (hw : w ≠ 0) (hq : ∀ M', M'.1 0 0 = w → Q (.inl (some (.int 1))) M') : fmGood Tm l G 0 qX11_bad [.ref (G.1 0), .int 1, .int w, .int 1] M Q := by
  refine fmGood_of hst (by decide +kernel) (Nat.le_of_ble_eq_true rfl) ?_
  show fmEv Tm l G 0 qX11_bad 0 [some (.ref (G.1 0)), some (.int 1), some (.int w), some (.int 1)] [] M Q
  refine fm_iloadn (pc := 0) (n := 1) 1 rfl rfl (fm_dec dtX11_bad 0 rfl) ?_
  refine fm_if_eq (pc := 1) 26 (by decide) (fm_dec dtX11_bad 1 rfl) (fun hc1 => by exfalso; revert hc1; decide) (fun _ => ?_)
  refine fm_aloadn (pc := 4) (n := 0) 0 rfl rfl (fm_dec dtX11_bad 2 rfl) ?_
  refine fm_getI (k := 0) (j := 0) (ci := 11) (pc := 5) fl_X11_101 (by decide) rfl (by decide) rfl (fm_dec dtX11_bad 3 rfl) ?_
  refine fm_if_ne (pc := 8) 26 (by decide) (fm_dec dtX11_bad 4 rfl) (fun hc8 => by exfalso; exact hc8 h0) (fun _ => ?_)
  refine fm_aloadn (pc := 11) (n := 0) 0 rfl rfl (fm_dec dtX11_bad 5 rfl) ?_
  refine fm_iloadn (pc := 12) (n := 2) 2 rfl rfl (fm_dec dtX11_bad 6 rfl) ?_
  refine fm_putI (k := 0) (j := 0) (ci := 11) (pc := 13) fl_X11_101 (by decide) rfl (by decide) rfl rfl (fm_dec dtX11_bad 7 rfl) ?_
  refine fm_aloadn (pc := 16) (n := 0) 0 rfl rfl (fm_dec dtX11_bad 8 rfl) ?_
  refine fm_getR (k := 0) (j := 10) (ci := 11) (pc := 17) 2 rfl fl_X11_17 (by decide) rfl (by decide) (by decide) (fm_dec dtX11_bad 9 rfl) ?_
  refine fm_iloadn (pc := 20) (n := 3) 3 rfl rfl (fm_dec dtX11_bad 10 rfl) ?_
  refine fm_dup2 (pc := 21) rfl rfl (fm_dec dtX11_bad 11 rfl) ?_
  refine fm_iald (k := 2) (n := 2) (pc := 22) (by decide) rfl rfl (fm_inl (by decide)) (fm_dec dtX11_bad 12 rfl) ?_
  refine fm_iconst (pc := 23) (v := 1) (by decide) (fm_dec dtX11_bad 13 rfl) ?_
  refine fm_iadd (pc := 24) (fm_dec dtX11_bad 14 rfl) ?_
  refine fm_iast (k := 2) (n := 2) (pc := 25) (by decide) rfl rfl (fm_inl (by decide)) (fm_dec dtX11_bad 15 rfl) ?_
  refine fm_aloadn (pc := 26) (n := 0) 0 rfl rfl (fm_dec dtX11_bad 16 rfl) ?_
  refine fm_getI (k := 0) (j := 0) (ci := 11) (pc := 27) fl_X11_101 (by decide) rfl (by decide) rfl (fm_dec dtX11_bad 17 rfl) ?_
  refine fm_if_eq (pc := 30) 37 (by decide) (fm_dec dtX11_bad 18 rfl) (fun hc30 => by exfalso; exact hw (by simpa [fmI, upd] using hc30)) (fun _ => ?_)
  refine fm_iconst (pc := 33) (v := 1) (by decide) (fm_dec dtX11_bad 19 rfl) ?_
  refine fm_goto (pc := 34) 38 (by decide) (fm_dec dtX11_bad 20 rfl) ?_
  exact fm_zreturn (pc := 38) rfl rfl (fm_dec dtX11_bad 22 rfl) (hq _ (by simp [fmI, upd]))

set_option maxRecDepth 20000 in
theorem d_noPart {l : Launch} {G : fmG} {M : fmM} {Q : fmR → fmM → Prop} (hst : l.stackTraces = false) (p w : Int32) (h0 : M.1 0 0 = 0) (hw : w ≠ 0) (hq : inR p 0 1 → Q (.inl (some (.int 0))) M) (hx : ∀ M', M'.1 0 0 = w → ¬ inR p 0 1 → Q (.inl (some (.int 1))) M') : fmGood Tm l G 1 qX11_noPart [.ref (G.1 0), .int p, .int w] M Q := by
  refine fmGood_of hst (by decide +kernel) (Nat.le_of_ble_eq_true rfl) ?_
  show fmEv Tm l G 1 qX11_noPart 0 [some (.ref (G.1 0)), some (.int p), some (.int w)] [] M Q
  refine fm_aloadn (pc := 0) (n := 0) 0 rfl rfl (fm_dec dtX11_noPart 0 rfl) ?_
  refine fm_iloadn (pc := 1) (n := 1) 1 rfl rfl (fm_dec dtX11_noPart 1 rfl) ?_
  refine fm_iconst (pc := 2) (v := 0) (by decide) (fm_dec dtX11_noPart 2 rfl) ?_
  refine fm_iconst (pc := 3) (v := 1) (by decide) (fm_dec dtX11_noPart 3 rfl) ?_
  refine fm_invS3 (d' := 0) (pc := 4) cs_X11_135 (Nat.le_of_ble_eq_true rfl) (by decide) (fm_dec dtX11_noPart 4 rfl) ?_
  refine d_in hst _ _ _ (fun hi4 => ?_) (fun hn4 => ?_)
  · refine fm_then1 ?_
    refine fm_if_ne (pc := 7) 14 (by decide) (fm_dec dtX11_noPart 5 rfl) (fun _ => ?_) (fun hc7 => by exfalso; revert hc7; decide)
    refine fm_iconst (pc := 14) (v := 0) (by decide) (fm_dec dtX11_noPart 8 rfl) ?_
    refine fm_iloadn (pc := 15) (n := 2) 2 rfl rfl (fm_dec dtX11_noPart 9 rfl) ?_
    refine fm_iconst (pc := 16) (v := 1) (by decide) (fm_dec dtX11_noPart 10 rfl) ?_
    refine fm_invV3 (k := 0) (d' := 0) (pc := 17) cv_X11_177 (by decide) rfl (Nat.le_of_ble_eq_true rfl) (by decide) (fm_dec dtX11_noPart 11 rfl) ?_
    refine d_bad0 hst _ _ (by first | exact h0 | simp [fmI, upd]) ?_
    refine fm_then1 ?_
    exact fm_zreturn (pc := 20) rfl rfl (fm_dec dtX11_noPart 12 rfl) (by first | exact hq hi4 | exact hx _ hb hn4)
  · refine fm_then1 ?_
    refine fm_if_ne (pc := 7) 14 (by decide) (fm_dec dtX11_noPart 5 rfl) (fun hc7 => by exfalso; revert hc7; decide) (fun _ => ?_)
    refine fm_iconst (pc := 10) (v := 1) (by decide) (fm_dec dtX11_noPart 6 rfl) ?_
    refine fm_goto (pc := 11) 15 (by decide) (fm_dec dtX11_noPart 7 rfl) ?_
    refine fm_iloadn (pc := 15) (n := 2) 2 rfl rfl (fm_dec dtX11_noPart 9 rfl) ?_
    refine fm_iconst (pc := 16) (v := 1) (by decide) (fm_dec dtX11_noPart 10 rfl) ?_
    refine fm_invV3 (k := 0) (d' := 0) (pc := 17) cv_X11_177 (by decide) rfl (Nat.le_of_ble_eq_true rfl) (by decide) (fm_dec dtX11_noPart 11 rfl) ?_
    refine d_bad1_1 hst _ (by first | exact h0 | simp [fmI, upd]) hw (fun Mb hb => ?_)
    refine fm_then1 ?_
    exact fm_zreturn (pc := 20) rfl rfl (fm_dec dtX11_noPart 12 rfl) (by first | exact hq hi4 | exact hx _ hb hn4)

set_option maxRecDepth 20000 in
theorem d_isLife0 {l : Launch} {G : fmG} {M : fmM} {Q : fmR → fmM → Prop} (hst : l.stackTraces = false) (i : Int32) (hl : M.1 4 0 = 0) (hq : Q (.inl (some (.int 0))) M) : fmGood Tm l G 1 qX11_isLife [.ref (G.1 0), .int i] M Q := by
  refine fmGood_of hst (by decide +kernel) (Nat.le_of_ble_eq_true rfl) ?_
  show fmEv Tm l G 1 qX11_isLife 0 [some (.ref (G.1 0)), some (.int i)] [] M Q
  refine fm_iloadn (pc := 0) (n := 1) 1 rfl rfl (fm_dec dtX11_isLife 0 rfl) ?_
  refine fm_iconst (pc := 1) (v := 0) (by decide) (fm_dec dtX11_isLife 1 rfl) ?_
  refine fm_aloadn (pc := 2) (n := 0) 0 rfl rfl (fm_dec dtX11_isLife 2 rfl) ?_
  refine fm_getR (k := 0) (j := 12) (ci := 11) (pc := 3) 4 rfl fl_X11_23 (by decide) rfl (by decide) (by decide) (fm_dec dtX11_isLife 3 rfl) ?_
  refine fm_iconst (pc := 6) (v := 0) (by decide) (fm_dec dtX11_isLife 4 rfl) ?_
  refine fm_iald (k := 4) (n := 6) (pc := 7) (by decide) rfl rfl (fm_inl (by decide)) (fm_dec dtX11_isLife 5 rfl) ?_
  refine fm_iconst (pc := 8) (v := 1) (by decide) (fm_dec dtX11_isLife 6 rfl) ?_
  refine fm_isub (pc := 9) (fm_dec dtX11_isLife 7 rfl) ?_
  refine fm_invS3 (d' := 0) (pc := 10) cs_X11_135 (Nat.le_of_ble_eq_true rfl) (by decide) (fm_dec dtX11_isLife 8 rfl) ?_
  refine d_in hst _ _ _ (fun hi10 => (inR_no (by have h9 : inR i 0 (M.1 4 0 - 1) := hi10; rw [hl] at h9; exact h9)).elim) (fun hn10 => ?_)
  refine fm_then1 ?_
  exact fm_zreturn (pc := 13) rfl rfl (fm_dec dtX11_isLife 9 rfl) hq

set_option maxRecDepth 20000 in
theorem m_life {l : Launch} {G : fmG} {M : fmM} {Q : fmR → fmM → Prop} (hst : l.stackTraces = false) (i a : Int32) (hl : M.1 4 0 = 0) (hx : ∀ (r9 : Int32) M', M'.1 0 0 = 1 → Q (.inl (some (.int r9))) M') : fmGood Tm l G 2 qX11_life [.ref (G.1 0), .int i, .int a] M Q := by
  refine fmGood_of hst (by decide +kernel) (Nat.le_of_ble_eq_true rfl) ?_
  show fmEv Tm l G 2 qX11_life 0 [some (.ref (G.1 0)), some (.int i), some (.int a)] [] M Q
  refine fm_aloadn (pc := 0) (n := 0) 0 rfl rfl (fm_dec dtX11_life 0 rfl) ?_
  refine fm_iconst (pc := 1) (v := 0) (by decide) (fm_dec dtX11_life 1 rfl) ?_
  refine fm_putI (k := 0) (j := 0) (ci := 11) (pc := 2) fl_X11_101 (by decide) rfl (by decide) rfl rfl (fm_dec dtX11_life 2 rfl) ?_
  refine fm_aloadn (pc := 5) (n := 0) 0 rfl rfl (fm_dec dtX11_life 3 rfl) ?_
  refine fm_aloadn (pc := 6) (n := 0) 0 rfl rfl (fm_dec dtX11_life 4 rfl) ?_
  refine fm_iloadn (pc := 7) (n := 1) 1 rfl rfl (fm_dec dtX11_life 5 rfl) ?_
  refine fm_invV1 (k := 0) (d' := 1) (pc := 8) cv_X11_331 (by decide) rfl (Nat.le_of_ble_eq_true rfl) (by decide) (fm_dec dtX11_life 6 rfl) ?_
  refine d_isLife0 hst _ (by first | exact hl | simp [fmI, fmJ, upd, hl]) ?_
  refine fm_then1 ?_
  refine fm_if_ne (pc := 11) 18 (by decide) (fm_dec dtX11_life 7 rfl) (fun hc11 => by exfalso; revert hc11; decide) (fun _ => ?_)
  refine fm_iconst (pc := 14) (v := 1) (by decide) (fm_dec dtX11_life 8 rfl) ?_
  refine fm_goto (pc := 15) 19 (by decide) (fm_dec dtX11_life 9 rfl) ?_
  refine fm_iconst (pc := 19) (v := 1) (by decide) (fm_dec dtX11_life 11 rfl) ?_
  refine fm_iconst (pc := 20) (v := 0) (by decide) (fm_dec dtX11_life 12 rfl) ?_
  refine fm_invV3 (k := 0) (d' := 0) (pc := 21) cv_X11_177 (by decide) rfl (Nat.le_of_ble_eq_true rfl) (by decide) (fm_dec dtX11_life 13 rfl) ?_
  refine d_bad1_0 hst _ (by first | exact h0 | simp [fmI, upd]) (by decide) (fun Mb hb => ?_)
  refine fm_then1 ?_
  refine fm_if_ne (pc := 24) 51 (by decide) (fm_dec dtX11_life 14 rfl) (fun _ => ?_) (fun hc24 => by exfalso; revert hc24; decide)
  refine fm_iconst (pc := 51) (v := 0) (by decide) (fm_dec dtX11_life 28 rfl) ?_
  exact fm_ireturn (pc := 52) rfl (fm_dec dtX11_life 29 rfl) (hx _ _ hb)

set_option maxRecDepth 20000 in
theorem m_facts {l : Launch} {G : fmG} {M : fmM} {Q : fmR → fmM → Prop} (hst : l.stackTraces = false) (i : Int32) (hl : M.1 4 0 = 0) (hx : ∀ (r9 : Int32) M', M'.1 0 0 = 1 → Q (.inl (some (.int r9))) M') : fmGood Tm l G 2 qX11_facts [.ref (G.1 0), .int i] M Q := by
  refine fmGood_of hst (by decide +kernel) (Nat.le_of_ble_eq_true rfl) ?_
  show fmEv Tm l G 2 qX11_facts 0 [some (.ref (G.1 0)), some (.int i)] [] M Q
  refine fm_aloadn (pc := 0) (n := 0) 0 rfl rfl (fm_dec dtX11_facts 0 rfl) ?_
  refine fm_iconst (pc := 1) (v := 0) (by decide) (fm_dec dtX11_facts 1 rfl) ?_
  refine fm_putI (k := 0) (j := 0) (ci := 11) (pc := 2) fl_X11_101 (by decide) rfl (by decide) rfl rfl (fm_dec dtX11_facts 2 rfl) ?_
  refine fm_aloadn (pc := 5) (n := 0) 0 rfl rfl (fm_dec dtX11_facts 3 rfl) ?_
  refine fm_aloadn (pc := 6) (n := 0) 0 rfl rfl (fm_dec dtX11_facts 4 rfl) ?_
  refine fm_iloadn (pc := 7) (n := 1) 1 rfl rfl (fm_dec dtX11_facts 5 rfl) ?_
  refine fm_invV1 (k := 0) (d' := 1) (pc := 8) cv_X11_331 (by decide) rfl (Nat.le_of_ble_eq_true rfl) (by decide) (fm_dec dtX11_facts 6 rfl) ?_
  refine d_isLife0 hst _ (by first | exact hl | simp [fmI, fmJ, upd, hl]) ?_
  refine fm_then1 ?_
  refine fm_if_ne (pc := 11) 18 (by decide) (fm_dec dtX11_facts 7 rfl) (fun hc11 => by exfalso; revert hc11; decide) (fun _ => ?_)
  refine fm_iconst (pc := 14) (v := 1) (by decide) (fm_dec dtX11_facts 8 rfl) ?_
  refine fm_goto (pc := 15) 19 (by decide) (fm_dec dtX11_facts 9 rfl) ?_
  refine fm_iconst (pc := 19) (v := 1) (by decide) (fm_dec dtX11_facts 11 rfl) ?_
  refine fm_iconst (pc := 20) (v := 0) (by decide) (fm_dec dtX11_facts 12 rfl) ?_
  refine fm_invV3 (k := 0) (d' := 0) (pc := 21) cv_X11_177 (by decide) rfl (Nat.le_of_ble_eq_true rfl) (by decide) (fm_dec dtX11_facts 13 rfl) ?_
  refine d_bad1_0 hst _ (by first | exact h0 | simp [fmI, upd]) (by decide) (fun Mb hb => ?_)
  refine fm_then1 ?_
  refine fm_if_eq (pc := 24) 29 (by decide) (fm_dec dtX11_facts 14 rfl) (fun hc24 => by exfalso; revert hc24; decide) (fun _ => ?_)
  refine fm_iconst (pc := 27) (v := 0) (by decide) (fm_dec dtX11_facts 15 rfl) ?_
  exact fm_ireturn (pc := 28) rfl (fm_dec dtX11_facts 16 rfl) (hx _ _ hb)

set_option maxRecDepth 20000 in
theorem m_wrong {l : Launch} {G : fmG} {M : fmM} {Q : fmR → fmM → Prop} (hst : l.stackTraces = false) (i : Int32) (hl : M.1 4 0 = 0) (hx : ∀ (r9 : Int32) M', M'.1 0 0 = 1 → Q (.inl (some (.int r9))) M') : fmGood Tm l G 6 qX11_wrong [.ref (G.1 0), .int i] M Q := by
  refine fmGood_of hst (by decide +kernel) (Nat.le_of_ble_eq_true rfl) ?_
  show fmEv Tm l G 6 qX11_wrong 0 [some (.ref (G.1 0)), some (.int i)] [] M Q
  refine fm_aloadn (pc := 0) (n := 0) 0 rfl rfl (fm_dec dtX11_wrong 0 rfl) ?_
  refine fm_iconst (pc := 1) (v := 0) (by decide) (fm_dec dtX11_wrong 1 rfl) ?_
  refine fm_putI (k := 0) (j := 0) (ci := 11) (pc := 2) fl_X11_101 (by decide) rfl (by decide) rfl rfl (fm_dec dtX11_wrong 2 rfl) ?_
  refine fm_aloadn (pc := 5) (n := 0) 0 rfl rfl (fm_dec dtX11_wrong 3 rfl) ?_
  refine fm_aloadn (pc := 6) (n := 0) 0 rfl rfl (fm_dec dtX11_wrong 4 rfl) ?_
  refine fm_iloadn (pc := 7) (n := 1) 1 rfl rfl (fm_dec dtX11_wrong 5 rfl) ?_
  refine fm_invV1 (k := 0) (d' := 1) (pc := 8) cv_X11_331 (by decide) rfl (Nat.le_of_ble_eq_true rfl) (by decide) (fm_dec dtX11_wrong 6 rfl) ?_
  refine d_isLife0 hst _ (by first | exact hl | simp [fmI, fmJ, upd, hl]) ?_
  refine fm_then1 ?_
  refine fm_if_ne (pc := 11) 18 (by decide) (fm_dec dtX11_wrong 7 rfl) (fun hc11 => by exfalso; revert hc11; decide) (fun _ => ?_)
  refine fm_iconst (pc := 14) (v := 1) (by decide) (fm_dec dtX11_wrong 8 rfl) ?_
  refine fm_goto (pc := 15) 19 (by decide) (fm_dec dtX11_wrong 9 rfl) ?_
  refine fm_iconst (pc := 19) (v := 1) (by decide) (fm_dec dtX11_wrong 11 rfl) ?_
  refine fm_iconst (pc := 20) (v := 0) (by decide) (fm_dec dtX11_wrong 12 rfl) ?_
  refine fm_invV3 (k := 0) (d' := 0) (pc := 21) cv_X11_177 (by decide) rfl (Nat.le_of_ble_eq_true rfl) (by decide) (fm_dec dtX11_wrong 13 rfl) ?_
  refine d_bad1_0 hst _ (by first | exact h0 | simp [fmI, upd]) (by decide) (fun Mb hb => ?_)
  refine fm_then1 ?_
  refine fm_if_eq (pc := 24) 29 (by decide) (fm_dec dtX11_wrong 14 rfl) (fun hc24 => by exfalso; revert hc24; decide) (fun _ => ?_)
  refine fm_iconst (pc := 27) (v := 0) (by decide) (fm_dec dtX11_wrong 15 rfl) ?_
  exact fm_ireturn (pc := 28) rfl (fm_dec dtX11_wrong 16 rfl) (hx _ _ hb)

set_option maxRecDepth 20000 in
theorem m_cost {l : Launch} {G : fmG} {M : fmM} {Q : fmR → fmM → Prop} (hst : l.stackTraces = false) (i a : Int32) (hl : M.1 4 0 = 0) (hx : ∀ (r9 : Int64) M', M'.1 0 0 = 1 → Q (.inl (some (.long r9))) M') : fmGood Tm l G 7 qX11_cost [.ref (G.1 0), .int i, .int a] M Q := by
  refine fmGood_of hst (by decide +kernel) (Nat.le_of_ble_eq_true rfl) ?_
  show fmEv Tm l G 7 qX11_cost 0 [some (.ref (G.1 0)), some (.int i), some (.int a)] [] M Q
  refine fm_aloadn (pc := 0) (n := 0) 0 rfl rfl (fm_dec dtX11_cost 0 rfl) ?_
  refine fm_iconst (pc := 1) (v := 0) (by decide) (fm_dec dtX11_cost 1 rfl) ?_
  refine fm_putI (k := 0) (j := 0) (ci := 11) (pc := 2) fl_X11_101 (by decide) rfl (by decide) rfl rfl (fm_dec dtX11_cost 2 rfl) ?_
  refine fm_aloadn (pc := 5) (n := 0) 0 rfl rfl (fm_dec dtX11_cost 3 rfl) ?_
  refine fm_aloadn (pc := 6) (n := 0) 0 rfl rfl (fm_dec dtX11_cost 4 rfl) ?_
  refine fm_iloadn (pc := 7) (n := 1) 1 rfl rfl (fm_dec dtX11_cost 5 rfl) ?_
  refine fm_invV1 (k := 0) (d' := 1) (pc := 8) cv_X11_331 (by decide) rfl (Nat.le_of_ble_eq_true rfl) (by decide) (fm_dec dtX11_cost 6 rfl) ?_
  refine d_isLife0 hst _ (by first | exact hl | simp [fmI, fmJ, upd, hl]) ?_
  refine fm_then1 ?_
  refine fm_if_ne (pc := 11) 18 (by decide) (fm_dec dtX11_cost 7 rfl) (fun hc11 => by exfalso; revert hc11; decide) (fun _ => ?_)
  refine fm_iconst (pc := 14) (v := 1) (by decide) (fm_dec dtX11_cost 8 rfl) ?_
  refine fm_goto (pc := 15) 19 (by decide) (fm_dec dtX11_cost 9 rfl) ?_
  refine fm_iconst (pc := 19) (v := 1) (by decide) (fm_dec dtX11_cost 11 rfl) ?_
  refine fm_iconst (pc := 20) (v := 0) (by decide) (fm_dec dtX11_cost 12 rfl) ?_
  refine fm_invV3 (k := 0) (d' := 0) (pc := 21) cv_X11_177 (by decide) rfl (Nat.le_of_ble_eq_true rfl) (by decide) (fm_dec dtX11_cost 13 rfl) ?_
  refine d_bad1_0 hst _ (by first | exact h0 | simp [fmI, upd]) (by decide) (fun Mb hb => ?_)
  refine fm_then1 ?_
  refine fm_if_ne (pc := 24) 36 (by decide) (fm_dec dtX11_cost 14 rfl) (fun _ => ?_) (fun hc24 => by exfalso; revert hc24; decide)
  refine fm_lconst (pc := 36) (v := 0) (by decide) (fm_dec dtX11_cost 20 rfl) ?_
  exact fm_lreturn (pc := 37) rfl (fm_dec dtX11_cost 21 rfl) (hx _ _ hb)

set_option maxRecDepth 20000 in
theorem m_saves {l : Launch} {G : fmG} {M : fmM} {Q : fmR → fmM → Prop} (hst : l.stackTraces = false) (i a : Int32) (hl : M.1 4 0 = 0) (hx : ∀ (r9 : Int64) M', M'.1 0 0 = 1 → Q (.inl (some (.long r9))) M') : fmGood Tm l G 8 qX11_saves [.ref (G.1 0), .int i, .int a] M Q := by
  refine fmGood_of hst (by decide +kernel) (Nat.le_of_ble_eq_true rfl) ?_
  show fmEv Tm l G 8 qX11_saves 0 [some (.ref (G.1 0)), some (.int i), some (.int a)] [] M Q
  refine fm_aloadn (pc := 0) (n := 0) 0 rfl rfl (fm_dec dtX11_saves 0 rfl) ?_
  refine fm_iconst (pc := 1) (v := 0) (by decide) (fm_dec dtX11_saves 1 rfl) ?_
  refine fm_putI (k := 0) (j := 0) (ci := 11) (pc := 2) fl_X11_101 (by decide) rfl (by decide) rfl rfl (fm_dec dtX11_saves 2 rfl) ?_
  refine fm_aloadn (pc := 5) (n := 0) 0 rfl rfl (fm_dec dtX11_saves 3 rfl) ?_
  refine fm_aloadn (pc := 6) (n := 0) 0 rfl rfl (fm_dec dtX11_saves 4 rfl) ?_
  refine fm_iloadn (pc := 7) (n := 1) 1 rfl rfl (fm_dec dtX11_saves 5 rfl) ?_
  refine fm_invV1 (k := 0) (d' := 1) (pc := 8) cv_X11_331 (by decide) rfl (Nat.le_of_ble_eq_true rfl) (by decide) (fm_dec dtX11_saves 6 rfl) ?_
  refine d_isLife0 hst _ (by first | exact hl | simp [fmI, fmJ, upd, hl]) ?_
  refine fm_then1 ?_
  refine fm_if_ne (pc := 11) 18 (by decide) (fm_dec dtX11_saves 7 rfl) (fun hc11 => by exfalso; revert hc11; decide) (fun _ => ?_)
  refine fm_iconst (pc := 14) (v := 1) (by decide) (fm_dec dtX11_saves 8 rfl) ?_
  refine fm_goto (pc := 15) 19 (by decide) (fm_dec dtX11_saves 9 rfl) ?_
  refine fm_iconst (pc := 19) (v := 1) (by decide) (fm_dec dtX11_saves 11 rfl) ?_
  refine fm_iconst (pc := 20) (v := 0) (by decide) (fm_dec dtX11_saves 12 rfl) ?_
  refine fm_invV3 (k := 0) (d' := 0) (pc := 21) cv_X11_177 (by decide) rfl (Nat.le_of_ble_eq_true rfl) (by decide) (fm_dec dtX11_saves 13 rfl) ?_
  refine d_bad1_0 hst _ (by first | exact h0 | simp [fmI, upd]) (by decide) (fun Mb hb => ?_)
  refine fm_then1 ?_
  refine fm_if_ne (pc := 24) 36 (by decide) (fm_dec dtX11_saves 14 rfl) (fun _ => ?_) (fun hc24 => by exfalso; revert hc24; decide)
  refine fm_lconst (pc := 36) (v := 0) (by decide) (fm_dec dtX11_saves 20 rfl) ?_
  exact fm_lreturn (pc := 37) rfl (fm_dec dtX11_saves 21 rfl) (hx _ _ hb)

set_option maxRecDepth 20000 in
theorem m_often {l : Launch} {G : fmG} {M : fmM} {Q : fmR → fmM → Prop} (hst : l.stackTraces = false) (i a : Int32) (hl : M.1 4 0 = 0) (hx : ∀ (r9 : Int32) M', M'.1 0 0 = 1 → Q (.inl (some (.int r9))) M') : fmGood Tm l G 5 qX11_often [.ref (G.1 0), .int i, .int a] M Q := by
  refine fmGood_of hst (by decide +kernel) (Nat.le_of_ble_eq_true rfl) ?_
  show fmEv Tm l G 5 qX11_often 0 [some (.ref (G.1 0)), some (.int i), some (.int a), none, none] [] M Q
  refine fm_aloadn (pc := 0) (n := 0) 0 rfl rfl (fm_dec dtX11_often 0 rfl) ?_
  refine fm_iconst (pc := 1) (v := 0) (by decide) (fm_dec dtX11_often 1 rfl) ?_
  refine fm_putI (k := 0) (j := 0) (ci := 11) (pc := 2) fl_X11_101 (by decide) rfl (by decide) rfl rfl (fm_dec dtX11_often 2 rfl) ?_
  refine fm_aloadn (pc := 5) (n := 0) 0 rfl rfl (fm_dec dtX11_often 3 rfl) ?_
  refine fm_aloadn (pc := 6) (n := 0) 0 rfl rfl (fm_dec dtX11_often 4 rfl) ?_
  refine fm_iloadn (pc := 7) (n := 1) 1 rfl rfl (fm_dec dtX11_often 5 rfl) ?_
  refine fm_invV1 (k := 0) (d' := 1) (pc := 8) cv_X11_331 (by decide) rfl (Nat.le_of_ble_eq_true rfl) (by decide) (fm_dec dtX11_often 6 rfl) ?_
  refine d_isLife0 hst _ (by first | exact hl | simp [fmI, fmJ, upd, hl]) ?_
  refine fm_then1 ?_
  refine fm_if_ne (pc := 11) 18 (by decide) (fm_dec dtX11_often 7 rfl) (fun hc11 => by exfalso; revert hc11; decide) (fun _ => ?_)
  refine fm_iconst (pc := 14) (v := 1) (by decide) (fm_dec dtX11_often 8 rfl) ?_
  refine fm_goto (pc := 15) 19 (by decide) (fm_dec dtX11_often 9 rfl) ?_
  refine fm_iconst (pc := 19) (v := 1) (by decide) (fm_dec dtX11_often 11 rfl) ?_
  refine fm_iconst (pc := 20) (v := 0) (by decide) (fm_dec dtX11_often 12 rfl) ?_
  refine fm_invV3 (k := 0) (d' := 0) (pc := 21) cv_X11_177 (by decide) rfl (Nat.le_of_ble_eq_true rfl) (by decide) (fm_dec dtX11_often 13 rfl) ?_
  refine d_bad1_0 hst _ (by first | exact h0 | simp [fmI, upd]) (by decide) (fun Mb hb => ?_)
  refine fm_then1 ?_
  refine fm_if_ne (pc := 24) 52 (by decide) (fm_dec dtX11_often 14 rfl) (fun _ => ?_) (fun hc24 => by exfalso; revert hc24; decide)
  refine fm_iconst (pc := 52) (v := 0) (by decide) (fm_dec dtX11_often 28 rfl) ?_
  exact fm_ireturn (pc := 53) rfl (fm_dec dtX11_often 29 rfl) (hx _ _ hb)

set_option maxRecDepth 20000 in
theorem m_yearly {l : Launch} {G : fmG} {M : fmM} {Q : fmR → fmM → Prop} (hst : l.stackTraces = false) (i a b c : Int32) (hl : M.1 4 0 = 0) (hx : ∀ (r9 : Int64) M', M'.1 0 0 = 1 → Q (.inl (some (.long r9))) M') : fmGood Tm l G 5 qX11_yearly [.ref (G.1 0), .int i, .int a, .int b, .int c] M Q := by
  refine fmGood_of hst (by decide +kernel) (Nat.le_of_ble_eq_true rfl) ?_
  show fmEv Tm l G 5 qX11_yearly 0 [some (.ref (G.1 0)), some (.int i), some (.int a), some (.int b), some (.int c)] [] M Q
  refine fm_aloadn (pc := 0) (n := 0) 0 rfl rfl (fm_dec dtX11_yearly 0 rfl) ?_
  refine fm_iconst (pc := 1) (v := 0) (by decide) (fm_dec dtX11_yearly 1 rfl) ?_
  refine fm_putI (k := 0) (j := 0) (ci := 11) (pc := 2) fl_X11_101 (by decide) rfl (by decide) rfl rfl (fm_dec dtX11_yearly 2 rfl) ?_
  refine fm_aloadn (pc := 5) (n := 0) 0 rfl rfl (fm_dec dtX11_yearly 3 rfl) ?_
  refine fm_aloadn (pc := 6) (n := 0) 0 rfl rfl (fm_dec dtX11_yearly 4 rfl) ?_
  refine fm_iloadn (pc := 7) (n := 1) 1 rfl rfl (fm_dec dtX11_yearly 5 rfl) ?_
  refine fm_invV1 (k := 0) (d' := 1) (pc := 8) cv_X11_331 (by decide) rfl (Nat.le_of_ble_eq_true rfl) (by decide) (fm_dec dtX11_yearly 6 rfl) ?_
  refine d_isLife0 hst _ (by first | exact hl | simp [fmI, fmJ, upd, hl]) ?_
  refine fm_then1 ?_
  refine fm_if_ne (pc := 11) 18 (by decide) (fm_dec dtX11_yearly 7 rfl) (fun hc11 => by exfalso; revert hc11; decide) (fun _ => ?_)
  refine fm_iconst (pc := 14) (v := 1) (by decide) (fm_dec dtX11_yearly 8 rfl) ?_
  refine fm_goto (pc := 15) 19 (by decide) (fm_dec dtX11_yearly 9 rfl) ?_
  refine fm_iconst (pc := 19) (v := 1) (by decide) (fm_dec dtX11_yearly 11 rfl) ?_
  refine fm_iconst (pc := 20) (v := 0) (by decide) (fm_dec dtX11_yearly 12 rfl) ?_
  refine fm_invV3 (k := 0) (d' := 0) (pc := 21) cv_X11_177 (by decide) rfl (Nat.le_of_ble_eq_true rfl) (by decide) (fm_dec dtX11_yearly 13 rfl) ?_
  refine d_bad1_0 hst _ (by first | exact h0 | simp [fmI, upd]) (by decide) (fun Mb hb => ?_)
  refine fm_then1 ?_
  refine fm_if_ne (pc := 24) 72 (by decide) (fm_dec dtX11_yearly 14 rfl) (fun _ => ?_) (fun hc24 => by exfalso; revert hc24; decide)
  refine fm_lconst (pc := 72) (v := 0) (by decide) (fm_dec dtX11_yearly 38 rfl) ?_
  exact fm_lreturn (pc := 73) rfl (fm_dec dtX11_yearly 39 rfl) (hx _ _ hb)

set_option maxRecDepth 20000 in
theorem m_written {l : Launch} {G : fmG} {M : fmM} {Q : fmR → fmM → Prop} (hst : l.stackTraces = false) (i : Int32) (hl : M.1 4 0 = 0) (hx : ∀ (r9 : Int64) M', M'.1 0 0 = 1 → Q (.inl (some (.long r9))) M') : fmGood Tm l G 2 qX11_written [.ref (G.1 0), .int i] M Q := by
  refine fmGood_of hst (by decide +kernel) (Nat.le_of_ble_eq_true rfl) ?_
  show fmEv Tm l G 2 qX11_written 0 [some (.ref (G.1 0)), some (.int i)] [] M Q
  refine fm_aloadn (pc := 0) (n := 0) 0 rfl rfl (fm_dec dtX11_written 0 rfl) ?_
  refine fm_iconst (pc := 1) (v := 0) (by decide) (fm_dec dtX11_written 1 rfl) ?_
  refine fm_putI (k := 0) (j := 0) (ci := 11) (pc := 2) fl_X11_101 (by decide) rfl (by decide) rfl rfl (fm_dec dtX11_written 2 rfl) ?_
  refine fm_aloadn (pc := 5) (n := 0) 0 rfl rfl (fm_dec dtX11_written 3 rfl) ?_
  refine fm_aloadn (pc := 6) (n := 0) 0 rfl rfl (fm_dec dtX11_written 4 rfl) ?_
  refine fm_iloadn (pc := 7) (n := 1) 1 rfl rfl (fm_dec dtX11_written 5 rfl) ?_
  refine fm_invV1 (k := 0) (d' := 1) (pc := 8) cv_X11_331 (by decide) rfl (Nat.le_of_ble_eq_true rfl) (by decide) (fm_dec dtX11_written 6 rfl) ?_
  refine d_isLife0 hst _ (by first | exact hl | simp [fmI, fmJ, upd, hl]) ?_
  refine fm_then1 ?_
  refine fm_if_ne (pc := 11) 18 (by decide) (fm_dec dtX11_written 7 rfl) (fun hc11 => by exfalso; revert hc11; decide) (fun _ => ?_)
  refine fm_iconst (pc := 14) (v := 1) (by decide) (fm_dec dtX11_written 8 rfl) ?_
  refine fm_goto (pc := 15) 19 (by decide) (fm_dec dtX11_written 9 rfl) ?_
  refine fm_iconst (pc := 19) (v := 1) (by decide) (fm_dec dtX11_written 11 rfl) ?_
  refine fm_iconst (pc := 20) (v := 0) (by decide) (fm_dec dtX11_written 12 rfl) ?_
  refine fm_invV3 (k := 0) (d' := 0) (pc := 21) cv_X11_177 (by decide) rfl (Nat.le_of_ble_eq_true rfl) (by decide) (fm_dec dtX11_written 13 rfl) ?_
  refine d_bad1_0 hst _ (by first | exact h0 | simp [fmI, upd]) (by decide) (fun Mb hb => ?_)
  refine fm_then1 ?_
  refine fm_if_eq (pc := 24) 29 (by decide) (fm_dec dtX11_written 14 rfl) (fun hc24 => by exfalso; revert hc24; decide) (fun _ => ?_)
  refine fm_lconst (pc := 27) (v := 0) (by decide) (fm_dec dtX11_written 15 rfl) ?_
  exact fm_lreturn (pc := 28) rfl (fm_dec dtX11_written 16 rfl) (hx _ _ hb)

set_option maxRecDepth 20000 in
theorem m_lives {l : Launch} {G : fmG} {M : fmM} {Q : fmR → fmM → Prop} (hst : l.stackTraces = false) (i a b : Int32) (hl : M.1 4 0 = 0) (hx : ∀ (r9 : Int64) M', M'.1 0 0 = 1 → Q (.inl (some (.long r9))) M') : fmGood Tm l G 2 qX11_lives [.ref (G.1 0), .int i, .int a, .int b] M Q := by
  refine fmGood_of hst (by decide +kernel) (Nat.le_of_ble_eq_true rfl) ?_
  show fmEv Tm l G 2 qX11_lives 0 [some (.ref (G.1 0)), some (.int i), some (.int a), some (.int b)] [] M Q
  refine fm_aloadn (pc := 0) (n := 0) 0 rfl rfl (fm_dec dtX11_lives 0 rfl) ?_
  refine fm_iconst (pc := 1) (v := 0) (by decide) (fm_dec dtX11_lives 1 rfl) ?_
  refine fm_putI (k := 0) (j := 0) (ci := 11) (pc := 2) fl_X11_101 (by decide) rfl (by decide) rfl rfl (fm_dec dtX11_lives 2 rfl) ?_
  refine fm_aloadn (pc := 5) (n := 0) 0 rfl rfl (fm_dec dtX11_lives 3 rfl) ?_
  refine fm_aloadn (pc := 6) (n := 0) 0 rfl rfl (fm_dec dtX11_lives 4 rfl) ?_
  refine fm_iloadn (pc := 7) (n := 1) 1 rfl rfl (fm_dec dtX11_lives 5 rfl) ?_
  refine fm_invV1 (k := 0) (d' := 1) (pc := 8) cv_X11_331 (by decide) rfl (Nat.le_of_ble_eq_true rfl) (by decide) (fm_dec dtX11_lives 6 rfl) ?_
  refine d_isLife0 hst _ (by first | exact hl | simp [fmI, fmJ, upd, hl]) ?_
  refine fm_then1 ?_
  refine fm_if_ne (pc := 11) 18 (by decide) (fm_dec dtX11_lives 7 rfl) (fun hc11 => by exfalso; revert hc11; decide) (fun _ => ?_)
  refine fm_iconst (pc := 14) (v := 1) (by decide) (fm_dec dtX11_lives 8 rfl) ?_
  refine fm_goto (pc := 15) 19 (by decide) (fm_dec dtX11_lives 9 rfl) ?_
  refine fm_iconst (pc := 19) (v := 1) (by decide) (fm_dec dtX11_lives 11 rfl) ?_
  refine fm_iconst (pc := 20) (v := 0) (by decide) (fm_dec dtX11_lives 12 rfl) ?_
  refine fm_invV3 (k := 0) (d' := 0) (pc := 21) cv_X11_177 (by decide) rfl (Nat.le_of_ble_eq_true rfl) (by decide) (fm_dec dtX11_lives 13 rfl) ?_
  refine d_bad1_0 hst _ (by first | exact h0 | simp [fmI, upd]) (by decide) (fun Mb hb => ?_)
  refine fm_then1 ?_
  refine fm_if_ne (pc := 24) 60 (by decide) (fm_dec dtX11_lives 14 rfl) (fun _ => ?_) (fun hc24 => by exfalso; revert hc24; decide)
  refine fm_lconst (pc := 60) (v := 0) (by decide) (fm_dec dtX11_lives 33 rfl) ?_
  exact fm_lreturn (pc := 61) rfl (fm_dec dtX11_lives 34 rfl) (hx _ _ hb)

set_option maxRecDepth 20000 in
theorem m_chain {l : Launch} {G : fmG} {M : fmM} {Q : fmR → fmM → Prop} (hst : l.stackTraces = false) (i a : Int32) (hl : M.1 4 0 = 0) (hx : ∀ (r9 : Int32) M', M'.1 0 0 = 1 → Q (.inl (some (.int r9))) M') : fmGood Tm l G 2 qX11_chain [.ref (G.1 0), .int i, .int a] M Q := by
  refine fmGood_of hst (by decide +kernel) (Nat.le_of_ble_eq_true rfl) ?_
  show fmEv Tm l G 2 qX11_chain 0 [some (.ref (G.1 0)), some (.int i), some (.int a), none, none] [] M Q
  refine fm_aloadn (pc := 0) (n := 0) 0 rfl rfl (fm_dec dtX11_chain 0 rfl) ?_
  refine fm_iconst (pc := 1) (v := 0) (by decide) (fm_dec dtX11_chain 1 rfl) ?_
  refine fm_putI (k := 0) (j := 0) (ci := 11) (pc := 2) fl_X11_101 (by decide) rfl (by decide) rfl rfl (fm_dec dtX11_chain 2 rfl) ?_
  refine fm_aloadn (pc := 5) (n := 0) 0 rfl rfl (fm_dec dtX11_chain 3 rfl) ?_
  refine fm_aloadn (pc := 6) (n := 0) 0 rfl rfl (fm_dec dtX11_chain 4 rfl) ?_
  refine fm_iloadn (pc := 7) (n := 1) 1 rfl rfl (fm_dec dtX11_chain 5 rfl) ?_
  refine fm_invV1 (k := 0) (d' := 1) (pc := 8) cv_X11_331 (by decide) rfl (Nat.le_of_ble_eq_true rfl) (by decide) (fm_dec dtX11_chain 6 rfl) ?_
  refine d_isLife0 hst _ (by first | exact hl | simp [fmI, fmJ, upd, hl]) ?_
  refine fm_then1 ?_
  refine fm_if_ne (pc := 11) 18 (by decide) (fm_dec dtX11_chain 7 rfl) (fun hc11 => by exfalso; revert hc11; decide) (fun _ => ?_)
  refine fm_iconst (pc := 14) (v := 1) (by decide) (fm_dec dtX11_chain 8 rfl) ?_
  refine fm_goto (pc := 15) 19 (by decide) (fm_dec dtX11_chain 9 rfl) ?_
  refine fm_iconst (pc := 19) (v := 1) (by decide) (fm_dec dtX11_chain 11 rfl) ?_
  refine fm_iconst (pc := 20) (v := 0) (by decide) (fm_dec dtX11_chain 12 rfl) ?_
  refine fm_invV3 (k := 0) (d' := 0) (pc := 21) cv_X11_177 (by decide) rfl (Nat.le_of_ble_eq_true rfl) (by decide) (fm_dec dtX11_chain 13 rfl) ?_
  refine d_bad1_0 hst _ (by first | exact h0 | simp [fmI, upd]) (by decide) (fun Mb hb => ?_)
  refine fm_then1 ?_
  refine fm_if_ne (pc := 24) 50 (by decide) (fm_dec dtX11_chain 14 rfl) (fun _ => ?_) (fun hc24 => by exfalso; revert hc24; decide)
  refine fm_iconst (pc := 50) (v := 0) (by decide) (fm_dec dtX11_chain 28 rfl) ?_
  exact fm_ireturn (pc := 51) rfl (fm_dec dtX11_chain 29 rfl) (hx _ _ hb)

set_option maxRecDepth 20000 in
theorem m_due {l : Launch} {G : fmG} {M : fmM} {Q : fmR → fmM → Prop} (hst : l.stackTraces = false) (i a : Int32) (hl : M.1 4 0 = 0) (hx : ∀ (r9 : Int32) M', M'.1 0 0 = 1 → Q (.inl (some (.int r9))) M') : fmGood Tm l G 5 qX11_due [.ref (G.1 0), .int i, .int a] M Q := by
  refine fmGood_of hst (by decide +kernel) (Nat.le_of_ble_eq_true rfl) ?_
  show fmEv Tm l G 5 qX11_due 0 [some (.ref (G.1 0)), some (.int i), some (.int a), none] [] M Q
  refine fm_aloadn (pc := 0) (n := 0) 0 rfl rfl (fm_dec dtX11_due 0 rfl) ?_
  refine fm_iconst (pc := 1) (v := 0) (by decide) (fm_dec dtX11_due 1 rfl) ?_
  refine fm_putI (k := 0) (j := 0) (ci := 11) (pc := 2) fl_X11_101 (by decide) rfl (by decide) rfl rfl (fm_dec dtX11_due 2 rfl) ?_
  refine fm_aloadn (pc := 5) (n := 0) 0 rfl rfl (fm_dec dtX11_due 3 rfl) ?_
  refine fm_aloadn (pc := 6) (n := 0) 0 rfl rfl (fm_dec dtX11_due 4 rfl) ?_
  refine fm_iloadn (pc := 7) (n := 1) 1 rfl rfl (fm_dec dtX11_due 5 rfl) ?_
  refine fm_invV1 (k := 0) (d' := 1) (pc := 8) cv_X11_331 (by decide) rfl (Nat.le_of_ble_eq_true rfl) (by decide) (fm_dec dtX11_due 6 rfl) ?_
  refine d_isLife0 hst _ (by first | exact hl | simp [fmI, fmJ, upd, hl]) ?_
  refine fm_then1 ?_
  refine fm_if_ne (pc := 11) 18 (by decide) (fm_dec dtX11_due 7 rfl) (fun hc11 => by exfalso; revert hc11; decide) (fun _ => ?_)
  refine fm_iconst (pc := 14) (v := 1) (by decide) (fm_dec dtX11_due 8 rfl) ?_
  refine fm_goto (pc := 15) 19 (by decide) (fm_dec dtX11_due 9 rfl) ?_
  refine fm_iconst (pc := 19) (v := 1) (by decide) (fm_dec dtX11_due 11 rfl) ?_
  refine fm_iconst (pc := 20) (v := 0) (by decide) (fm_dec dtX11_due 12 rfl) ?_
  refine fm_invV3 (k := 0) (d' := 0) (pc := 21) cv_X11_177 (by decide) rfl (Nat.le_of_ble_eq_true rfl) (by decide) (fm_dec dtX11_due 13 rfl) ?_
  refine d_bad1_0 hst _ (by first | exact h0 | simp [fmI, upd]) (by decide) (fun Mb hb => ?_)
  refine fm_then1 ?_
  refine fm_if_ne (pc := 24) 51 (by decide) (fm_dec dtX11_due 14 rfl) (fun _ => ?_) (fun hc24 => by exfalso; revert hc24; decide)
  refine fm_iconst (pc := 51) (v := 0) (by decide) (fm_dec dtX11_due 28 rfl) ?_
  exact fm_ireturn (pc := 52) rfl (fm_dec dtX11_due 29 rfl) (hx _ _ hb)

set_option maxRecDepth 20000 in
theorem m_news {l : Launch} {G : fmG} {M : fmM} {Q : fmR → fmM → Prop} (hst : l.stackTraces = false) (i : Int32) (hl : M.1 4 0 = 0) (hx : ∀ (r9 : Int32) M', M'.1 0 0 = 1 → Q (.inl (some (.int r9))) M') : fmGood Tm l G 2 qX11_news [.ref (G.1 0), .int i] M Q := by
  refine fmGood_of hst (by decide +kernel) (Nat.le_of_ble_eq_true rfl) ?_
  show fmEv Tm l G 2 qX11_news 0 [some (.ref (G.1 0)), some (.int i), none, none] [] M Q
  refine fm_aloadn (pc := 0) (n := 0) 0 rfl rfl (fm_dec dtX11_news 0 rfl) ?_
  refine fm_iconst (pc := 1) (v := 0) (by decide) (fm_dec dtX11_news 1 rfl) ?_
  refine fm_putI (k := 0) (j := 0) (ci := 11) (pc := 2) fl_X11_101 (by decide) rfl (by decide) rfl rfl (fm_dec dtX11_news 2 rfl) ?_
  refine fm_aloadn (pc := 5) (n := 0) 0 rfl rfl (fm_dec dtX11_news 3 rfl) ?_
  refine fm_aloadn (pc := 6) (n := 0) 0 rfl rfl (fm_dec dtX11_news 4 rfl) ?_
  refine fm_iloadn (pc := 7) (n := 1) 1 rfl rfl (fm_dec dtX11_news 5 rfl) ?_
  refine fm_invV1 (k := 0) (d' := 1) (pc := 8) cv_X11_331 (by decide) rfl (Nat.le_of_ble_eq_true rfl) (by decide) (fm_dec dtX11_news 6 rfl) ?_
  refine d_isLife0 hst _ (by first | exact hl | simp [fmI, fmJ, upd, hl]) ?_
  refine fm_then1 ?_
  refine fm_if_ne (pc := 11) 18 (by decide) (fm_dec dtX11_news 7 rfl) (fun hc11 => by exfalso; revert hc11; decide) (fun _ => ?_)
  refine fm_iconst (pc := 14) (v := 1) (by decide) (fm_dec dtX11_news 8 rfl) ?_
  refine fm_goto (pc := 15) 19 (by decide) (fm_dec dtX11_news 9 rfl) ?_
  refine fm_iconst (pc := 19) (v := 1) (by decide) (fm_dec dtX11_news 11 rfl) ?_
  refine fm_iconst (pc := 20) (v := 0) (by decide) (fm_dec dtX11_news 12 rfl) ?_
  refine fm_invV3 (k := 0) (d' := 0) (pc := 21) cv_X11_177 (by decide) rfl (Nat.le_of_ble_eq_true rfl) (by decide) (fm_dec dtX11_news 13 rfl) ?_
  refine d_bad1_0 hst _ (by first | exact h0 | simp [fmI, upd]) (by decide) (fun Mb hb => ?_)
  refine fm_then1 ?_
  refine fm_if_eq (pc := 24) 29 (by decide) (fm_dec dtX11_news 14 rfl) (fun hc24 => by exfalso; revert hc24; decide) (fun _ => ?_)
  refine fm_iconst (pc := 27) (v := 0) (by decide) (fm_dec dtX11_news 15 rfl) ?_
  exact fm_ireturn (pc := 28) rfl (fm_dec dtX11_news 16 rfl) (hx _ _ hb)

set_option maxRecDepth 20000 in
theorem m_expects {l : Launch} {G : fmG} {M : fmM} {Q : fmR → fmM → Prop} (hst : l.stackTraces = false) (i a b : Int32) (hl : M.1 4 0 = 0) (hx : ∀ (r9 : Int64) M', M'.1 0 0 = 1 → Q (.inl (some (.long r9))) M') : fmGood Tm l G 6 qX11_expects [.ref (G.1 0), .int i, .int a, .int b] M Q := by
  refine fmGood_of hst (by decide +kernel) (Nat.le_of_ble_eq_true rfl) ?_
  show fmEv Tm l G 6 qX11_expects 0 [some (.ref (G.1 0)), some (.int i), some (.int a), some (.int b), none, none, none, none] [] M Q
  refine fm_aloadn (pc := 0) (n := 0) 0 rfl rfl (fm_dec dtX11_expects 0 rfl) ?_
  refine fm_iconst (pc := 1) (v := 0) (by decide) (fm_dec dtX11_expects 1 rfl) ?_
  refine fm_putI (k := 0) (j := 0) (ci := 11) (pc := 2) fl_X11_101 (by decide) rfl (by decide) rfl rfl (fm_dec dtX11_expects 2 rfl) ?_
  refine fm_aloadn (pc := 5) (n := 0) 0 rfl rfl (fm_dec dtX11_expects 3 rfl) ?_
  refine fm_aloadn (pc := 6) (n := 0) 0 rfl rfl (fm_dec dtX11_expects 4 rfl) ?_
  refine fm_iloadn (pc := 7) (n := 1) 1 rfl rfl (fm_dec dtX11_expects 5 rfl) ?_
  refine fm_invV1 (k := 0) (d' := 1) (pc := 8) cv_X11_331 (by decide) rfl (Nat.le_of_ble_eq_true rfl) (by decide) (fm_dec dtX11_expects 6 rfl) ?_
  refine d_isLife0 hst _ (by first | exact hl | simp [fmI, fmJ, upd, hl]) ?_
  refine fm_then1 ?_
  refine fm_if_ne (pc := 11) 18 (by decide) (fm_dec dtX11_expects 7 rfl) (fun hc11 => by exfalso; revert hc11; decide) (fun _ => ?_)
  refine fm_iconst (pc := 14) (v := 1) (by decide) (fm_dec dtX11_expects 8 rfl) ?_
  refine fm_goto (pc := 15) 19 (by decide) (fm_dec dtX11_expects 9 rfl) ?_
  refine fm_iconst (pc := 19) (v := 1) (by decide) (fm_dec dtX11_expects 11 rfl) ?_
  refine fm_iconst (pc := 20) (v := 0) (by decide) (fm_dec dtX11_expects 12 rfl) ?_
  refine fm_invV3 (k := 0) (d' := 0) (pc := 21) cv_X11_177 (by decide) rfl (Nat.le_of_ble_eq_true rfl) (by decide) (fm_dec dtX11_expects 13 rfl) ?_
  refine d_bad1_0 hst _ (by first | exact h0 | simp [fmI, upd]) (by decide) (fun Mb hb => ?_)
  refine fm_then1 ?_
  refine fm_if_ne (pc := 24) 60 (by decide) (fm_dec dtX11_expects 14 rfl) (fun _ => ?_) (fun hc24 => by exfalso; revert hc24; decide)
  refine fm_lconst (pc := 60) (v := 0) (by decide) (fm_dec dtX11_expects 33 rfl) ?_
  exact fm_lreturn (pc := 61) rfl (fm_dec dtX11_expects 34 rfl) (hx _ _ hb)

set_option maxRecDepth 20000 in
theorem m_lines {l : Launch} {G : fmG} {M : fmM} {Q : fmR → fmM → Prop} (hst : l.stackTraces = false) (a b i : Int32) (hl : M.1 4 0 = 0) (hx : ∀ (r9 : Int32) M', M'.1 0 0 = 1 → Q (.inl (some (.int r9))) M') : fmGood Tm l G 3 qX11_lines [.ref (G.1 0), .int a, .int b, .int i] M Q := by
  refine fmGood_of hst (by decide +kernel) (Nat.le_of_ble_eq_true rfl) ?_
  show fmEv Tm l G 3 qX11_lines 0 [some (.ref (G.1 0)), some (.int a), some (.int b), some (.int i)] [] M Q
  refine fm_aloadn (pc := 0) (n := 0) 0 rfl rfl (fm_dec dtX11_lines 0 rfl) ?_
  refine fm_iconst (pc := 1) (v := 0) (by decide) (fm_dec dtX11_lines 1 rfl) ?_
  refine fm_putI (k := 0) (j := 0) (ci := 11) (pc := 2) fl_X11_101 (by decide) rfl (by decide) rfl rfl (fm_dec dtX11_lines 2 rfl) ?_
  refine fm_aloadn (pc := 5) (n := 0) 0 rfl rfl (fm_dec dtX11_lines 3 rfl) ?_
  refine fm_aloadn (pc := 6) (n := 0) 0 rfl rfl (fm_dec dtX11_lines 4 rfl) ?_
  refine fm_iloadn (pc := 7) (n := 3) 3 rfl rfl (fm_dec dtX11_lines 5 rfl) ?_
  refine fm_invV1 (k := 0) (d' := 1) (pc := 8) cv_X11_331 (by decide) rfl (Nat.le_of_ble_eq_true rfl) (by decide) (fm_dec dtX11_lines 6 rfl) ?_
  refine d_isLife0 hst _ (by first | exact hl | simp [fmI, fmJ, upd, hl]) ?_
  refine fm_then1 ?_
  refine fm_if_ne (pc := 11) 18 (by decide) (fm_dec dtX11_lines 7 rfl) (fun hc11 => by exfalso; revert hc11; decide) (fun _ => ?_)
  refine fm_iconst (pc := 14) (v := 1) (by decide) (fm_dec dtX11_lines 8 rfl) ?_
  refine fm_goto (pc := 15) 19 (by decide) (fm_dec dtX11_lines 9 rfl) ?_
  refine fm_iconst (pc := 19) (v := 1) (by decide) (fm_dec dtX11_lines 11 rfl) ?_
  refine fm_iconst (pc := 20) (v := 0) (by decide) (fm_dec dtX11_lines 12 rfl) ?_
  refine fm_invV3 (k := 0) (d' := 0) (pc := 21) cv_X11_177 (by decide) rfl (Nat.le_of_ble_eq_true rfl) (by decide) (fm_dec dtX11_lines 13 rfl) ?_
  refine d_bad1_0 hst _ (by first | exact h0 | simp [fmI, upd]) (by decide) (fun Mb hb => ?_)
  refine fm_then1 ?_
  refine fm_if_ne (pc := 24) 60 (by decide) (fm_dec dtX11_lines 14 rfl) (fun _ => ?_) (fun hc24 => by exfalso; revert hc24; decide)
  refine fm_iconst (pc := 60) (v := 0) (by decide) (fm_dec dtX11_lines 32 rfl) ?_
  exact fm_ireturn (pc := 61) rfl (fm_dec dtX11_lines 33 rfl) (hx _ _ hb)

set_option maxRecDepth 20000 in
theorem m_fault {l : Launch} {G : fmG} {M : fmM} {Q : fmR → fmM → Prop} (hst : l.stackTraces = false)  (h1 : M.1 0 3 = -1) (hq : Q (.inl (some (.int (-1)))) (fmI M 0 0 0)) : fmGood Tm l G 0 qX11_fault [.ref (G.1 0)] M Q := by
  refine fmGood_of hst (by decide +kernel) (Nat.le_of_ble_eq_true rfl) ?_
  show fmEv Tm l G 0 qX11_fault 0 [some (.ref (G.1 0))] [] M Q
  refine fm_aloadn (pc := 0) (n := 0) 0 rfl rfl (fm_dec dtX11_fault 0 rfl) ?_
  refine fm_iconst (pc := 1) (v := 0) (by decide) (fm_dec dtX11_fault 1 rfl) ?_
  refine fm_putI (k := 0) (j := 0) (ci := 11) (pc := 2) fl_X11_101 (by decide) rfl (by decide) rfl rfl (fm_dec dtX11_fault 2 rfl) ?_
  refine fm_aloadn (pc := 5) (n := 0) 0 rfl rfl (fm_dec dtX11_fault 3 rfl) ?_
  refine fm_getI (k := 0) (j := 3) (ci := 11) (pc := 6) fl_X11_9 (by decide) rfl (by decide) rfl (fm_dec dtX11_fault 4 rfl) ?_
  exact fm_ireturn (pc := 9) rfl (fm_dec dtX11_fault 5 rfl) (by simpa [fmI, upd, h1] using hq)

set_option maxRecDepth 20000 in
theorem m_thrown {l : Launch} {G : fmG} {M : fmM} {Q : fmR → fmM → Prop} (hst : l.stackTraces = false)  (hq : Q (.inl (some (.int (M.1 0 0)))) M) : fmGood Tm l G 0 qX11_thrown [.ref (G.1 0)] M Q := by
  refine fmGood_of hst (by decide +kernel) (Nat.le_of_ble_eq_true rfl) ?_
  show fmEv Tm l G 0 qX11_thrown 0 [some (.ref (G.1 0))] [] M Q
  refine fm_aloadn (pc := 0) (n := 0) 0 rfl rfl (fm_dec dtX11_thrown 0 rfl) ?_
  refine fm_getI (k := 0) (j := 0) (ci := 11) (pc := 1) fl_X11_101 (by decide) rfl (by decide) rfl (fm_dec dtX11_thrown 1 rfl) ?_
  exact fm_ireturn (pc := 4) rfl (fm_dec dtX11_thrown 2 rfl) hq

set_option maxRecDepth 20000 in
theorem d_alive0 {l : Launch} {G : fmG} {M : fmM} {Q : fmR → fmM → Prop} (hst : l.stackTraces = false) (k : Nat) (hl : M.1 4 0 = 0) (hq : Q (.inl (some (.int 0))) M) : fmGood Tm l G 1 qX11_aliveIn [.ref (G.1 0), .ref (G.1 k)] M Q := by
  refine fmGood_of hst (by decide +kernel) (Nat.le_of_ble_eq_true rfl) ?_
  show fmEv Tm l G 1 qX11_aliveIn 0 [some (.ref (G.1 0)), some (.ref (G.1 k)), none, none] [] M Q
  refine fm_iconst (pc := 0) (v := 0) (by decide) (fm_dec dtX11_aliveIn 0 rfl) ?_
  refine fm_istoren (pc := 1) (n := 2) 2 rfl (by decide) rfl (fm_dec dtX11_aliveIn 1 rfl) ?_
  dsimp only [List.set_cons_zero, List.set_cons_succ]
  refine fm_iconst (pc := 2) (v := 0) (by decide) (fm_dec dtX11_aliveIn 2 rfl) ?_
  refine fm_istoren (pc := 3) (n := 3) 3 rfl (by decide) rfl (fm_dec dtX11_aliveIn 3 rfl) ?_
  dsimp only [List.set_cons_zero, List.set_cons_succ]
  refine fm_iloadn (pc := 4) (n := 3) 3 rfl rfl (fm_dec dtX11_aliveIn 4 rfl) ?_
  refine fm_aloadn (pc := 5) (n := 0) 0 rfl rfl (fm_dec dtX11_aliveIn 5 rfl) ?_
  refine fm_getR (k := 0) (j := 12) (ci := 11) (pc := 6) 4 rfl fl_X11_23 (by decide) rfl (by decide) (by decide) (fm_dec dtX11_aliveIn 6 rfl) ?_
  refine fm_iconst (pc := 9) (v := 0) (by decide) (fm_dec dtX11_aliveIn 7 rfl) ?_
  refine fm_iald (k := 4) (n := 6) (pc := 10) (by decide) rfl rfl (fm_inl (by decide)) (fm_dec dtX11_aliveIn 8 rfl) ?_
  refine fm_icmp_ge (pc := 11) 38 (by decide) (fm_dec dtX11_aliveIn 9 rfl) (fun _ => ?_) (fun hc11 => by exfalso; exact hc11 (by simp [fmI, fmJ, upd, hl]))
  refine fm_iloadn (pc := 38) (n := 2) 2 rfl rfl (fm_dec dtX11_aliveIn 24 rfl) ?_
  exact fm_ireturn (pc := 39) rfl (fm_dec dtX11_aliveIn 25 rfl) hq

set_option maxRecDepth 20000 in
theorem d_riskOf0 {l : Launch} {G : fmG} {M : fmM} {Q : fmR → fmM → Prop} (hst : l.stackTraces = false) (k : Nat) (hl : M.1 4 0 = 0) (hq : Q (.inl (some (.long 0))) M) : fmGood Tm l G 7 qX11_riskOf [.ref (G.1 0), .ref (G.1 k)] M Q := by
  refine fmGood_of hst (by decide +kernel) (Nat.le_of_ble_eq_true rfl) ?_
  show fmEv Tm l G 7 qX11_riskOf 0 [some (.ref (G.1 0)), some (.ref (G.1 k)), none, none, none] [] M Q
  refine fm_lconst (pc := 0) (v := 0) (by decide) (fm_dec dtX11_riskOf 0 rfl) ?_
  refine fm_lstoren (pc := 1) (n := 2) 2 rfl (by decide) rfl (fm_dec dtX11_riskOf 1 rfl) ?_
  dsimp only [List.set_cons_zero, List.set_cons_succ]
  refine fm_iconst (pc := 2) (v := 0) (by decide) (fm_dec dtX11_riskOf 2 rfl) ?_
  refine fm_istore (pc := 3) (i := 4) (by decide) rfl (fm_dec dtX11_riskOf 3 rfl) ?_
  dsimp only [List.set_cons_zero, List.set_cons_succ]
  refine fm_iload (pc := 5) (i := 4) rfl (fm_dec dtX11_riskOf 4 rfl) ?_
  refine fm_aloadn (pc := 7) (n := 0) 0 rfl rfl (fm_dec dtX11_riskOf 5 rfl) ?_
  refine fm_getR (k := 0) (j := 12) (ci := 11) (pc := 8) 4 rfl fl_X11_23 (by decide) rfl (by decide) (by decide) (fm_dec dtX11_riskOf 6 rfl) ?_
  refine fm_iconst (pc := 11) (v := 0) (by decide) (fm_dec dtX11_riskOf 7 rfl) ?_
  refine fm_iald (k := 4) (n := 6) (pc := 12) (by decide) rfl rfl (fm_inl (by decide)) (fm_dec dtX11_riskOf 8 rfl) ?_
  refine fm_icmp_ge (pc := 13) 44 (by decide) (fm_dec dtX11_riskOf 9 rfl) (fun _ => ?_) (fun hc13 => by exfalso; exact hc13 (by simp [fmI, fmJ, upd, hl]))
  refine fm_lloadn (pc := 44) (n := 2) 2 rfl rfl (fm_dec dtX11_riskOf 28 rfl) ?_
  exact fm_lreturn (pc := 45) rfl (fm_dec dtX11_riskOf 29 rfl) hq

set_option maxRecDepth 20000 in
theorem d_firstOf0 {l : Launch} {G : fmG} {M : fmM} {Q : fmR → fmM → Prop} (hst : l.stackTraces = false) (k : Nat) (h : Int32) (hl : M.1 4 0 = 0) (hq : Q (.inl (some (.int (-1)))) M) : fmGood Tm l G 8 qX11_firstOf [.ref (G.1 0), .ref (G.1 k), .int h] M Q := by
  refine fmGood_of hst (by decide +kernel) (Nat.le_of_ble_eq_true rfl) ?_
  show fmEv Tm l G 8 qX11_firstOf 0 [some (.ref (G.1 0)), some (.ref (G.1 k)), some (.int h), none, none] [] M Q
  refine fm_iconst (pc := 0) (v := (-1)) (by decide) (fm_dec dtX11_firstOf 0 rfl) ?_
  refine fm_istoren (pc := 1) (n := 3) 3 rfl (by decide) rfl (fm_dec dtX11_firstOf 1 rfl) ?_
  dsimp only [List.set_cons_zero, List.set_cons_succ]
  refine fm_iconst (pc := 2) (v := 0) (by decide) (fm_dec dtX11_firstOf 2 rfl) ?_
  refine fm_istore (pc := 3) (i := 4) (by decide) rfl (fm_dec dtX11_firstOf 3 rfl) ?_
  dsimp only [List.set_cons_zero, List.set_cons_succ]
  refine fm_iload (pc := 5) (i := 4) rfl (fm_dec dtX11_firstOf 4 rfl) ?_
  refine fm_aloadn (pc := 7) (n := 0) 0 rfl rfl (fm_dec dtX11_firstOf 5 rfl) ?_
  refine fm_getR (k := 0) (j := 12) (ci := 11) (pc := 8) 4 rfl fl_X11_23 (by decide) rfl (by decide) (by decide) (fm_dec dtX11_firstOf 6 rfl) ?_
  refine fm_iconst (pc := 11) (v := 0) (by decide) (fm_dec dtX11_firstOf 7 rfl) ?_
  refine fm_iald (k := 4) (n := 6) (pc := 12) (by decide) rfl rfl (fm_inl (by decide)) (fm_dec dtX11_firstOf 8 rfl) ?_
  refine fm_icmp_ge (pc := 13) 90 (by decide) (fm_dec dtX11_firstOf 9 rfl) (fun _ => ?_) (fun hc13 => by exfalso; exact hc13 (by simp [fmI, fmJ, upd, hl]))
  refine fm_iloadn (pc := 90) (n := 3) 3 rfl rfl (fm_dec dtX11_firstOf 53 rfl) ?_
  exact fm_ireturn (pc := 91) rfl (fm_dec dtX11_firstOf 54 rfl) hq

set_option maxRecDepth 20000 in
theorem m_first {l : Launch} {G : fmG} {M : fmM} {Q : fmR → fmM → Prop} (hst : l.stackTraces = false)  (hl : M.1 4 0 = 0) (hq : ∀ M', Q (.inl (some (.int (-1)))) M') : fmGood Tm l G 9 qX11_first [.ref (G.1 0)] M Q := by
  refine fmGood_of hst (by decide +kernel) (Nat.le_of_ble_eq_true rfl) ?_
  show fmEv Tm l G 9 qX11_first 0 [some (.ref (G.1 0))] [] M Q
  refine fm_aloadn (pc := 0) (n := 0) 0 rfl rfl (fm_dec dtX11_first 0 rfl) ?_
  refine fm_iconst (pc := 1) (v := 0) (by decide) (fm_dec dtX11_first 1 rfl) ?_
  refine fm_putI (k := 0) (j := 0) (ci := 11) (pc := 2) fl_X11_101 (by decide) rfl (by decide) rfl rfl (fm_dec dtX11_first 2 rfl) ?_
  refine fm_aloadn (pc := 5) (n := 0) 0 rfl rfl (fm_dec dtX11_first 3 rfl) ?_
  refine fm_aloadn (pc := 6) (n := 0) 0 rfl rfl (fm_dec dtX11_first 4 rfl) ?_
  refine fm_getR (k := 0) (j := 27) (ci := 11) (pc := 7) 7 rfl fl_X11_61 (by decide) rfl (by decide) (by decide) (fm_dec dtX11_first 5 rfl) ?_
  refine fm_bipush (pc := 10) (v := 12) (by decide) (fm_dec dtX11_first 6 rfl) ?_
  refine fm_invV2 (k := 0) (d' := 8) (pc := 12) cv_X11_358 (by decide) rfl (Nat.le_of_ble_eq_true rfl) (by decide) (fm_dec dtX11_first 7 rfl) ?_
  refine d_firstOf0 hst _ _ (by first | exact hl | simp [fmI, fmJ, upd, hl]) ?_
  refine fm_then1 ?_
  exact fm_ireturn (pc := 15) rfl (fm_dec dtX11_first 8 rfl) (hq _)

set_option maxRecDepth 20000 in
theorem m_lacking {l : Launch} {G : fmG} {M : fmM} {Q : fmR → fmM → Prop} (hst : l.stackTraces = false)  (hl : M.1 4 0 = 0) (hq : ∀ M', Q (.inl (some (.int 0))) M') : fmGood Tm l G 1 qX11_lacking [.ref (G.1 0)] M Q := by
  refine fmGood_of hst (by decide +kernel) (Nat.le_of_ble_eq_true rfl) ?_
  show fmEv Tm l G 1 qX11_lacking 0 [some (.ref (G.1 0)), none, none] [] M Q
  refine fm_aloadn (pc := 0) (n := 0) 0 rfl rfl (fm_dec dtX11_lacking 0 rfl) ?_
  refine fm_iconst (pc := 1) (v := 0) (by decide) (fm_dec dtX11_lacking 1 rfl) ?_
  refine fm_putI (k := 0) (j := 0) (ci := 11) (pc := 2) fl_X11_101 (by decide) rfl (by decide) rfl rfl (fm_dec dtX11_lacking 2 rfl) ?_
  refine fm_iconst (pc := 5) (v := 0) (by decide) (fm_dec dtX11_lacking 3 rfl) ?_
  refine fm_istoren (pc := 6) (n := 1) 1 rfl (by decide) rfl (fm_dec dtX11_lacking 4 rfl) ?_
  dsimp only [List.set_cons_zero, List.set_cons_succ]
  refine fm_iconst (pc := 7) (v := 0) (by decide) (fm_dec dtX11_lacking 5 rfl) ?_
  refine fm_istoren (pc := 8) (n := 2) 2 rfl (by decide) rfl (fm_dec dtX11_lacking 6 rfl) ?_
  dsimp only [List.set_cons_zero, List.set_cons_succ]
  refine fm_iloadn (pc := 9) (n := 2) 2 rfl rfl (fm_dec dtX11_lacking 7 rfl) ?_
  refine fm_aloadn (pc := 10) (n := 0) 0 rfl rfl (fm_dec dtX11_lacking 8 rfl) ?_
  refine fm_getR (k := 0) (j := 12) (ci := 11) (pc := 11) 4 rfl fl_X11_23 (by decide) rfl (by decide) (by decide) (fm_dec dtX11_lacking 9 rfl) ?_
  refine fm_iconst (pc := 14) (v := 0) (by decide) (fm_dec dtX11_lacking 10 rfl) ?_
  refine fm_iald (k := 4) (n := 6) (pc := 15) (by decide) rfl rfl (fm_inl (by decide)) (fm_dec dtX11_lacking 11 rfl) ?_
  refine fm_icmp_ge (pc := 16) 59 (by decide) (fm_dec dtX11_lacking 12 rfl) (fun _ => ?_) (fun hc16 => by exfalso; exact hc16 (by simp [fmI, fmJ, upd, hl]))
  refine fm_iloadn (pc := 59) (n := 1) 1 rfl rfl (fm_dec dtX11_lacking 35 rfl) ?_
  exact fm_ireturn (pc := 60) rfl (fm_dec dtX11_lacking 36 rfl) (hq _)

set_option maxRecDepth 20000 in
theorem m_signed {l : Launch} {G : fmG} {M : fmM} {Q : fmR → fmM → Prop} (hst : l.stackTraces = false)  (hl : M.1 4 0 = 0) (hq : ∀ M', Q (.inl (some (.int 0))) M') : fmGood Tm l G 2 qX11_signed [.ref (G.1 0)] M Q := by
  refine fmGood_of hst (by decide +kernel) (Nat.le_of_ble_eq_true rfl) ?_
  show fmEv Tm l G 2 qX11_signed 0 [some (.ref (G.1 0)), none, none] [] M Q
  refine fm_aloadn (pc := 0) (n := 0) 0 rfl rfl (fm_dec dtX11_signed 0 rfl) ?_
  refine fm_iconst (pc := 1) (v := 0) (by decide) (fm_dec dtX11_signed 1 rfl) ?_
  refine fm_putI (k := 0) (j := 0) (ci := 11) (pc := 2) fl_X11_101 (by decide) rfl (by decide) rfl rfl (fm_dec dtX11_signed 2 rfl) ?_
  refine fm_iconst (pc := 5) (v := 0) (by decide) (fm_dec dtX11_signed 3 rfl) ?_
  refine fm_istoren (pc := 6) (n := 1) 1 rfl (by decide) rfl (fm_dec dtX11_signed 4 rfl) ?_
  dsimp only [List.set_cons_zero, List.set_cons_succ]
  refine fm_iconst (pc := 7) (v := 0) (by decide) (fm_dec dtX11_signed 5 rfl) ?_
  refine fm_istoren (pc := 8) (n := 2) 2 rfl (by decide) rfl (fm_dec dtX11_signed 6 rfl) ?_
  dsimp only [List.set_cons_zero, List.set_cons_succ]
  refine fm_iloadn (pc := 9) (n := 2) 2 rfl rfl (fm_dec dtX11_signed 7 rfl) ?_
  refine fm_aloadn (pc := 10) (n := 0) 0 rfl rfl (fm_dec dtX11_signed 8 rfl) ?_
  refine fm_getR (k := 0) (j := 12) (ci := 11) (pc := 11) 4 rfl fl_X11_23 (by decide) rfl (by decide) (by decide) (fm_dec dtX11_signed 9 rfl) ?_
  refine fm_iconst (pc := 14) (v := 0) (by decide) (fm_dec dtX11_signed 10 rfl) ?_
  refine fm_iald (k := 4) (n := 6) (pc := 15) (by decide) rfl rfl (fm_inl (by decide)) (fm_dec dtX11_signed 11 rfl) ?_
  refine fm_icmp_ge (pc := 16) 59 (by decide) (fm_dec dtX11_signed 12 rfl) (fun _ => ?_) (fun hc16 => by exfalso; exact hc16 (by simp [fmI, fmJ, upd, hl]))
  refine fm_iloadn (pc := 59) (n := 1) 1 rfl rfl (fm_dec dtX11_signed 35 rfl) ?_
  exact fm_ireturn (pc := 60) rfl (fm_dec dtX11_signed 36 rfl) (hq _)

set_option maxRecDepth 20000 in
theorem m_whose {l : Launch} {G : fmG} {M : fmM} {Q : fmR → fmM → Prop} (hst : l.stackTraces = false)  (hl : M.1 4 0 = 0) (hq : ∀ M', Q (.inl (some (.int 0))) M') : fmGood Tm l G 2 qX11_whose [.ref (G.1 0)] M Q := by
  refine fmGood_of hst (by decide +kernel) (Nat.le_of_ble_eq_true rfl) ?_
  show fmEv Tm l G 2 qX11_whose 0 [some (.ref (G.1 0)), none, none] [] M Q
  refine fm_aloadn (pc := 0) (n := 0) 0 rfl rfl (fm_dec dtX11_whose 0 rfl) ?_
  refine fm_iconst (pc := 1) (v := 0) (by decide) (fm_dec dtX11_whose 1 rfl) ?_
  refine fm_putI (k := 0) (j := 0) (ci := 11) (pc := 2) fl_X11_101 (by decide) rfl (by decide) rfl rfl (fm_dec dtX11_whose 2 rfl) ?_
  refine fm_iconst (pc := 5) (v := 0) (by decide) (fm_dec dtX11_whose 3 rfl) ?_
  refine fm_istoren (pc := 6) (n := 1) 1 rfl (by decide) rfl (fm_dec dtX11_whose 4 rfl) ?_
  dsimp only [List.set_cons_zero, List.set_cons_succ]
  refine fm_iconst (pc := 7) (v := 0) (by decide) (fm_dec dtX11_whose 5 rfl) ?_
  refine fm_istoren (pc := 8) (n := 2) 2 rfl (by decide) rfl (fm_dec dtX11_whose 6 rfl) ?_
  dsimp only [List.set_cons_zero, List.set_cons_succ]
  refine fm_iloadn (pc := 9) (n := 2) 2 rfl rfl (fm_dec dtX11_whose 7 rfl) ?_
  refine fm_aloadn (pc := 10) (n := 0) 0 rfl rfl (fm_dec dtX11_whose 8 rfl) ?_
  refine fm_getR (k := 0) (j := 12) (ci := 11) (pc := 11) 4 rfl fl_X11_23 (by decide) rfl (by decide) (by decide) (fm_dec dtX11_whose 9 rfl) ?_
  refine fm_iconst (pc := 14) (v := 0) (by decide) (fm_dec dtX11_whose 10 rfl) ?_
  refine fm_iald (k := 4) (n := 6) (pc := 15) (by decide) rfl rfl (fm_inl (by decide)) (fm_dec dtX11_whose 11 rfl) ?_
  refine fm_icmp_ge (pc := 16) 45 (by decide) (fm_dec dtX11_whose 12 rfl) (fun _ => ?_) (fun hc16 => by exfalso; exact hc16 (by simp [fmI, fmJ, upd, hl]))
  refine fm_iloadn (pc := 45) (n := 1) 1 rfl rfl (fm_dec dtX11_whose 29 rfl) ?_
  exact fm_ireturn (pc := 46) rfl (fm_dec dtX11_whose 30 rfl) (hq _)

set_option maxRecDepth 20000 in
theorem m_oldest {l : Launch} {G : fmG} {M : fmM} {Q : fmR → fmM → Prop} (hst : l.stackTraces = false)  (hl : M.1 4 0 = 0) (hq : ∀ M', Q (.inl (some (.int (-1)))) M') : fmGood Tm l G 1 qX11_oldest [.ref (G.1 0)] M Q := by
  refine fmGood_of hst (by decide +kernel) (Nat.le_of_ble_eq_true rfl) ?_
  show fmEv Tm l G 1 qX11_oldest 0 [some (.ref (G.1 0)), none, none] [] M Q
  refine fm_aloadn (pc := 0) (n := 0) 0 rfl rfl (fm_dec dtX11_oldest 0 rfl) ?_
  refine fm_iconst (pc := 1) (v := 0) (by decide) (fm_dec dtX11_oldest 1 rfl) ?_
  refine fm_putI (k := 0) (j := 0) (ci := 11) (pc := 2) fl_X11_101 (by decide) rfl (by decide) rfl rfl (fm_dec dtX11_oldest 2 rfl) ?_
  refine fm_iconst (pc := 5) (v := (-1)) (by decide) (fm_dec dtX11_oldest 3 rfl) ?_
  refine fm_istoren (pc := 6) (n := 1) 1 rfl (by decide) rfl (fm_dec dtX11_oldest 4 rfl) ?_
  dsimp only [List.set_cons_zero, List.set_cons_succ]
  refine fm_iconst (pc := 7) (v := 0) (by decide) (fm_dec dtX11_oldest 5 rfl) ?_
  refine fm_istoren (pc := 8) (n := 2) 2 rfl (by decide) rfl (fm_dec dtX11_oldest 6 rfl) ?_
  dsimp only [List.set_cons_zero, List.set_cons_succ]
  refine fm_iloadn (pc := 9) (n := 2) 2 rfl rfl (fm_dec dtX11_oldest 7 rfl) ?_
  refine fm_aloadn (pc := 10) (n := 0) 0 rfl rfl (fm_dec dtX11_oldest 8 rfl) ?_
  refine fm_getR (k := 0) (j := 12) (ci := 11) (pc := 11) 4 rfl fl_X11_23 (by decide) rfl (by decide) (by decide) (fm_dec dtX11_oldest 9 rfl) ?_
  refine fm_iconst (pc := 14) (v := 0) (by decide) (fm_dec dtX11_oldest 10 rfl) ?_
  refine fm_iald (k := 4) (n := 6) (pc := 15) (by decide) rfl rfl (fm_inl (by decide)) (fm_dec dtX11_oldest 11 rfl) ?_
  refine fm_icmp_ge (pc := 16) 62 (by decide) (fm_dec dtX11_oldest 12 rfl) (fun _ => ?_) (fun hc16 => by exfalso; exact hc16 (by simp [fmI, fmJ, upd, hl]))
  refine fm_iloadn (pc := 62) (n := 1) 1 rfl rfl (fm_dec dtX11_oldest 38 rfl) ?_
  exact fm_ireturn (pc := 63) rfl (fm_dec dtX11_oldest 39 rfl) (hq _)

set_option maxRecDepth 20000 in
theorem m_twins {l : Launch} {G : fmG} {M : fmM} {Q : fmR → fmM → Prop} (hst : l.stackTraces = false)  (hl : M.1 4 0 = 0) (hq : ∀ M', Q (.inl (some (.int (-1)))) M') : fmGood Tm l G 1 qX11_twins [.ref (G.1 0)] M Q := by
  refine fmGood_of hst (by decide +kernel) (Nat.le_of_ble_eq_true rfl) ?_
  show fmEv Tm l G 1 qX11_twins 0 [some (.ref (G.1 0)), none, none] [] M Q
  refine fm_aloadn (pc := 0) (n := 0) 0 rfl rfl (fm_dec dtX11_twins 0 rfl) ?_
  refine fm_iconst (pc := 1) (v := 0) (by decide) (fm_dec dtX11_twins 1 rfl) ?_
  refine fm_putI (k := 0) (j := 0) (ci := 11) (pc := 2) fl_X11_101 (by decide) rfl (by decide) rfl rfl (fm_dec dtX11_twins 2 rfl) ?_
  refine fm_iconst (pc := 5) (v := 0) (by decide) (fm_dec dtX11_twins 3 rfl) ?_
  refine fm_istoren (pc := 6) (n := 1) 1 rfl (by decide) rfl (fm_dec dtX11_twins 4 rfl) ?_
  dsimp only [List.set_cons_zero, List.set_cons_succ]
  refine fm_iloadn (pc := 7) (n := 1) 1 rfl rfl (fm_dec dtX11_twins 5 rfl) ?_
  refine fm_aloadn (pc := 8) (n := 0) 0 rfl rfl (fm_dec dtX11_twins 6 rfl) ?_
  refine fm_getR (k := 0) (j := 12) (ci := 11) (pc := 9) 4 rfl fl_X11_23 (by decide) rfl (by decide) (by decide) (fm_dec dtX11_twins 7 rfl) ?_
  refine fm_iconst (pc := 12) (v := 0) (by decide) (fm_dec dtX11_twins 8 rfl) ?_
  refine fm_iald (k := 4) (n := 6) (pc := 13) (by decide) rfl rfl (fm_inl (by decide)) (fm_dec dtX11_twins 9 rfl) ?_
  refine fm_icmp_ge (pc := 14) 77 (by decide) (fm_dec dtX11_twins 10 rfl) (fun _ => ?_) (fun hc14 => by exfalso; exact hc14 (by simp [fmI, fmJ, upd, hl]))
  refine fm_iconst (pc := 77) (v := (-1)) (by decide) (fm_dec dtX11_twins 46 rfl) ?_
  exact fm_ireturn (pc := 78) rfl (fm_dec dtX11_twins 47 rfl) (hq _)

set_option maxRecDepth 20000 in
theorem m_stale {l : Launch} {G : fmG} {M : fmM} {Q : fmR → fmM → Prop} (hst : l.stackTraces = false) (n : Int32) (hl : M.1 4 0 = 0) (hq : ∀ M', M'.1 0 0 = 0 → (inR n 0 65) → Q (.inl (some (.int 0))) M') (hx : ∀ (r9 : Int32) M', M'.1 0 0 = 1 → ¬ (inR n 0 65) → Q (.inl (some (.int r9))) M') : fmGood Tm l G 6 qX11_stale [.ref (G.1 0), .int n] M Q := by
  refine fmGood_of hst (by decide +kernel) (Nat.le_of_ble_eq_true rfl) ?_
  show fmEv Tm l G 6 qX11_stale 0 [some (.ref (G.1 0)), some (.int n), none, none] [] M Q
  refine fm_aloadn (pc := 0) (n := 0) 0 rfl rfl (fm_dec dtX11_stale 0 rfl) ?_
  refine fm_iconst (pc := 1) (v := 0) (by decide) (fm_dec dtX11_stale 1 rfl) ?_
  refine fm_putI (k := 0) (j := 0) (ci := 11) (pc := 2) fl_X11_101 (by decide) rfl (by decide) rfl rfl (fm_dec dtX11_stale 2 rfl) ?_
  refine fm_aloadn (pc := 5) (n := 0) 0 rfl rfl (fm_dec dtX11_stale 3 rfl) ?_
  refine fm_iloadn (pc := 6) (n := 1) 1 rfl rfl (fm_dec dtX11_stale 4 rfl) ?_
  refine fm_iconst (pc := 7) (v := 0) (by decide) (fm_dec dtX11_stale 5 rfl) ?_
  refine fm_bipush (pc := 8) (v := 65) (by decide) (fm_dec dtX11_stale 6 rfl) ?_
  refine fm_invS3 (d' := 0) (pc := 10) cs_X11_135 (Nat.le_of_ble_eq_true rfl) (by decide) (fm_dec dtX11_stale 7 rfl) ?_
  refine d_in hst _ _ _ (fun hi10 => ?_) (fun hn10 => ?_)
  · refine fm_then1 ?_
    refine fm_if_ne (pc := 13) 20 (by decide) (fm_dec dtX11_stale 8 rfl) (fun _ => ?_) (fun hc13 => by exfalso; revert hc13; decide)
    refine fm_iconst (pc := 20) (v := 0) (by decide) (fm_dec dtX11_stale 11 rfl) ?_
    refine fm_iconst (pc := 21) (v := 1) (by decide) (fm_dec dtX11_stale 12 rfl) ?_
    refine fm_iconst (pc := 22) (v := 1) (by decide) (fm_dec dtX11_stale 13 rfl) ?_
    refine fm_invV3 (k := 0) (d' := 0) (pc := 23) cv_X11_177 (by decide) rfl (Nat.le_of_ble_eq_true rfl) (by decide) (fm_dec dtX11_stale 14 rfl) ?_
    refine d_bad0 hst _ _ (by first | exact h0 | simp [fmI, upd]) ?_
    refine fm_then1 ?_
    refine fm_if_eq (pc := 26) 31 (by decide) (fm_dec dtX11_stale 15 rfl) (fun _ => ?_) (fun hc26 => by exfalso; revert hc26; decide)
    refine fm_iconst (pc := 31) (v := 0) (by decide) (fm_dec dtX11_stale 18 rfl) ?_
    refine fm_istoren (pc := 32) (n := 2) 2 rfl (by decide) rfl (fm_dec dtX11_stale 19 rfl) ?_
    dsimp only [List.set_cons_zero, List.set_cons_succ]
    refine fm_iconst (pc := 33) (v := 0) (by decide) (fm_dec dtX11_stale 20 rfl) ?_
    refine fm_istoren (pc := 34) (n := 3) 3 rfl (by decide) rfl (fm_dec dtX11_stale 21 rfl) ?_
    dsimp only [List.set_cons_zero, List.set_cons_succ]
    refine fm_iloadn (pc := 35) (n := 3) 3 rfl rfl (fm_dec dtX11_stale 22 rfl) ?_
    refine fm_aloadn (pc := 36) (n := 0) 0 rfl rfl (fm_dec dtX11_stale 23 rfl) ?_
    refine fm_getR (k := 0) (j := 12) (ci := 11) (pc := 37) 4 rfl fl_X11_23 (by decide) rfl (by decide) (by decide) (fm_dec dtX11_stale 24 rfl) ?_
    refine fm_iconst (pc := 40) (v := 0) (by decide) (fm_dec dtX11_stale 25 rfl) ?_
    refine fm_iald (k := 4) (n := 6) (pc := 41) (by decide) rfl rfl (fm_inl (by decide)) (fm_dec dtX11_stale 26 rfl) ?_
    refine fm_icmp_ge (pc := 42) 81 (by decide) (fm_dec dtX11_stale 27 rfl) (fun _ => ?_) (fun hc42 => by exfalso; exact hc42 (by simp [fmI, fmJ, upd, hl]))
    refine fm_iloadn (pc := 81) (n := 2) 2 rfl rfl (fm_dec dtX11_stale 48 rfl) ?_
    exact fm_ireturn (pc := 82) rfl (fm_dec dtX11_stale 49 rfl) (hq _ (by first | exact hth | simp [fmI, fmJ, upd]) hi10)
  · refine fm_then1 ?_
    refine fm_if_ne (pc := 13) 20 (by decide) (fm_dec dtX11_stale 8 rfl) (fun hc13 => by exfalso; revert hc13; decide) (fun _ => ?_)
    refine fm_iconst (pc := 16) (v := 1) (by decide) (fm_dec dtX11_stale 9 rfl) ?_
    refine fm_goto (pc := 17) 21 (by decide) (fm_dec dtX11_stale 10 rfl) ?_
    refine fm_iconst (pc := 21) (v := 1) (by decide) (fm_dec dtX11_stale 12 rfl) ?_
    refine fm_iconst (pc := 22) (v := 1) (by decide) (fm_dec dtX11_stale 13 rfl) ?_
    refine fm_invV3 (k := 0) (d' := 0) (pc := 23) cv_X11_177 (by decide) rfl (Nat.le_of_ble_eq_true rfl) (by decide) (fm_dec dtX11_stale 14 rfl) ?_
    refine d_bad1_1 hst _ (by first | exact h0 | simp [fmI, upd]) (by decide) (fun Mb hb => ?_)
    refine fm_then1 ?_
    refine fm_if_eq (pc := 26) 31 (by decide) (fm_dec dtX11_stale 15 rfl) (fun hc26 => by exfalso; revert hc26; decide) (fun _ => ?_)
    refine fm_iconst (pc := 29) (v := 0) (by decide) (fm_dec dtX11_stale 16 rfl) ?_
    exact fm_ireturn (pc := 30) rfl (fm_dec dtX11_stale 17 rfl) (hx _ _ hb hn10)

set_option maxRecDepth 20000 in
theorem m_told {l : Launch} {G : fmG} {M : fmM} {Q : fmR → fmM → Prop} (hst : l.stackTraces = false) (w : Int32) (hl : M.1 4 0 = 0) (h10 : M.1 7 10 = 0) (h9 : M.1 7 9 = 8) (h11 : M.1 7 11 = 0) (h12 : M.1 7 12 = 0) (h31 : M.1 0 31 = 0) (h33 : M.1 0 33 = 0) (hq : ∀ M', M'.1 0 0 = 0 → (inR w 0 8) → Q (.inl (some (.int (if w = 2 then 8 else 0)))) M') (hx : ∀ (r9 : Int32) M', M'.1 0 0 = 1 → ¬ (inR w 0 8) → Q (.inl (some (.int r9))) M') : fmGood Tm l G 2 qX11_told [.ref (G.1 0), .int w] M Q := by
  refine fmGood_of hst (by decide +kernel) (Nat.le_of_ble_eq_true rfl) ?_
  show fmEv Tm l G 2 qX11_told 0 [some (.ref (G.1 0)), some (.int w), none, none] [] M Q
  refine fm_aloadn (pc := 0) (n := 0) 0 rfl rfl (fm_dec dtX11_told 0 rfl) ?_
  refine fm_iconst (pc := 1) (v := 0) (by decide) (fm_dec dtX11_told 1 rfl) ?_
  refine fm_putI (k := 0) (j := 0) (ci := 11) (pc := 2) fl_X11_101 (by decide) rfl (by decide) rfl rfl (fm_dec dtX11_told 2 rfl) ?_
  refine fm_aloadn (pc := 5) (n := 0) 0 rfl rfl (fm_dec dtX11_told 3 rfl) ?_
  refine fm_iloadn (pc := 6) (n := 1) 1 rfl rfl (fm_dec dtX11_told 4 rfl) ?_
  refine fm_iconst (pc := 7) (v := 0) (by decide) (fm_dec dtX11_told 5 rfl) ?_
  refine fm_bipush (pc := 8) (v := 8) (by decide) (fm_dec dtX11_told 6 rfl) ?_
  refine fm_invS3 (d' := 0) (pc := 10) cs_X11_135 (Nat.le_of_ble_eq_true rfl) (by decide) (fm_dec dtX11_told 7 rfl) ?_
  refine d_in hst _ _ _ (fun hi10 => ?_) (fun hn10 => ?_)
  · refine fm_then1 ?_
    refine fm_if_ne (pc := 13) 20 (by decide) (fm_dec dtX11_told 8 rfl) (fun _ => ?_) (fun hc13 => by exfalso; revert hc13; decide)
    refine fm_iconst (pc := 20) (v := 0) (by decide) (fm_dec dtX11_told 11 rfl) ?_
    refine fm_iconst (pc := 21) (v := 1) (by decide) (fm_dec dtX11_told 12 rfl) ?_
    refine fm_iconst (pc := 22) (v := 1) (by decide) (fm_dec dtX11_told 13 rfl) ?_
    refine fm_invV3 (k := 0) (d' := 0) (pc := 23) cv_X11_177 (by decide) rfl (Nat.le_of_ble_eq_true rfl) (by decide) (fm_dec dtX11_told 14 rfl) ?_
    refine d_bad0 hst _ _ (by first | exact h0 | simp [fmI, upd]) ?_
    refine fm_then1 ?_
    refine fm_if_eq (pc := 26) 31 (by decide) (fm_dec dtX11_told 15 rfl) (fun _ => ?_) (fun hc26 => by exfalso; revert hc26; decide)
    refine fm_iloadn (pc := 31) (n := 1) 1 rfl rfl (fm_dec dtX11_told 18 rfl) ?_
    rcases inR_08 hi10 with rfl | rfl | rfl | rfl | rfl | rfl | rfl | rfl | rfl
    · refine fm_table (pc := 32) 80 (by decide) rfl (fm_dec dtX11_told 19 rfl) ?_
      refine fm_aloadn (pc := 80) (n := 0) 0 rfl rfl (fm_dec dtX11_told 20 rfl) ?_
      refine fm_getR (k := 0) (j := 12) (ci := 11) (pc := 81) 4 rfl fl_X11_23 (by decide) rfl (by decide) (by decide) (fm_dec dtX11_told 21 rfl) ?_
      refine fm_iconst (pc := 84) (v := 0) (by decide) (fm_dec dtX11_told 22 rfl) ?_
      refine fm_iald (k := 4) (n := 6) (pc := 85) (by decide) rfl rfl (fm_inl (by decide)) (fm_dec dtX11_told 23 rfl) ?_
      exact fm_ireturn (pc := 86) rfl (fm_dec dtX11_told 24 rfl) (by have hq := hq (fmI M 0 0 0) (by simp [fmI, upd]) hi10; simpa [fmI, upd, hl, h10, h9, h11, h12, h31, h33] using hq)
    · refine fm_table (pc := 32) 87 (by decide) rfl (fm_dec dtX11_told 19 rfl) ?_
      refine fm_aloadn (pc := 87) (n := 0) 0 rfl rfl (fm_dec dtX11_told 25 rfl) ?_
      refine fm_getR (k := 0) (j := 27) (ci := 11) (pc := 88) 7 rfl fl_X11_61 (by decide) rfl (by decide) (by decide) (fm_dec dtX11_told 26 rfl) ?_
      refine fm_bipush (pc := 91) (v := 10) (by decide) (fm_dec dtX11_told 27 rfl) ?_
      refine fm_iald (k := 7) (n := 14) (pc := 93) (by decide) rfl rfl (fm_inl (by decide)) (fm_dec dtX11_told 28 rfl) ?_
      exact fm_ireturn (pc := 94) rfl (fm_dec dtX11_told 29 rfl) (by have hq := hq (fmI M 0 0 0) (by simp [fmI, upd]) hi10; simpa [fmI, upd, hl, h10, h9, h11, h12, h31, h33] using hq)
    · refine fm_table (pc := 32) 95 (by decide) rfl (fm_dec dtX11_told 19 rfl) ?_
      refine fm_aloadn (pc := 95) (n := 0) 0 rfl rfl (fm_dec dtX11_told 30 rfl) ?_
      refine fm_getR (k := 0) (j := 27) (ci := 11) (pc := 96) 7 rfl fl_X11_61 (by decide) rfl (by decide) (by decide) (fm_dec dtX11_told 31 rfl) ?_
      refine fm_bipush (pc := 99) (v := 9) (by decide) (fm_dec dtX11_told 32 rfl) ?_
      refine fm_iald (k := 7) (n := 14) (pc := 101) (by decide) rfl rfl (fm_inl (by decide)) (fm_dec dtX11_told 33 rfl) ?_
      exact fm_ireturn (pc := 102) rfl (fm_dec dtX11_told 34 rfl) (by have hq := hq (fmI M 0 0 0) (by simp [fmI, upd]) hi10; simpa [fmI, upd, hl, h10, h9, h11, h12, h31, h33] using hq)
    · refine fm_table (pc := 32) 103 (by decide) rfl (fm_dec dtX11_told 19 rfl) ?_
      refine fm_aloadn (pc := 103) (n := 0) 0 rfl rfl (fm_dec dtX11_told 35 rfl) ?_
      refine fm_aloadn (pc := 104) (n := 0) 0 rfl rfl (fm_dec dtX11_told 36 rfl) ?_
      refine fm_getR (k := 0) (j := 27) (ci := 11) (pc := 105) 7 rfl fl_X11_61 (by decide) rfl (by decide) (by decide) (fm_dec dtX11_told 37 rfl) ?_
      refine fm_invV1 (k := 0) (d' := 1) (pc := 108) cv_X11_327 (by decide) rfl (Nat.le_of_ble_eq_true rfl) (by decide) (fm_dec dtX11_told 38 rfl) ?_
      refine d_alive0 hst _ (by first | exact hl | simp [fmI, fmJ, upd, hl]) ?_
      refine fm_then1 ?_
      exact fm_ireturn (pc := 111) rfl (fm_dec dtX11_told 39 rfl) (by have hq := hq (fmI M 0 0 0) (by simp [fmI, upd]) hi10; simpa [fmI, upd, hl, h10, h9, h11, h12, h31, h33] using hq)
    · refine fm_table (pc := 32) 112 (by decide) rfl (fm_dec dtX11_told 19 rfl) ?_
      refine fm_iconst (pc := 112) (v := 0) (by decide) (fm_dec dtX11_told 40 rfl) ?_
      refine fm_istoren (pc := 113) (n := 2) 2 rfl (by decide) rfl (fm_dec dtX11_told 41 rfl) ?_
      dsimp only [List.set_cons_zero, List.set_cons_succ]
      refine fm_iconst (pc := 114) (v := 0) (by decide) (fm_dec dtX11_told 42 rfl) ?_
      refine fm_istoren (pc := 115) (n := 3) 3 rfl (by decide) rfl (fm_dec dtX11_told 43 rfl) ?_
      dsimp only [List.set_cons_zero, List.set_cons_succ]
      refine fm_iloadn (pc := 116) (n := 3) 3 rfl rfl (fm_dec dtX11_told 44 rfl) ?_
      refine fm_aloadn (pc := 117) (n := 0) 0 rfl rfl (fm_dec dtX11_told 45 rfl) ?_
      refine fm_getR (k := 0) (j := 12) (ci := 11) (pc := 118) 4 rfl fl_X11_23 (by decide) rfl (by decide) (by decide) (fm_dec dtX11_told 46 rfl) ?_
      refine fm_iconst (pc := 121) (v := 0) (by decide) (fm_dec dtX11_told 47 rfl) ?_
      refine fm_iald (k := 4) (n := 6) (pc := 122) (by decide) rfl rfl (fm_inl (by decide)) (fm_dec dtX11_told 48 rfl) ?_
      refine fm_icmp_ge (pc := 123) 151 (by decide) (fm_dec dtX11_told 49 rfl) (fun _ => ?_) (fun hc123 => by exfalso; exact hc123 (by simp [fmI, fmJ, upd, hl]))
      refine fm_iloadn (pc := 151) (n := 2) 2 rfl rfl (fm_dec dtX11_told 63 rfl) ?_
      exact fm_ireturn (pc := 152) rfl (fm_dec dtX11_told 64 rfl) (by have hq := hq (fmI M 0 0 0) (by simp [fmI, upd]) hi10; simpa [fmI, upd, hl, h10, h9, h11, h12, h31, h33] using hq)
    · refine fm_table (pc := 32) 153 (by decide) rfl (fm_dec dtX11_told 19 rfl) ?_
      refine fm_aloadn (pc := 153) (n := 0) 0 rfl rfl (fm_dec dtX11_told 65 rfl) ?_
      refine fm_getR (k := 0) (j := 27) (ci := 11) (pc := 154) 7 rfl fl_X11_61 (by decide) rfl (by decide) (by decide) (fm_dec dtX11_told 66 rfl) ?_
      refine fm_bipush (pc := 157) (v := 11) (by decide) (fm_dec dtX11_told 67 rfl) ?_
      refine fm_iald (k := 7) (n := 14) (pc := 159) (by decide) rfl rfl (fm_inl (by decide)) (fm_dec dtX11_told 68 rfl) ?_
      exact fm_ireturn (pc := 160) rfl (fm_dec dtX11_told 69 rfl) (by have hq := hq (fmI M 0 0 0) (by simp [fmI, upd]) hi10; simpa [fmI, upd, hl, h10, h9, h11, h12, h31, h33] using hq)
    · refine fm_table (pc := 32) 161 (by decide) rfl (fm_dec dtX11_told 19 rfl) ?_
      refine fm_aloadn (pc := 161) (n := 0) 0 rfl rfl (fm_dec dtX11_told 70 rfl) ?_
      refine fm_getR (k := 0) (j := 27) (ci := 11) (pc := 162) 7 rfl fl_X11_61 (by decide) rfl (by decide) (by decide) (fm_dec dtX11_told 71 rfl) ?_
      refine fm_bipush (pc := 165) (v := 12) (by decide) (fm_dec dtX11_told 72 rfl) ?_
      refine fm_iald (k := 7) (n := 14) (pc := 167) (by decide) rfl rfl (fm_inl (by decide)) (fm_dec dtX11_told 73 rfl) ?_
      exact fm_ireturn (pc := 168) rfl (fm_dec dtX11_told 74 rfl) (by have hq := hq (fmI M 0 0 0) (by simp [fmI, upd]) hi10; simpa [fmI, upd, hl, h10, h9, h11, h12, h31, h33] using hq)
    · refine fm_table (pc := 32) 169 (by decide) rfl (fm_dec dtX11_told 19 rfl) ?_
      refine fm_aloadn (pc := 169) (n := 0) 0 rfl rfl (fm_dec dtX11_told 75 rfl) ?_
      refine fm_getI (k := 0) (j := 31) (ci := 11) (pc := 170) fl_X11_197 (by decide) rfl (by decide) rfl (fm_dec dtX11_told 76 rfl) ?_
      exact fm_ireturn (pc := 173) rfl (fm_dec dtX11_told 77 rfl) (by have hq := hq (fmI M 0 0 0) (by simp [fmI, upd]) hi10; simpa [fmI, upd, hl, h10, h9, h11, h12, h31, h33] using hq)
    · refine fm_table (pc := 32) 174 (by decide) rfl (fm_dec dtX11_told 19 rfl) ?_
      refine fm_aloadn (pc := 174) (n := 0) 0 rfl rfl (fm_dec dtX11_told 78 rfl) ?_
      refine fm_getI (k := 0) (j := 33) (ci := 11) (pc := 175) fl_X11_203 (by decide) rfl (by decide) rfl (fm_dec dtX11_told 79 rfl) ?_
      exact fm_ireturn (pc := 178) rfl (fm_dec dtX11_told 80 rfl) (by have hq := hq (fmI M 0 0 0) (by simp [fmI, upd]) hi10; simpa [fmI, upd, hl, h10, h9, h11, h12, h31, h33] using hq)
  · refine fm_then1 ?_
    refine fm_if_ne (pc := 13) 20 (by decide) (fm_dec dtX11_told 8 rfl) (fun hc13 => by exfalso; revert hc13; decide) (fun _ => ?_)
    refine fm_iconst (pc := 16) (v := 1) (by decide) (fm_dec dtX11_told 9 rfl) ?_
    refine fm_goto (pc := 17) 21 (by decide) (fm_dec dtX11_told 10 rfl) ?_
    refine fm_iconst (pc := 21) (v := 1) (by decide) (fm_dec dtX11_told 12 rfl) ?_
    refine fm_iconst (pc := 22) (v := 1) (by decide) (fm_dec dtX11_told 13 rfl) ?_
    refine fm_invV3 (k := 0) (d' := 0) (pc := 23) cv_X11_177 (by decide) rfl (Nat.le_of_ble_eq_true rfl) (by decide) (fm_dec dtX11_told 14 rfl) ?_
    refine d_bad1_1 hst _ (by first | exact h0 | simp [fmI, upd]) (by decide) (fun Mb hb => ?_)
    refine fm_then1 ?_
    refine fm_if_eq (pc := 26) 31 (by decide) (fm_dec dtX11_told 15 rfl) (fun hc26 => by exfalso; revert hc26; decide) (fun _ => ?_)
    refine fm_iconst (pc := 29) (v := 0) (by decide) (fm_dec dtX11_told 16 rfl) ?_
    exact fm_ireturn (pc := 30) rfl (fm_dec dtX11_told 17 rfl) (hx _ _ hb hn10)

set_option maxRecDepth 20000 in
theorem d_byLaw0 {l : Launch} {G : fmG} {M : fmM} {Q : fmR → fmM → Prop} (hst : l.stackTraces = false)  (h : M.1 0 17 = 0) (hq : Q (.inl (some (.int (M.1 6 0 + M.1 6 0)))) M) : fmGood Tm l G 2 qX11_byLaw [.ref (G.1 0)] M Q := by
  refine fmGood_of hst (by decide +kernel) (Nat.le_of_ble_eq_true rfl) ?_
  show fmEv Tm l G 2 qX11_byLaw 0 [some (.ref (G.1 0)), none, none] [] M Q
  refine fm_aloadn (pc := 0) (n := 0) 0 rfl rfl (fm_dec dtX11_byLaw 0 rfl) ?_
  refine fm_getI (k := 0) (j := 17) (ci := 11) (pc := 1) fl_X11_194 (by decide) rfl (by decide) rfl (fm_dec dtX11_byLaw 1 rfl) ?_
  refine fm_if_ne (pc := 4) 21 (by decide) (fm_dec dtX11_byLaw 2 rfl) (fun hc4 => by exfalso; exact hc4 h) (fun _ => ?_)
  refine fm_aloadn (pc := 7) (n := 0) 0 rfl rfl (fm_dec dtX11_byLaw 3 rfl) ?_
  refine fm_getR (k := 0) (j := 24) (ci := 11) (pc := 8) 6 rfl fl_X11_55 (by decide) rfl (by decide) (by decide) (fm_dec dtX11_byLaw 4 rfl) ?_
  refine fm_iconst (pc := 11) (v := 0) (by decide) (fm_dec dtX11_byLaw 5 rfl) ?_
  refine fm_iald (k := 6) (n := 5) (pc := 12) (by decide) rfl rfl (fm_inl (by decide)) (fm_dec dtX11_byLaw 6 rfl) ?_
  refine fm_aloadn (pc := 13) (n := 0) 0 rfl rfl (fm_dec dtX11_byLaw 7 rfl) ?_
  refine fm_getR (k := 0) (j := 24) (ci := 11) (pc := 14) 6 rfl fl_X11_55 (by decide) rfl (by decide) (by decide) (fm_dec dtX11_byLaw 8 rfl) ?_
  refine fm_iconst (pc := 17) (v := 0) (by decide) (fm_dec dtX11_byLaw 9 rfl) ?_
  refine fm_iald (k := 6) (n := 5) (pc := 18) (by decide) rfl rfl (fm_inl (by decide)) (fm_dec dtX11_byLaw 10 rfl) ?_
  refine fm_iadd (pc := 19) (fm_dec dtX11_byLaw 11 rfl) ?_
  exact fm_ireturn (pc := 20) rfl (fm_dec dtX11_byLaw 12 rfl) hq

theorem wv_eq (s : Int32) : (if (if (64 : Int32) < s then 64 else s) < 0 then (0 : Int32) else (if (64 : Int32) < s then 64 else s)) = (if 0 < (if s < 64 then s else 64) then (if s < 64 then s else 64) else 0) := by
  have t64 : (64 : Int32).toInt = 64 := by decide
  have t0 : (0 : Int32).toInt = 0 := by decide
  by_cases h1 : (64 : Int32) < s
  · have h2 : ¬ s < 64 := by rw [Int32.lt_iff_toInt_lt] at *; omega
    simp [h1, h2]
  · by_cases h2 : s < 64
    · simp only [h1, h2, if_true, if_false]
      by_cases h3 : s < 0
      · have h4 : ¬ 0 < s := by rw [Int32.lt_iff_toInt_lt] at *; omega
        simp [h3, h4]
      · by_cases h4 : 0 < s
        · simp [h3, h4]
        · have e : s = 0 := i32_ext (by rw [Int32.lt_iff_toInt_lt] at *; omega)
          simp [e]
    · have e : s = 64 := i32_ext (by rw [Int32.lt_iff_toInt_lt] at *; omega)
      subst e
      decide

set_option maxRecDepth 20000 in
theorem d_wrongBy0 {l : Launch} {G : fmG} {M : fmM} {Q : fmR → fmM → Prop} (hst : l.stackTraces = false) (a b c d e : Int32) (h : M.1 0 17 = 0) (hq : ∀ M', M'.1 0 = M.1 0 → Q (.inl (some (.int (if 0 < (if a + a < 64 then a + a else 64) then (if a + a < 64 then a + a else 64) else 0)))) M') : fmGood Tm l G 3 qX11_wrongBy [.ref (G.1 0), .int a, .int b, .int c, .int d, .int e] M Q := by
  refine fmGood_of hst (by decide +kernel) (Nat.le_of_ble_eq_true rfl) ?_
  show fmEv Tm l G 3 qX11_wrongBy 0 [some (.ref (G.1 0)), some (.int a), some (.int b), some (.int c), some (.int d), some (.int e)] [] M Q
  refine fm_aloadn (pc := 0) (n := 0) 0 rfl rfl (fm_dec dtX11_wrongBy 0 rfl) ?_
  refine fm_getR (k := 0) (j := 24) (ci := 11) (pc := 1) 6 rfl fl_X11_55 (by decide) rfl (by decide) (by decide) (fm_dec dtX11_wrongBy 1 rfl) ?_
  refine fm_iconst (pc := 4) (v := 0) (by decide) (fm_dec dtX11_wrongBy 2 rfl) ?_
  refine fm_iloadn (pc := 5) (n := 1) 1 rfl rfl (fm_dec dtX11_wrongBy 3 rfl) ?_
  refine fm_iast (k := 6) (n := 5) (pc := 6) (by decide) rfl rfl (fm_inl (by decide)) (fm_dec dtX11_wrongBy 4 rfl) ?_
  refine fm_aloadn (pc := 7) (n := 0) 0 rfl rfl (fm_dec dtX11_wrongBy 5 rfl) ?_
  refine fm_getR (k := 0) (j := 24) (ci := 11) (pc := 8) 6 rfl fl_X11_55 (by decide) rfl (by decide) (by decide) (fm_dec dtX11_wrongBy 6 rfl) ?_
  refine fm_iconst (pc := 11) (v := 1) (by decide) (fm_dec dtX11_wrongBy 7 rfl) ?_
  refine fm_iloadn (pc := 12) (n := 2) 2 rfl rfl (fm_dec dtX11_wrongBy 8 rfl) ?_
  refine fm_iast (k := 6) (n := 5) (pc := 13) (by decide) rfl rfl (fm_inl (by decide)) (fm_dec dtX11_wrongBy 9 rfl) ?_
  refine fm_aloadn (pc := 14) (n := 0) 0 rfl rfl (fm_dec dtX11_wrongBy 10 rfl) ?_
  refine fm_getR (k := 0) (j := 24) (ci := 11) (pc := 15) 6 rfl fl_X11_55 (by decide) rfl (by decide) (by decide) (fm_dec dtX11_wrongBy 11 rfl) ?_
  refine fm_iconst (pc := 18) (v := 2) (by decide) (fm_dec dtX11_wrongBy 12 rfl) ?_
  refine fm_iloadn (pc := 19) (n := 3) 3 rfl rfl (fm_dec dtX11_wrongBy 13 rfl) ?_
  refine fm_iast (k := 6) (n := 5) (pc := 20) (by decide) rfl rfl (fm_inl (by decide)) (fm_dec dtX11_wrongBy 14 rfl) ?_
  refine fm_aloadn (pc := 21) (n := 0) 0 rfl rfl (fm_dec dtX11_wrongBy 15 rfl) ?_
  refine fm_getR (k := 0) (j := 24) (ci := 11) (pc := 22) 6 rfl fl_X11_55 (by decide) rfl (by decide) (by decide) (fm_dec dtX11_wrongBy 16 rfl) ?_
  refine fm_iconst (pc := 25) (v := 3) (by decide) (fm_dec dtX11_wrongBy 17 rfl) ?_
  refine fm_iload (pc := 26) (i := 4) rfl (fm_dec dtX11_wrongBy 18 rfl) ?_
  refine fm_iast (k := 6) (n := 5) (pc := 28) (by decide) rfl rfl (fm_inl (by decide)) (fm_dec dtX11_wrongBy 19 rfl) ?_
  refine fm_aloadn (pc := 29) (n := 0) 0 rfl rfl (fm_dec dtX11_wrongBy 20 rfl) ?_
  refine fm_getR (k := 0) (j := 24) (ci := 11) (pc := 30) 6 rfl fl_X11_55 (by decide) rfl (by decide) (by decide) (fm_dec dtX11_wrongBy 21 rfl) ?_
  refine fm_iconst (pc := 33) (v := 4) (by decide) (fm_dec dtX11_wrongBy 22 rfl) ?_
  refine fm_iload (pc := 34) (i := 5) rfl (fm_dec dtX11_wrongBy 23 rfl) ?_
  refine fm_iast (k := 6) (n := 5) (pc := 36) (by decide) rfl rfl (fm_inl (by decide)) (fm_dec dtX11_wrongBy 24 rfl) ?_
  refine fm_iconst (pc := 37) (v := 0) (by decide) (fm_dec dtX11_wrongBy 25 rfl) ?_
  refine fm_bipush (pc := 38) (v := 64) (by decide) (fm_dec dtX11_wrongBy 26 rfl) ?_
  refine fm_aloadn (pc := 40) (n := 0) 0 rfl rfl (fm_dec dtX11_wrongBy 27 rfl) ?_
  refine fm_invV0 (k := 0) (d' := 2) (pc := 41) cv_X11_260 (by decide) rfl (Nat.le_of_ble_eq_true rfl) (by decide) (fm_dec dtX11_wrongBy 28 rfl) ?_
  refine d_byLaw0 hst (by simp [fmI, h]) ?_
  refine fm_then1 ?_
  refine fm_topE (v := a + a) (by simp [fmI, upd]) ?_
  refine fm_invS2 (d' := 0) (pc := 44) cs_X11_237 (Nat.le_of_ble_eq_true rfl) (by decide) (fm_dec dtX11_wrongBy 29 rfl) ?_
  refine d_less hst _ _ ?_
  refine fm_then1 ?_
  refine fm_invS2 (d' := 0) (pc := 47) cs_X11_240 (Nat.le_of_ble_eq_true rfl) (by decide) (fm_dec dtX11_wrongBy 30 rfl) ?_
  refine d_more hst _ _ ?_
  refine fm_then1 ?_
  exact fm_ireturn (pc := 50) rfl (fm_dec dtX11_wrongBy 31 rfl) (by rw [wv_eq]; exact hq _ (by simp [fmI]))

set_option maxRecDepth 20000 in
theorem m_would {l : Launch} {G : fmG} {M : fmM} {Q : fmR → fmM → Prop} (hst : l.stackTraces = false) (a b c d e : Int32) (h : M.1 0 17 = 0) (hq : ∀ M', M'.1 0 0 = 0 → (inR a 0 200 ∧ inR b 0 200 ∧ inR c 1 99 ∧ inR d 0 1 ∧ inR e 0 24) → Q (.inl (some (.int (if 0 < (if a + a < 64 then a + a else 64) then (if a + a < 64 then a + a else 64) else 0)))) M') (hx : ∀ (r9 : Int32) M', M'.1 0 0 = 1 → ¬ (inR a 0 200 ∧ inR b 0 200 ∧ inR c 1 99 ∧ inR d 0 1 ∧ inR e 0 24) → Q (.inl (some (.int r9))) M') : fmGood Tm l G 4 qX11_would [.ref (G.1 0), .int a, .int b, .int c, .int d, .int e] M Q := by
  refine fmGood_of hst (by decide +kernel) (Nat.le_of_ble_eq_true rfl) ?_
  show fmEv Tm l G 4 qX11_would 0 [some (.ref (G.1 0)), some (.int a), some (.int b), some (.int c), some (.int d), some (.int e)] [] M Q
  refine fm_aloadn (pc := 0) (n := 0) 0 rfl rfl (fm_dec dtX11_would 0 rfl) ?_
  refine fm_iconst (pc := 1) (v := 0) (by decide) (fm_dec dtX11_would 1 rfl) ?_
  refine fm_putI (k := 0) (j := 0) (ci := 11) (pc := 2) fl_X11_101 (by decide) rfl (by decide) rfl rfl (fm_dec dtX11_would 2 rfl) ?_
  refine fm_aloadn (pc := 5) (n := 0) 0 rfl rfl (fm_dec dtX11_would 3 rfl) ?_
  refine fm_iloadn (pc := 6) (n := 1) 1 rfl rfl (fm_dec dtX11_would 4 rfl) ?_
  refine fm_iconst (pc := 7) (v := 0) (by decide) (fm_dec dtX11_would 5 rfl) ?_
  refine fm_sipush (pc := 8) (v := 200) (by decide) (fm_dec dtX11_would 6 rfl) ?_
  refine fm_invS3 (d' := 0) (pc := 11) cs_X11_135 (Nat.le_of_ble_eq_true rfl) (by decide) (fm_dec dtX11_would 7 rfl) ?_
  refine d_in hst _ _ _ (fun hi11 => ?_) (fun hn11 => ?_)
  · refine fm_then1 ?_
    refine fm_if_eq (pc := 14) 59 (by decide) (fm_dec dtX11_would 8 rfl) (fun hc14 => by exfalso; revert hc14; decide) (fun _ => ?_)
    refine fm_iloadn (pc := 17) (n := 2) 2 rfl rfl (fm_dec dtX11_would 9 rfl) ?_
    refine fm_iconst (pc := 18) (v := 0) (by decide) (fm_dec dtX11_would 10 rfl) ?_
    refine fm_sipush (pc := 19) (v := 200) (by decide) (fm_dec dtX11_would 11 rfl) ?_
    refine fm_invS3 (d' := 0) (pc := 22) cs_X11_135 (Nat.le_of_ble_eq_true rfl) (by decide) (fm_dec dtX11_would 12 rfl) ?_
    refine d_in hst _ _ _ (fun hi22 => ?_) (fun hn22 => ?_)
    · refine fm_then1 ?_
      refine fm_if_eq (pc := 25) 59 (by decide) (fm_dec dtX11_would 13 rfl) (fun hc25 => by exfalso; revert hc25; decide) (fun _ => ?_)
      refine fm_iloadn (pc := 28) (n := 3) 3 rfl rfl (fm_dec dtX11_would 14 rfl) ?_
      refine fm_iconst (pc := 29) (v := 1) (by decide) (fm_dec dtX11_would 15 rfl) ?_
      refine fm_bipush (pc := 30) (v := 99) (by decide) (fm_dec dtX11_would 16 rfl) ?_
      refine fm_invS3 (d' := 0) (pc := 32) cs_X11_135 (Nat.le_of_ble_eq_true rfl) (by decide) (fm_dec dtX11_would 17 rfl) ?_
      refine d_in hst _ _ _ (fun hi32 => ?_) (fun hn32 => ?_)
      · refine fm_then1 ?_
        refine fm_if_eq (pc := 35) 59 (by decide) (fm_dec dtX11_would 18 rfl) (fun hc35 => by exfalso; revert hc35; decide) (fun _ => ?_)
        refine fm_iload (pc := 38) (i := 4) rfl (fm_dec dtX11_would 19 rfl) ?_
        refine fm_iconst (pc := 40) (v := 0) (by decide) (fm_dec dtX11_would 20 rfl) ?_
        refine fm_iconst (pc := 41) (v := 1) (by decide) (fm_dec dtX11_would 21 rfl) ?_
        refine fm_invS3 (d' := 0) (pc := 42) cs_X11_135 (Nat.le_of_ble_eq_true rfl) (by decide) (fm_dec dtX11_would 22 rfl) ?_
        refine d_in hst _ _ _ (fun hi42 => ?_) (fun hn42 => ?_)
        · refine fm_then1 ?_
          refine fm_if_eq (pc := 45) 59 (by decide) (fm_dec dtX11_would 23 rfl) (fun hc45 => by exfalso; revert hc45; decide) (fun _ => ?_)
          refine fm_iload (pc := 48) (i := 5) rfl (fm_dec dtX11_would 24 rfl) ?_
          refine fm_iconst (pc := 50) (v := 0) (by decide) (fm_dec dtX11_would 25 rfl) ?_
          refine fm_bipush (pc := 51) (v := 24) (by decide) (fm_dec dtX11_would 26 rfl) ?_
          refine fm_invS3 (d' := 0) (pc := 53) cs_X11_135 (Nat.le_of_ble_eq_true rfl) (by decide) (fm_dec dtX11_would 27 rfl) ?_
          refine d_in hst _ _ _ (fun hi53 => ?_) (fun hn53 => ?_)
          · refine fm_then1 ?_
            refine fm_if_ne (pc := 56) 63 (by decide) (fm_dec dtX11_would 28 rfl) (fun _ => ?_) (fun hc56 => by exfalso; revert hc56; decide)
            refine fm_iconst (pc := 63) (v := 0) (by decide) (fm_dec dtX11_would 31 rfl) ?_
            refine fm_iconst (pc := 64) (v := 1) (by decide) (fm_dec dtX11_would 32 rfl) ?_
            refine fm_iconst (pc := 65) (v := 1) (by decide) (fm_dec dtX11_would 33 rfl) ?_
            refine fm_invV3 (k := 0) (d' := 0) (pc := 66) cv_X11_177 (by decide) rfl (Nat.le_of_ble_eq_true rfl) (by decide) (fm_dec dtX11_would 34 rfl) ?_
            refine d_bad0 hst _ _ (by first | exact h0 | simp [fmI, upd]) ?_
            refine fm_then1 ?_
            refine fm_if_eq (pc := 69) 74 (by decide) (fm_dec dtX11_would 35 rfl) (fun _ => ?_) (fun hc69 => by exfalso; revert hc69; decide)
            refine fm_aloadn (pc := 74) (n := 0) 0 rfl rfl (fm_dec dtX11_would 38 rfl) ?_
            refine fm_iloadn (pc := 75) (n := 1) 1 rfl rfl (fm_dec dtX11_would 39 rfl) ?_
            refine fm_iloadn (pc := 76) (n := 2) 2 rfl rfl (fm_dec dtX11_would 40 rfl) ?_
            refine fm_iloadn (pc := 77) (n := 3) 3 rfl rfl (fm_dec dtX11_would 41 rfl) ?_
            refine fm_iload (pc := 78) (i := 4) rfl (fm_dec dtX11_would 42 rfl) ?_
            refine fm_iload (pc := 80) (i := 5) rfl (fm_dec dtX11_would 43 rfl) ?_
            refine fm_invV5 (k := 0) (d' := 3) (pc := 82) cv_X11_273 (by decide) rfl (Nat.le_of_ble_eq_true rfl) (by decide) (fm_dec dtX11_would 44 rfl) ?_
            refine d_wrongBy0 hst _ _ _ _ _ (by simp [fmI, upd, h]) (fun M82 e82 => ?_)
            refine fm_then1 ?_
            exact fm_ireturn (pc := 85) rfl (fm_dec dtX11_would 45 rfl) (hq _ (by rw [e82]; simp [fmI, upd]) ⟨hi11, hi22, hi32, hi42, hi53⟩)
          · refine fm_then1 ?_
            refine fm_if_ne (pc := 56) 63 (by decide) (fm_dec dtX11_would 28 rfl) (fun hc56 => by exfalso; revert hc56; decide) (fun _ => ?_)
            refine fm_iconst (pc := 59) (v := 1) (by decide) (fm_dec dtX11_would 29 rfl) ?_
            refine fm_goto (pc := 60) 64 (by decide) (fm_dec dtX11_would 30 rfl) ?_
            refine fm_iconst (pc := 64) (v := 1) (by decide) (fm_dec dtX11_would 32 rfl) ?_
            refine fm_iconst (pc := 65) (v := 1) (by decide) (fm_dec dtX11_would 33 rfl) ?_
            refine fm_invV3 (k := 0) (d' := 0) (pc := 66) cv_X11_177 (by decide) rfl (Nat.le_of_ble_eq_true rfl) (by decide) (fm_dec dtX11_would 34 rfl) ?_
            refine d_bad1_1 hst _ (by first | exact h0 | simp [fmI, upd]) (by decide) (fun Mb hb => ?_)
            refine fm_then1 ?_
            refine fm_if_eq (pc := 69) 74 (by decide) (fm_dec dtX11_would 35 rfl) (fun hc69 => by exfalso; revert hc69; decide) (fun _ => ?_)
            refine fm_iconst (pc := 72) (v := 0) (by decide) (fm_dec dtX11_would 36 rfl) ?_
            exact fm_ireturn (pc := 73) rfl (fm_dec dtX11_would 37 rfl) (hx _ _ hb (fun h => by first | exact hn11 h.1 | exact hn22 h.2.1 | exact hn32 h.2.2.1 | exact hn42 h.2.2.2.1 | exact hn53 h.2.2.2.2))
        · refine fm_then1 ?_
          refine fm_if_eq (pc := 45) 59 (by decide) (fm_dec dtX11_would 23 rfl) (fun _ => ?_) (fun hc45 => by exfalso; revert hc45; decide)
          refine fm_iconst (pc := 59) (v := 1) (by decide) (fm_dec dtX11_would 29 rfl) ?_
          refine fm_goto (pc := 60) 64 (by decide) (fm_dec dtX11_would 30 rfl) ?_
          refine fm_iconst (pc := 64) (v := 1) (by decide) (fm_dec dtX11_would 32 rfl) ?_
          refine fm_iconst (pc := 65) (v := 1) (by decide) (fm_dec dtX11_would 33 rfl) ?_
          refine fm_invV3 (k := 0) (d' := 0) (pc := 66) cv_X11_177 (by decide) rfl (Nat.le_of_ble_eq_true rfl) (by decide) (fm_dec dtX11_would 34 rfl) ?_
          refine d_bad1_1 hst _ (by first | exact h0 | simp [fmI, upd]) (by decide) (fun Mb hb => ?_)
          refine fm_then1 ?_
          refine fm_if_eq (pc := 69) 74 (by decide) (fm_dec dtX11_would 35 rfl) (fun hc69 => by exfalso; revert hc69; decide) (fun _ => ?_)
          refine fm_iconst (pc := 72) (v := 0) (by decide) (fm_dec dtX11_would 36 rfl) ?_
          exact fm_ireturn (pc := 73) rfl (fm_dec dtX11_would 37 rfl) (hx _ _ hb (fun h => by first | exact hn11 h.1 | exact hn22 h.2.1 | exact hn32 h.2.2.1 | exact hn42 h.2.2.2.1 | exact hn53 h.2.2.2.2))
      · refine fm_then1 ?_
        refine fm_if_eq (pc := 35) 59 (by decide) (fm_dec dtX11_would 18 rfl) (fun _ => ?_) (fun hc35 => by exfalso; revert hc35; decide)
        refine fm_iconst (pc := 59) (v := 1) (by decide) (fm_dec dtX11_would 29 rfl) ?_
        refine fm_goto (pc := 60) 64 (by decide) (fm_dec dtX11_would 30 rfl) ?_
        refine fm_iconst (pc := 64) (v := 1) (by decide) (fm_dec dtX11_would 32 rfl) ?_
        refine fm_iconst (pc := 65) (v := 1) (by decide) (fm_dec dtX11_would 33 rfl) ?_
        refine fm_invV3 (k := 0) (d' := 0) (pc := 66) cv_X11_177 (by decide) rfl (Nat.le_of_ble_eq_true rfl) (by decide) (fm_dec dtX11_would 34 rfl) ?_
        refine d_bad1_1 hst _ (by first | exact h0 | simp [fmI, upd]) (by decide) (fun Mb hb => ?_)
        refine fm_then1 ?_
        refine fm_if_eq (pc := 69) 74 (by decide) (fm_dec dtX11_would 35 rfl) (fun hc69 => by exfalso; revert hc69; decide) (fun _ => ?_)
        refine fm_iconst (pc := 72) (v := 0) (by decide) (fm_dec dtX11_would 36 rfl) ?_
        exact fm_ireturn (pc := 73) rfl (fm_dec dtX11_would 37 rfl) (hx _ _ hb (fun h => by first | exact hn11 h.1 | exact hn22 h.2.1 | exact hn32 h.2.2.1 | exact hn42 h.2.2.2.1 | exact hn53 h.2.2.2.2))
    · refine fm_then1 ?_
      refine fm_if_eq (pc := 25) 59 (by decide) (fm_dec dtX11_would 13 rfl) (fun _ => ?_) (fun hc25 => by exfalso; revert hc25; decide)
      refine fm_iconst (pc := 59) (v := 1) (by decide) (fm_dec dtX11_would 29 rfl) ?_
      refine fm_goto (pc := 60) 64 (by decide) (fm_dec dtX11_would 30 rfl) ?_
      refine fm_iconst (pc := 64) (v := 1) (by decide) (fm_dec dtX11_would 32 rfl) ?_
      refine fm_iconst (pc := 65) (v := 1) (by decide) (fm_dec dtX11_would 33 rfl) ?_
      refine fm_invV3 (k := 0) (d' := 0) (pc := 66) cv_X11_177 (by decide) rfl (Nat.le_of_ble_eq_true rfl) (by decide) (fm_dec dtX11_would 34 rfl) ?_
      refine d_bad1_1 hst _ (by first | exact h0 | simp [fmI, upd]) (by decide) (fun Mb hb => ?_)
      refine fm_then1 ?_
      refine fm_if_eq (pc := 69) 74 (by decide) (fm_dec dtX11_would 35 rfl) (fun hc69 => by exfalso; revert hc69; decide) (fun _ => ?_)
      refine fm_iconst (pc := 72) (v := 0) (by decide) (fm_dec dtX11_would 36 rfl) ?_
      exact fm_ireturn (pc := 73) rfl (fm_dec dtX11_would 37 rfl) (hx _ _ hb (fun h => by first | exact hn11 h.1 | exact hn22 h.2.1 | exact hn32 h.2.2.1 | exact hn42 h.2.2.2.1 | exact hn53 h.2.2.2.2))
  · refine fm_then1 ?_
    refine fm_if_eq (pc := 14) 59 (by decide) (fm_dec dtX11_would 8 rfl) (fun _ => ?_) (fun hc14 => by exfalso; revert hc14; decide)
    refine fm_iconst (pc := 59) (v := 1) (by decide) (fm_dec dtX11_would 29 rfl) ?_
    refine fm_goto (pc := 60) 64 (by decide) (fm_dec dtX11_would 30 rfl) ?_
    refine fm_iconst (pc := 64) (v := 1) (by decide) (fm_dec dtX11_would 32 rfl) ?_
    refine fm_iconst (pc := 65) (v := 1) (by decide) (fm_dec dtX11_would 33 rfl) ?_
    refine fm_invV3 (k := 0) (d' := 0) (pc := 66) cv_X11_177 (by decide) rfl (Nat.le_of_ble_eq_true rfl) (by decide) (fm_dec dtX11_would 34 rfl) ?_
    refine d_bad1_1 hst _ (by first | exact h0 | simp [fmI, upd]) (by decide) (fun Mb hb => ?_)
    refine fm_then1 ?_
    refine fm_if_eq (pc := 69) 74 (by decide) (fm_dec dtX11_would 35 rfl) (fun hc69 => by exfalso; revert hc69; decide) (fun _ => ?_)
    refine fm_iconst (pc := 72) (v := 0) (by decide) (fm_dec dtX11_would 36 rfl) ?_
    exact fm_ireturn (pc := 73) rfl (fm_dec dtX11_would 37 rfl) (hx _ _ hb (fun h => by first | exact hn11 h.1 | exact hn22 h.2.1 | exact hn32 h.2.2.1 | exact hn42 h.2.2.2.1 | exact hn53 h.2.2.2.2))
