set_option maxRecDepth 20000 in
theorem ye_loop {l : Launch} {G : fmG} {Q : fmR → fmM → Prop} (hst : l.stackTraces = false) (s : Int32) (w : Nat) (hw : w ≤ 60) : ∀ (n : Nat) (M : fmM) (i : Nat), i + n = w → M.1 4 0 = 0 → (∀ M', (∀ k, k ≠ 0 → k ≠ 8 → M'.1 k = M.1 k) → (∀ j, j ≠ 47 → j ≠ 48 → M'.1 0 j = M.1 0 j) → M'.1 0 48 = M.1 0 48 → (∀ j, j ≠ 9 → j ≠ 10 → j < 14 → M'.1 8 j = M.1 8 j) → M'.2 = M.2 → Q (.inl none) M') → fmEv Tm l G 9 qX11_yearsBy 23 [some (.ref (G.1 0)), some (.int s), some (.int (nI w)), some (.int (nI i)), none] [] M Q := by
  intro n
  induction n with
  | zero =>
    intro M i hi hl hq
    have e : i = w := by omega
    subst e
    refine fm_iloadn (pc := 23) (n := 3) 3 rfl rfl (fm_dec dtX11_yearsBy 13 rfl) ?_
    refine fm_iloadn (pc := 24) (n := 2) 2 rfl rfl (fm_dec dtX11_yearsBy 14 rfl) ?_
    refine fm_icmp_ge (pc := 25) 191 (by decide) (fm_dec dtX11_yearsBy 15 rfl) (fun _ => ?_) (fun hc25 => by exfalso; exact hc25 (Int32.le_refl _))
    exact fm_return (pc := 191) rfl (fm_dec dtX11_yearsBy 100 rfl) (hq M (fun _ _ _ => rfl) (fun _ _ _ => rfl) rfl (fun _ _ _ _ => rfl) rfl)
  | succ n ih =>
    intro M i hi hl hq
    refine fm_iloadn (pc := 23) (n := 3) 3 rfl rfl (fm_dec dtX11_yearsBy 13 rfl) ?_
    refine fm_iloadn (pc := 24) (n := 2) 2 rfl rfl (fm_dec dtX11_yearsBy 14 rfl) ?_
    refine fm_icmp_ge (pc := 25) 191 (by decide) (fm_dec dtX11_yearsBy 15 rfl) (fun hc25 => by exfalso; exact nI_ge (show i < w by omega) (by omega) hc25) (fun _ => ?_)
    refine fm_iconst (pc := 28) (v := 0) (by decide) (fm_dec dtX11_yearsBy 16 rfl) ?_
    refine fm_istore (pc := 29) (i := 4) (by decide) rfl (fm_dec dtX11_yearsBy 17 rfl) ?_
    dsimp only [List.set_cons_zero, List.set_cons_succ]
    refine fm_iload (pc := 31) (i := 4) rfl (fm_dec dtX11_yearsBy 18 rfl) ?_
    refine fm_aloadn (pc := 33) (n := 0) 0 rfl rfl (fm_dec dtX11_yearsBy 19 rfl) ?_
    refine fm_getR (k := 0) (j := 12) (ci := 11) (pc := 34) 4 rfl fl_X11_23 (by decide) rfl (by decide) (by decide) (fm_dec dtX11_yearsBy 20 rfl) ?_
    refine fm_iconst (pc := 37) (v := 0) (by decide) (fm_dec dtX11_yearsBy 21 rfl) ?_
    refine fm_iald (k := 4) (n := 6) (pc := 38) (by decide) rfl rfl (fm_inl (by decide)) (fm_dec dtX11_yearsBy 22 rfl) ?_
    refine fm_icmp_ge (pc := 39) 113 (by decide) (fm_dec dtX11_yearsBy 23 rfl) (fun _ => ?_) (fun hc39 => by exfalso; exact hc39 (by simp [fmI, fmJ, upd, hl]))
    refine fm_aloadn (pc := 113) (n := 0) 0 rfl rfl (fm_dec dtX11_yearsBy 60 rfl) ?_
    refine fm_aloadn (pc := 114) (n := 0) 0 rfl rfl (fm_dec dtX11_yearsBy 61 rfl) ?_
    refine fm_getR (k := 0) (j := 28) (ci := 11) (pc := 115) 8 rfl fl_X11_64 (by decide) rfl (by decide) (by decide) (fm_dec dtX11_yearsBy 62 rfl) ?_
    refine fm_aloadn (pc := 118) (n := 0) 0 rfl rfl (fm_dec dtX11_yearsBy 63 rfl) ?_
    refine fm_getR (k := 0) (j := 28) (ci := 11) (pc := 119) 8 rfl fl_X11_64 (by decide) rfl (by decide) (by decide) (fm_dec dtX11_yearsBy 64 rfl) ?_
    refine fm_bipush (pc := 122) (v := 9) (by decide) (fm_dec dtX11_yearsBy 65 rfl) ?_
    refine fm_iald (k := 8) (n := 14) (pc := 124) (by decide) rfl rfl (fm_inl (by decide)) (fm_dec dtX11_yearsBy 66 rfl) ?_
    refine fm_invV2 (k := 0) (d' := 8) (pc := 125) cv_X11_358 (by decide) rfl (Nat.le_of_ble_eq_true rfl) (by decide) (fm_dec dtX11_yearsBy 67 rfl) ?_
    refine d_firstOf0 hst _ _ (by first | exact hl | simp [fmI, fmJ, upd, hl]) ?_
    refine fm_then1 ?_
    refine fm_istore (pc := 128) (i := 4) (by decide) rfl (fm_dec dtX11_yearsBy 68 rfl) ?_
    dsimp only [List.set_cons_zero, List.set_cons_succ]
    refine fm_iload (pc := 130) (i := 4) rfl (fm_dec dtX11_yearsBy 69 rfl) ?_
    refine fm_iconst (pc := 132) (v := (-1)) (by decide) (fm_dec dtX11_yearsBy 70 rfl) ?_
    refine fm_icmp_eq (pc := 133) 176 (by decide) (fm_dec dtX11_yearsBy 71 rfl) (fun _ => ?_) (fun hc133 => by exfalso; revert hc133; decide)
    refine fm_aloadn (pc := 176) (n := 0) 0 rfl rfl (fm_dec dtX11_yearsBy 93 rfl) ?_
    refine fm_aloadn (pc := 177) (n := 0) 0 rfl rfl (fm_dec dtX11_yearsBy 94 rfl) ?_
    refine fm_getR (k := 0) (j := 28) (ci := 11) (pc := 178) 8 rfl fl_X11_64 (by decide) rfl (by decide) (by decide) (fm_dec dtX11_yearsBy 95 rfl) ?_
    refine fm_invV1 (k := 0) (d' := 0) (pc := 181) cv_X11_306 (by decide) rfl (Nat.le_of_ble_eq_true rfl) (by decide) (fm_dec dtX11_yearsBy 96 rfl) ?_
    refine d_weekEnds hst (fun r181 M181 f181 g181 s181 => ?_)
    refine fm_then1 ?_
    refine fm_pop (pc := 184) rfl (fm_dec dtX11_yearsBy 97 rfl) ?_
    refine fm_iincc (pc := 185) 3 1 (by decide) rfl (by decide) rfl (fm_dec dtX11_yearsBy 98 rfl) ?_
    dsimp only [List.set_cons_zero, List.set_cons_succ]
    refine fm_goto (pc := 188) 23 (by decide) (fm_dec dtX11_yearsBy 99 rfl) ?_
    rw [show nI i + 1 = nI (i + 1) from nI_1 i]
    refine fm_kill 4 ?_
    dsimp only [List.set_cons_zero, List.set_cons_succ]
    refine ih _ (i + 1) (by omega) (by rw [f181 4 (by decide)]; exact hl) (fun M1 a1 b1 c1 d1 s1 => hq M1 (fun k h h2 => by rw [a1 k h h2, f181 k h2]) (fun j h h2 => by rw [b1 j h h2, f181 0 (by decide)]) (by rw [c1, f181 0 (by decide)]) (fun j h h2 h3 => by rw [d1 j h h2 h3, g181 j h h2]) (by rw [s1, s181]))

set_option maxRecDepth 20000 in
theorem d_yearsBy0 {l : Launch} {G : fmG} {M : fmM} {Q : fmR → fmM → Prop} (hst : l.stackTraces = false) (s : Int32) (w : Nat) (hl : M.1 4 0 = 0) (hw : w ≤ 60) (hq : ∀ M', (∀ k, k ≠ 0 → k ≠ 8 → M'.1 k = M.1 k) → (∀ j, j ≠ 47 → j ≠ 48 → M'.1 0 j = M.1 0 j) → M'.1 0 48 = 0 → (∀ j, j ≠ 9 → j ≠ 10 → j < 14 → M'.1 8 j = M.1 7 j) → M'.2 = M.2 → Q (.inl none) M') : fmGood Tm l G 9 qX11_yearsBy [.ref (G.1 0), .int s, .int (nI w)] M Q := by
  refine fmGood_of hst (by decide +kernel) (Nat.le_of_ble_eq_true rfl) ?_
  show fmEv Tm l G 9 qX11_yearsBy 0 [some (.ref (G.1 0)), some (.int s), some (.int (nI w)), none, none] [] M Q
  refine fm_aloadn (pc := 0) (n := 0) 0 rfl rfl (fm_dec dtX11_yearsBy 0 rfl) ?_
  refine fm_getR (k := 0) (j := 27) (ci := 11) (pc := 1) 7 rfl fl_X11_61 (by decide) rfl (by decide) (by decide) (fm_dec dtX11_yearsBy 1 rfl) ?_
  refine fm_aloadn (pc := 4) (n := 0) 0 rfl rfl (fm_dec dtX11_yearsBy 2 rfl) ?_
  refine fm_getR (k := 0) (j := 28) (ci := 11) (pc := 5) 8 rfl fl_X11_64 (by decide) rfl (by decide) (by decide) (fm_dec dtX11_yearsBy 3 rfl) ?_
  refine fm_invS2 (d' := 0) (pc := 8) cs_X11_323 (Nat.le_of_ble_eq_true rfl) (by decide) (fm_dec dtX11_yearsBy 4 rfl) ?_
  refine d_copies_8_7 hst (fun M8 f8 g8 s8 => ?_)
  refine fm_then0 ?_
  refine fm_aloadn (pc := 11) (n := 0) 0 rfl rfl (fm_dec dtX11_yearsBy 5 rfl) ?_
  refine fm_iloadn (pc := 12) (n := 1) 1 rfl rfl (fm_dec dtX11_yearsBy 6 rfl) ?_
  refine fm_putI (k := 0) (j := 47) (ci := 11) (pc := 13) fl_X11_426 (by decide) rfl (by decide) rfl rfl (fm_dec dtX11_yearsBy 7 rfl) ?_
  refine fm_aloadn (pc := 16) (n := 0) 0 rfl rfl (fm_dec dtX11_yearsBy 8 rfl) ?_
  refine fm_iconst (pc := 17) (v := 0) (by decide) (fm_dec dtX11_yearsBy 9 rfl) ?_
  refine fm_putI (k := 0) (j := 48) (ci := 11) (pc := 18) fl_X11_429 (by decide) rfl (by decide) rfl rfl (fm_dec dtX11_yearsBy 10 rfl) ?_
  refine fm_iconst (pc := 21) (v := 0) (by decide) (fm_dec dtX11_yearsBy 11 rfl) ?_
  refine fm_istoren (pc := 22) (n := 3) 3 rfl (by decide) rfl (fm_dec dtX11_yearsBy 12 rfl) ?_
  dsimp only [List.set_cons_zero, List.set_cons_succ]
  refine ye_loop hst s w hw w _ 0 (by omega) (by simp [fmI, f8, hl]) (fun M1 a1 b1 c1 d1 s1 => hq M1 (fun k h h2 => by rw [a1 k h h2]; simp [fmI, h, f8 k h2]) (fun j h h2 => by rw [b1 j h h2]; simp [fmI, upd, h, h2, f8]) (by rw [c1]; simp [fmI, upd]) (fun j h h2 h3 => by rw [d1 j h h2 h3]; simp [fmI, g8 j h3]) (by rw [s1]; simp [fmI, s8]))

set_option maxRecDepth 20000 in
theorem m_years {l : Launch} {G : fmG} {M : fmM} {Q : fmR → fmM → Prop} (hst : l.stackTraces = false) (s v q : Int32) (hl : M.1 4 0 = 0) (h11 : M.1 7 11 = 0) (h12 : M.1 7 12 = 0) (h13 : M.1 7 13 = 0) (hq : ∀ M', M'.1 0 0 = 0 → (inR v 1 60 ∧ inR q 0 4) → Q (.inl (some (.int 0))) M') (hx : ∀ (r9 : Int32) M', M'.1 0 0 = 1 → ¬ (inR v 1 60 ∧ inR q 0 4) → Q (.inl (some (.int r9))) M') : fmGood Tm l G 10 qX11_years [.ref (G.1 0), .int s, .int v, .int q] M Q := by
  refine fmGood_of hst (by decide +kernel) (Nat.le_of_ble_eq_true rfl) ?_
  show fmEv Tm l G 10 qX11_years 0 [some (.ref (G.1 0)), some (.int s), some (.int v), some (.int q)] [] M Q
  refine fm_aloadn (pc := 0) (n := 0) 0 rfl rfl (fm_dec dtX11_years 0 rfl) ?_
  refine fm_iconst (pc := 1) (v := 0) (by decide) (fm_dec dtX11_years 1 rfl) ?_
  refine fm_putI (k := 0) (j := 0) (ci := 11) (pc := 2) fl_X11_101 (by decide) rfl (by decide) rfl rfl (fm_dec dtX11_years 2 rfl) ?_
  refine fm_aloadn (pc := 5) (n := 0) 0 rfl rfl (fm_dec dtX11_years 3 rfl) ?_
  refine fm_iloadn (pc := 6) (n := 2) 2 rfl rfl (fm_dec dtX11_years 4 rfl) ?_
  refine fm_iconst (pc := 7) (v := 1) (by decide) (fm_dec dtX11_years 5 rfl) ?_
  refine fm_bipush (pc := 8) (v := 60) (by decide) (fm_dec dtX11_years 6 rfl) ?_
  refine fm_invS3 (d' := 0) (pc := 10) cs_X11_135 (Nat.le_of_ble_eq_true rfl) (by decide) (fm_dec dtX11_years 7 rfl) ?_
  refine d_in hst _ _ _ (fun hi10 => ?_) (fun hn10 => ?_)
  · refine fm_then1 ?_
    refine fm_if_eq (pc := 13) 25 (by decide) (fm_dec dtX11_years 8 rfl) (fun hc13 => by exfalso; revert hc13; decide) (fun _ => ?_)
    refine fm_iloadn (pc := 16) (n := 3) 3 rfl rfl (fm_dec dtX11_years 9 rfl) ?_
    refine fm_iconst (pc := 17) (v := 0) (by decide) (fm_dec dtX11_years 10 rfl) ?_
    refine fm_iconst (pc := 18) (v := 4) (by decide) (fm_dec dtX11_years 11 rfl) ?_
    refine fm_invS3 (d' := 0) (pc := 19) cs_X11_135 (Nat.le_of_ble_eq_true rfl) (by decide) (fm_dec dtX11_years 12 rfl) ?_
    refine d_in hst _ _ _ (fun hi19 => ?_) (fun hn19 => ?_)
    · refine fm_then1 ?_
      refine fm_if_ne (pc := 22) 29 (by decide) (fm_dec dtX11_years 13 rfl) (fun _ => ?_) (fun hc22 => by exfalso; revert hc22; decide)
      refine fm_iconst (pc := 29) (v := 0) (by decide) (fm_dec dtX11_years 16 rfl) ?_
      refine fm_iconst (pc := 30) (v := 1) (by decide) (fm_dec dtX11_years 17 rfl) ?_
      refine fm_iconst (pc := 31) (v := 1) (by decide) (fm_dec dtX11_years 18 rfl) ?_
      refine fm_invV3 (k := 0) (d' := 0) (pc := 32) cv_X11_177 (by decide) rfl (Nat.le_of_ble_eq_true rfl) (by decide) (fm_dec dtX11_years 19 rfl) ?_
      refine d_bad0 hst _ _ (by first | exact h0 | simp [fmI, upd]) ?_
      refine fm_then1 ?_
      refine fm_if_eq (pc := 35) 40 (by decide) (fm_dec dtX11_years 20 rfl) (fun _ => ?_) (fun hc35 => by exfalso; revert hc35; decide)
      obtain ⟨w, hw, rfl⟩ := inR_nI 60 (by decide) (by decide) hi10
      refine fm_aloadn (pc := 40) (n := 0) 0 rfl rfl (fm_dec dtX11_years 23 rfl) ?_
      refine fm_iloadn (pc := 41) (n := 1) 1 rfl rfl (fm_dec dtX11_years 24 rfl) ?_
      refine fm_iloadn (pc := 42) (n := 2) 2 rfl rfl (fm_dec dtX11_years 25 rfl) ?_
      refine fm_invV2 (k := 0) (d' := 9) (pc := 43) cv_X11_433 (by decide) rfl (Nat.le_of_ble_eq_true rfl) (by decide) (fm_dec dtX11_years 26 rfl) ?_
      refine d_yearsBy0 hst _ w (by simp [fmI, hl]) hw (fun M43 a43 b43 c43 d43 s43 => ?_)
      refine fm_then0 ?_
      have z8 : ∀ j, j ≠ 9 → j ≠ 10 → j < 14 → M43.1 8 j = M.1 7 j := fun j h h2 h3 => by rw [d43 j h h2 h3]; simp [fmI]
      have z7 : M43.1 7 = M.1 7 := by rw [a43 7 (by decide) (by decide)]; simp [fmI]
      have z4 : M43.1 4 0 = 0 := by rw [a43 4 (by decide) (by decide)]; simp [fmI, hl]
      have zt : M43.1 0 0 = 0 := by rw [b43 0 (by decide) (by decide)]; simp [fmI, upd]
      refine fm_iloadn (pc := 46) (n := 3) 3 rfl rfl (fm_dec dtX11_years 27 rfl) ?_
      rcases inR_04 hi19 with rfl | rfl | rfl | rfl | rfl
      · refine fm_table (pc := 47) 76 (by decide) rfl (fm_dec dtX11_years 28 rfl) ?_
        refine fm_aloadn (pc := 76) (n := 0) 0 rfl rfl (fm_dec dtX11_years 29 rfl) ?_
        refine fm_aloadn (pc := 77) (n := 0) 0 rfl rfl (fm_dec dtX11_years 30 rfl) ?_
        refine fm_getR (k := 0) (j := 28) (ci := 11) (pc := 78) 8 rfl fl_X11_64 (by decide) rfl (by decide) (by decide) (fm_dec dtX11_years 31 rfl) ?_
        refine fm_invV1 (k := 0) (d' := 1) (pc := 81) cv_X11_327 (by decide) rfl (Nat.le_of_ble_eq_true rfl) (by decide) (fm_dec dtX11_years 32 rfl) ?_
        refine d_alive0 hst _ z4 ?_
        refine fm_then1 ?_
        exact fm_ireturn (pc := 84) rfl (fm_dec dtX11_years 33 rfl) (hq _ zt ⟨hi10, hi19⟩)
      · refine fm_table (pc := 47) 85 (by decide) rfl (fm_dec dtX11_years 28 rfl) ?_
        refine fm_aloadn (pc := 85) (n := 0) 0 rfl rfl (fm_dec dtX11_years 34 rfl) ?_
        refine fm_getR (k := 0) (j := 28) (ci := 11) (pc := 86) 8 rfl fl_X11_64 (by decide) rfl (by decide) (by decide) (fm_dec dtX11_years 35 rfl) ?_
        refine fm_bipush (pc := 89) (v := 11) (by decide) (fm_dec dtX11_years 36 rfl) ?_
        refine fm_iald (k := 8) (n := 14) (pc := 91) (by decide) rfl rfl (fm_inl (by decide)) (fm_dec dtX11_years 37 rfl) ?_
        refine fm_aloadn (pc := 92) (n := 0) 0 rfl rfl (fm_dec dtX11_years 38 rfl) ?_
        refine fm_getR (k := 0) (j := 27) (ci := 11) (pc := 93) 7 rfl fl_X11_61 (by decide) rfl (by decide) (by decide) (fm_dec dtX11_years 39 rfl) ?_
        refine fm_bipush (pc := 96) (v := 11) (by decide) (fm_dec dtX11_years 40 rfl) ?_
        refine fm_iald (k := 7) (n := 14) (pc := 98) (by decide) rfl rfl (fm_inl (by decide)) (fm_dec dtX11_years 41 rfl) ?_
        refine fm_isub (pc := 99) (fm_dec dtX11_years 42 rfl) ?_
        exact fm_ireturn (pc := 100) rfl (fm_dec dtX11_years 43 rfl) (by have e : M43.1 8 11 - M43.1 7 11 = 0 := (by rw [z8 11 (by decide) (by decide) (by decide), z7, h11]; decide); have hq := hq _ zt ⟨hi10, hi19⟩; rw [← e] at hq; exact hq)
      · refine fm_table (pc := 47) 101 (by decide) rfl (fm_dec dtX11_years 28 rfl) ?_
        refine fm_aloadn (pc := 101) (n := 0) 0 rfl rfl (fm_dec dtX11_years 44 rfl) ?_
        refine fm_getR (k := 0) (j := 28) (ci := 11) (pc := 102) 8 rfl fl_X11_64 (by decide) rfl (by decide) (by decide) (fm_dec dtX11_years 45 rfl) ?_
        refine fm_bipush (pc := 105) (v := 12) (by decide) (fm_dec dtX11_years 46 rfl) ?_
        refine fm_iald (k := 8) (n := 14) (pc := 107) (by decide) rfl rfl (fm_inl (by decide)) (fm_dec dtX11_years 47 rfl) ?_
        refine fm_aloadn (pc := 108) (n := 0) 0 rfl rfl (fm_dec dtX11_years 48 rfl) ?_
        refine fm_getR (k := 0) (j := 27) (ci := 11) (pc := 109) 7 rfl fl_X11_61 (by decide) rfl (by decide) (by decide) (fm_dec dtX11_years 49 rfl) ?_
        refine fm_bipush (pc := 112) (v := 12) (by decide) (fm_dec dtX11_years 50 rfl) ?_
        refine fm_iald (k := 7) (n := 14) (pc := 114) (by decide) rfl rfl (fm_inl (by decide)) (fm_dec dtX11_years 51 rfl) ?_
        refine fm_isub (pc := 115) (fm_dec dtX11_years 52 rfl) ?_
        exact fm_ireturn (pc := 116) rfl (fm_dec dtX11_years 53 rfl) (by have e : M43.1 8 12 - M43.1 7 12 = 0 := (by rw [z8 12 (by decide) (by decide) (by decide), z7, h12]; decide); have hq := hq _ zt ⟨hi10, hi19⟩; rw [← e] at hq; exact hq)
      · refine fm_table (pc := 47) 117 (by decide) rfl (fm_dec dtX11_years 28 rfl) ?_
        refine fm_aloadn (pc := 117) (n := 0) 0 rfl rfl (fm_dec dtX11_years 54 rfl) ?_
        refine fm_getI (k := 0) (j := 48) (ci := 11) (pc := 118) fl_X11_429 (by decide) rfl (by decide) rfl (fm_dec dtX11_years 55 rfl) ?_
        exact fm_ireturn (pc := 121) rfl (fm_dec dtX11_years 56 rfl) (by rw [c43]; exact hq _ zt ⟨hi10, hi19⟩)
      · refine fm_table (pc := 47) 122 (by decide) rfl (fm_dec dtX11_years 28 rfl) ?_
        refine fm_aloadn (pc := 122) (n := 0) 0 rfl rfl (fm_dec dtX11_years 57 rfl) ?_
        refine fm_getR (k := 0) (j := 28) (ci := 11) (pc := 123) 8 rfl fl_X11_64 (by decide) rfl (by decide) (by decide) (fm_dec dtX11_years 58 rfl) ?_
        refine fm_bipush (pc := 126) (v := 13) (by decide) (fm_dec dtX11_years 59 rfl) ?_
        refine fm_iald (k := 8) (n := 14) (pc := 128) (by decide) rfl rfl (fm_inl (by decide)) (fm_dec dtX11_years 60 rfl) ?_
        refine fm_aloadn (pc := 129) (n := 0) 0 rfl rfl (fm_dec dtX11_years 61 rfl) ?_
        refine fm_getR (k := 0) (j := 27) (ci := 11) (pc := 130) 7 rfl fl_X11_61 (by decide) rfl (by decide) (by decide) (fm_dec dtX11_years 62 rfl) ?_
        refine fm_bipush (pc := 133) (v := 13) (by decide) (fm_dec dtX11_years 63 rfl) ?_
        refine fm_iald (k := 7) (n := 14) (pc := 135) (by decide) rfl rfl (fm_inl (by decide)) (fm_dec dtX11_years 64 rfl) ?_
        refine fm_isub (pc := 136) (fm_dec dtX11_years 65 rfl) ?_
        refine fm_bipush (pc := 137) (v := 64) (by decide) (fm_dec dtX11_years 66 rfl) ?_
        refine fm_idiv (pc := 139) (by decide) (fm_dec dtX11_years 67 rfl) ?_
        exact fm_ireturn (pc := 140) rfl (fm_dec dtX11_years 68 rfl) (by have e : (M43.1 8 13 - M43.1 7 13) / 64 = 0 := (by rw [z8 13 (by decide) (by decide) (by decide), z7, h13]; decide); have hq := hq _ zt ⟨hi10, hi19⟩; rw [← e] at hq; exact hq)
    · refine fm_then1 ?_
      refine fm_if_ne (pc := 22) 29 (by decide) (fm_dec dtX11_years 13 rfl) (fun hc22 => by exfalso; revert hc22; decide) (fun _ => ?_)
      refine fm_iconst (pc := 25) (v := 1) (by decide) (fm_dec dtX11_years 14 rfl) ?_
      refine fm_goto (pc := 26) 30 (by decide) (fm_dec dtX11_years 15 rfl) ?_
      refine fm_iconst (pc := 30) (v := 1) (by decide) (fm_dec dtX11_years 17 rfl) ?_
      refine fm_iconst (pc := 31) (v := 1) (by decide) (fm_dec dtX11_years 18 rfl) ?_
      refine fm_invV3 (k := 0) (d' := 0) (pc := 32) cv_X11_177 (by decide) rfl (Nat.le_of_ble_eq_true rfl) (by decide) (fm_dec dtX11_years 19 rfl) ?_
      refine d_bad1_1 hst _ (by first | exact h0 | simp [fmI, upd]) (by decide) (fun Mb hb => ?_)
      refine fm_then1 ?_
      refine fm_if_eq (pc := 35) 40 (by decide) (fm_dec dtX11_years 20 rfl) (fun hc35 => by exfalso; revert hc35; decide) (fun _ => ?_)
      refine fm_iconst (pc := 38) (v := 0) (by decide) (fm_dec dtX11_years 21 rfl) ?_
      exact fm_ireturn (pc := 39) rfl (fm_dec dtX11_years 22 rfl) (hx _ _ hb (fun h => by first | exact hn10 h.1 | exact hn19 h.2))
  · refine fm_then1 ?_
    refine fm_if_eq (pc := 13) 25 (by decide) (fm_dec dtX11_years 8 rfl) (fun _ => ?_) (fun hc13 => by exfalso; revert hc13; decide)
    refine fm_iconst (pc := 25) (v := 1) (by decide) (fm_dec dtX11_years 14 rfl) ?_
    refine fm_goto (pc := 26) 30 (by decide) (fm_dec dtX11_years 15 rfl) ?_
    refine fm_iconst (pc := 30) (v := 1) (by decide) (fm_dec dtX11_years 17 rfl) ?_
    refine fm_iconst (pc := 31) (v := 1) (by decide) (fm_dec dtX11_years 18 rfl) ?_
    refine fm_invV3 (k := 0) (d' := 0) (pc := 32) cv_X11_177 (by decide) rfl (Nat.le_of_ble_eq_true rfl) (by decide) (fm_dec dtX11_years 19 rfl) ?_
    refine d_bad1_1 hst _ (by first | exact h0 | simp [fmI, upd]) (by decide) (fun Mb hb => ?_)
    refine fm_then1 ?_
    refine fm_if_eq (pc := 35) 40 (by decide) (fm_dec dtX11_years 20 rfl) (fun hc35 => by exfalso; revert hc35; decide) (fun _ => ?_)
    refine fm_iconst (pc := 38) (v := 0) (by decide) (fm_dec dtX11_years 21 rfl) ?_
    exact fm_ireturn (pc := 39) rfl (fm_dec dtX11_years 22 rfl) (hx _ _ hb (fun h => by first | exact hn10 h.1 | exact hn19 h.2))

set_option maxRecDepth 20000 in
theorem m_span {l : Launch} {G : fmG} {M : fmM} {Q : fmR → fmM → Prop} (hst : l.stackTraces = false) (a b c d e : Int32) (hl : M.1 4 0 = 0) (hx : ∀ (r9 : Int32) M', M'.1 0 0 = 1 → Q (.inl (some (.int r9))) M') : fmGood Tm l G 10 qX11_span [.ref (G.1 0), .int a, .int b, .int c, .int d, .int e] M Q := by
  refine fmGood_of hst (by decide +kernel) (Nat.le_of_ble_eq_true rfl) ?_
  show fmEv Tm l G 10 qX11_span 0 [some (.ref (G.1 0)), some (.int a), some (.int b), some (.int c), some (.int d), some (.int e), none, none, none, none, none, none] [] M Q
  refine fm_aloadn (pc := 0) (n := 0) 0 rfl rfl (fm_dec dtX11_span 0 rfl) ?_
  refine fm_iconst (pc := 1) (v := 0) (by decide) (fm_dec dtX11_span 1 rfl) ?_
  refine fm_putI (k := 0) (j := 0) (ci := 11) (pc := 2) fl_X11_101 (by decide) rfl (by decide) rfl rfl (fm_dec dtX11_span 2 rfl) ?_
  refine fm_aloadn (pc := 5) (n := 0) 0 rfl rfl (fm_dec dtX11_span 3 rfl) ?_
  refine fm_iloadn (pc := 6) (n := 2) 2 rfl rfl (fm_dec dtX11_span 4 rfl) ?_
  refine fm_iconst (pc := 7) (v := 1) (by decide) (fm_dec dtX11_span 5 rfl) ?_
  refine fm_bipush (pc := 8) (v := 20) (by decide) (fm_dec dtX11_span 6 rfl) ?_
  refine fm_invS3 (d' := 0) (pc := 10) cs_X11_135 (Nat.le_of_ble_eq_true rfl) (by decide) (fm_dec dtX11_span 7 rfl) ?_
  refine d_in hst _ _ _ (fun hi10 => ?_) (fun hn10 => ?_)
  · refine fm_then1 ?_
    refine fm_if_eq (pc := 13) 45 (by decide) (fm_dec dtX11_span 8 rfl) (fun hc13 => by exfalso; revert hc13; decide) (fun _ => ?_)
    refine fm_iloadn (pc := 16) (n := 3) 3 rfl rfl (fm_dec dtX11_span 9 rfl) ?_
    refine fm_iconst (pc := 17) (v := 1) (by decide) (fm_dec dtX11_span 10 rfl) ?_
    refine fm_bipush (pc := 18) (v := 60) (by decide) (fm_dec dtX11_span 11 rfl) ?_
    refine fm_invS3 (d' := 0) (pc := 20) cs_X11_135 (Nat.le_of_ble_eq_true rfl) (by decide) (fm_dec dtX11_span 12 rfl) ?_
    refine d_in hst _ _ _ (fun hi20 => ?_) (fun hn20 => ?_)
    · refine fm_then1 ?_
      refine fm_if_eq (pc := 23) 45 (by decide) (fm_dec dtX11_span 13 rfl) (fun hc23 => by exfalso; revert hc23; decide) (fun _ => ?_)
      refine fm_iload (pc := 26) (i := 4) rfl (fm_dec dtX11_span 14 rfl) ?_
      refine fm_iconst (pc := 28) (v := 0) (by decide) (fm_dec dtX11_span 15 rfl) ?_
      refine fm_iconst (pc := 29) (v := 3) (by decide) (fm_dec dtX11_span 16 rfl) ?_
      refine fm_invS3 (d' := 0) (pc := 30) cs_X11_135 (Nat.le_of_ble_eq_true rfl) (by decide) (fm_dec dtX11_span 17 rfl) ?_
      refine d_in hst _ _ _ (fun hi30 => ?_) (fun hn30 => ?_)
      · refine fm_then1 ?_
        refine fm_if_eq (pc := 33) 45 (by decide) (fm_dec dtX11_span 18 rfl) (fun hc33 => by exfalso; revert hc33; decide) (fun _ => ?_)
        refine fm_aloadn (pc := 36) (n := 0) 0 rfl rfl (fm_dec dtX11_span 19 rfl) ?_
        refine fm_iload (pc := 37) (i := 5) rfl (fm_dec dtX11_span 20 rfl) ?_
        refine fm_invV1 (k := 0) (d' := 1) (pc := 39) cv_X11_331 (by decide) rfl (Nat.le_of_ble_eq_true rfl) (by decide) (fm_dec dtX11_span 21 rfl) ?_
        refine d_isLife0 hst _ (by first | exact hl | simp [fmI, fmJ, upd, hl]) ?_
        refine fm_then1 ?_
        refine fm_if_ne (pc := 42) 49 (by decide) (fm_dec dtX11_span 22 rfl) (fun hc42 => by exfalso; revert hc42; decide) (fun _ => ?_)
        refine fm_iconst (pc := 45) (v := 1) (by decide) (fm_dec dtX11_span 23 rfl) ?_
        refine fm_goto (pc := 46) 50 (by decide) (fm_dec dtX11_span 24 rfl) ?_
        refine fm_iconst (pc := 50) (v := 1) (by decide) (fm_dec dtX11_span 26 rfl) ?_
        refine fm_iconst (pc := 51) (v := 1) (by decide) (fm_dec dtX11_span 27 rfl) ?_
        refine fm_invV3 (k := 0) (d' := 0) (pc := 52) cv_X11_177 (by decide) rfl (Nat.le_of_ble_eq_true rfl) (by decide) (fm_dec dtX11_span 28 rfl) ?_
        refine d_bad1_1 hst _ (by first | exact h0 | simp [fmI, upd]) (by decide) (fun Mb hb => ?_)
        refine fm_then1 ?_
        refine fm_if_eq (pc := 55) 60 (by decide) (fm_dec dtX11_span 29 rfl) (fun hc55 => by exfalso; revert hc55; decide) (fun _ => ?_)
        refine fm_iconst (pc := 58) (v := 0) (by decide) (fm_dec dtX11_span 30 rfl) ?_
        exact fm_ireturn (pc := 59) rfl (fm_dec dtX11_span 31 rfl) (hx _ _ hb)
      · refine fm_then1 ?_
        refine fm_if_eq (pc := 33) 45 (by decide) (fm_dec dtX11_span 18 rfl) (fun _ => ?_) (fun hc33 => by exfalso; revert hc33; decide)
        refine fm_iconst (pc := 45) (v := 1) (by decide) (fm_dec dtX11_span 23 rfl) ?_
        refine fm_goto (pc := 46) 50 (by decide) (fm_dec dtX11_span 24 rfl) ?_
        refine fm_iconst (pc := 50) (v := 1) (by decide) (fm_dec dtX11_span 26 rfl) ?_
        refine fm_iconst (pc := 51) (v := 1) (by decide) (fm_dec dtX11_span 27 rfl) ?_
        refine fm_invV3 (k := 0) (d' := 0) (pc := 52) cv_X11_177 (by decide) rfl (Nat.le_of_ble_eq_true rfl) (by decide) (fm_dec dtX11_span 28 rfl) ?_
        refine d_bad1_1 hst _ (by first | exact h0 | simp [fmI, upd]) (by decide) (fun Mb hb => ?_)
        refine fm_then1 ?_
        refine fm_if_eq (pc := 55) 60 (by decide) (fm_dec dtX11_span 29 rfl) (fun hc55 => by exfalso; revert hc55; decide) (fun _ => ?_)
        refine fm_iconst (pc := 58) (v := 0) (by decide) (fm_dec dtX11_span 30 rfl) ?_
        exact fm_ireturn (pc := 59) rfl (fm_dec dtX11_span 31 rfl) (hx _ _ hb)
    · refine fm_then1 ?_
      refine fm_if_eq (pc := 23) 45 (by decide) (fm_dec dtX11_span 13 rfl) (fun _ => ?_) (fun hc23 => by exfalso; revert hc23; decide)
      refine fm_iconst (pc := 45) (v := 1) (by decide) (fm_dec dtX11_span 23 rfl) ?_
      refine fm_goto (pc := 46) 50 (by decide) (fm_dec dtX11_span 24 rfl) ?_
      refine fm_iconst (pc := 50) (v := 1) (by decide) (fm_dec dtX11_span 26 rfl) ?_
      refine fm_iconst (pc := 51) (v := 1) (by decide) (fm_dec dtX11_span 27 rfl) ?_
      refine fm_invV3 (k := 0) (d' := 0) (pc := 52) cv_X11_177 (by decide) rfl (Nat.le_of_ble_eq_true rfl) (by decide) (fm_dec dtX11_span 28 rfl) ?_
      refine d_bad1_1 hst _ (by first | exact h0 | simp [fmI, upd]) (by decide) (fun Mb hb => ?_)
      refine fm_then1 ?_
      refine fm_if_eq (pc := 55) 60 (by decide) (fm_dec dtX11_span 29 rfl) (fun hc55 => by exfalso; revert hc55; decide) (fun _ => ?_)
      refine fm_iconst (pc := 58) (v := 0) (by decide) (fm_dec dtX11_span 30 rfl) ?_
      exact fm_ireturn (pc := 59) rfl (fm_dec dtX11_span 31 rfl) (hx _ _ hb)
  · refine fm_then1 ?_
    refine fm_if_eq (pc := 13) 45 (by decide) (fm_dec dtX11_span 8 rfl) (fun _ => ?_) (fun hc13 => by exfalso; revert hc13; decide)
    refine fm_iconst (pc := 45) (v := 1) (by decide) (fm_dec dtX11_span 23 rfl) ?_
    refine fm_goto (pc := 46) 50 (by decide) (fm_dec dtX11_span 24 rfl) ?_
    refine fm_iconst (pc := 50) (v := 1) (by decide) (fm_dec dtX11_span 26 rfl) ?_
    refine fm_iconst (pc := 51) (v := 1) (by decide) (fm_dec dtX11_span 27 rfl) ?_
    refine fm_invV3 (k := 0) (d' := 0) (pc := 52) cv_X11_177 (by decide) rfl (Nat.le_of_ble_eq_true rfl) (by decide) (fm_dec dtX11_span 28 rfl) ?_
    refine d_bad1_1 hst _ (by first | exact h0 | simp [fmI, upd]) (by decide) (fun Mb hb => ?_)
    refine fm_then1 ?_
    refine fm_if_eq (pc := 55) 60 (by decide) (fm_dec dtX11_span 29 rfl) (fun hc55 => by exfalso; revert hc55; decide) (fun _ => ?_)
    refine fm_iconst (pc := 58) (v := 0) (by decide) (fm_dec dtX11_span 30 rfl) ?_
    exact fm_ireturn (pc := 59) rfl (fm_dec dtX11_span 31 rfl) (hx _ _ hb)

set_option maxRecDepth 20000 in
theorem d_roomOf {l : Launch} {G : fmG} {M : fmM} {Q : fmR → fmM → Prop} (hst : l.stackTraces = false) (a b c : Int32) (hq : Q (.inl (some (.int ((13 * a + b) * 13 + c)))) M) : fmGood Tm l G 0 qX11_roomOf [.int a, .int b, .int c] M Q := by
  refine fmGood_of hst (by decide +kernel) (Nat.le_of_ble_eq_true rfl) ?_
  show fmEv Tm l G 0 qX11_roomOf 0 [some (.int a), some (.int b), some (.int c)] [] M Q
  refine fm_bipush (pc := 0) (v := 13) (by decide) (fm_dec dtX11_roomOf 0 rfl) ?_
  refine fm_iloadn (pc := 2) (n := 0) 0 rfl rfl (fm_dec dtX11_roomOf 1 rfl) ?_
  refine fm_imul (pc := 3) (fm_dec dtX11_roomOf 2 rfl) ?_
  refine fm_iloadn (pc := 4) (n := 1) 1 rfl rfl (fm_dec dtX11_roomOf 3 rfl) ?_
  refine fm_iadd (pc := 5) (fm_dec dtX11_roomOf 4 rfl) ?_
  refine fm_bipush (pc := 6) (v := 13) (by decide) (fm_dec dtX11_roomOf 5 rfl) ?_
  refine fm_imul (pc := 8) (fm_dec dtX11_roomOf 6 rfl) ?_
  refine fm_iloadn (pc := 9) (n := 2) 2 rfl rfl (fm_dec dtX11_roomOf 7 rfl) ?_
  refine fm_iadd (pc := 10) (fm_dec dtX11_roomOf 8 rfl) ?_
  exact fm_ireturn (pc := 11) rfl (fm_dec dtX11_roomOf 9 rfl) hq

set_option maxRecDepth 20000 in
theorem lb_loop {l : Launch} {G : fmG} {Q : fmR → fmM → Prop} (hst : l.stackTraces = false) (n9 : Int32) : ∀ (n : Nat) (M : fmM) (i : Nat), i + n = 2197 → M.1 4 0 = 0 → M.1 4 2 = 8 → M.1 7 9 = 8 → (∀ j, j < i → M.2 9 j = 0 ∧ M.2 10 j = 0) → (∀ M', M'.1 = M.1 → (∀ j, j < 2197 → M'.2 9 j = 0 ∧ M'.2 10 j = 0) → Q (.inl (some (.int 1464))) M') → fmEv Tm l G 7 qX11_laysBest 2 [some (.ref (G.1 0)), some (.int n9), some (.int (nI i)), none] [] M Q := by
  intro n
  induction n with
  | zero =>
    intro M i hi hl h2 h9 h0 hq
    have e : i = 2197 := by omega
    subst e
    refine fm_iloadn (pc := 2) (n := 2) 2 rfl rfl (fm_dec dtX11_laysBest 2 rfl) ?_
    refine fm_sipush (pc := 3) (v := 2197) (by decide) (fm_dec dtX11_laysBest 3 rfl) ?_
    refine fm_icmp_ge (pc := 6) 29 (by decide) (fm_dec dtX11_laysBest 4 rfl) (fun _ => ?_) (fun hc6 => by exfalso; revert hc6; decide)
    refine fm_iconst (pc := 29) (v := 0) (by decide) (fm_dec dtX11_laysBest 17 rfl) ?_
    refine fm_istoren (pc := 30) (n := 2) 2 rfl (by decide) rfl (fm_dec dtX11_laysBest 18 rfl) ?_
    dsimp only [List.set_cons_zero, List.set_cons_succ]
    refine fm_iloadn (pc := 31) (n := 2) 2 rfl rfl (fm_dec dtX11_laysBest 19 rfl) ?_
    refine fm_aloadn (pc := 32) (n := 0) 0 rfl rfl (fm_dec dtX11_laysBest 20 rfl) ?_
    refine fm_getR (k := 0) (j := 12) (ci := 11) (pc := 33) 4 rfl fl_X11_23 (by decide) rfl (by decide) (by decide) (fm_dec dtX11_laysBest 21 rfl) ?_
    refine fm_iconst (pc := 36) (v := 0) (by decide) (fm_dec dtX11_laysBest 22 rfl) ?_
    refine fm_iald (k := 4) (n := 6) (pc := 37) (by decide) rfl rfl (fm_inl (by decide)) (fm_dec dtX11_laysBest 23 rfl) ?_
    refine fm_icmp_ge (pc := 38) 141 (by decide) (fm_dec dtX11_laysBest 24 rfl) (fun _ => ?_) (fun hc38 => by exfalso; exact hc38 (by simp [fmI, fmJ, upd, hl]))
    refine fm_aloadn (pc := 141) (n := 0) 0 rfl rfl (fm_dec dtX11_laysBest 81 rfl) ?_
    refine fm_getR (k := 0) (j := 27) (ci := 11) (pc := 142) 7 rfl fl_X11_61 (by decide) rfl (by decide) (by decide) (fm_dec dtX11_laysBest 82 rfl) ?_
    refine fm_bipush (pc := 145) (v := 9) (by decide) (fm_dec dtX11_laysBest 83 rfl) ?_
    refine fm_iald (k := 7) (n := 14) (pc := 147) (by decide) rfl rfl (fm_inl (by decide)) (fm_dec dtX11_laysBest 84 rfl) ?_
    refine fm_aloadn (pc := 148) (n := 0) 0 rfl rfl (fm_dec dtX11_laysBest 85 rfl) ?_
    refine fm_getR (k := 0) (j := 12) (ci := 11) (pc := 149) 4 rfl fl_X11_23 (by decide) rfl (by decide) (by decide) (fm_dec dtX11_laysBest 86 rfl) ?_
    refine fm_iconst (pc := 152) (v := 2) (by decide) (fm_dec dtX11_laysBest 87 rfl) ?_
    refine fm_iald (k := 4) (n := 6) (pc := 153) (by decide) rfl rfl (fm_inl (by decide)) (fm_dec dtX11_laysBest 88 rfl) ?_
    refine fm_aloadn (pc := 154) (n := 0) 0 rfl rfl (fm_dec dtX11_laysBest 89 rfl) ?_
    refine fm_getR (k := 0) (j := 12) (ci := 11) (pc := 155) 4 rfl fl_X11_23 (by decide) rfl (by decide) (by decide) (fm_dec dtX11_laysBest 90 rfl) ?_
    refine fm_iconst (pc := 158) (v := 2) (by decide) (fm_dec dtX11_laysBest 91 rfl) ?_
    refine fm_iald (k := 4) (n := 6) (pc := 159) (by decide) rfl rfl (fm_inl (by decide)) (fm_dec dtX11_laysBest 92 rfl) ?_
    refine fm_invS3 (d' := 0) (pc := 160) cs_X11_369 (Nat.le_of_ble_eq_true rfl) (by decide) (fm_dec dtX11_laysBest 93 rfl) ?_
    refine d_roomOf hst _ _ _ ?_
    refine fm_then1 ?_
    refine fm_topE (v := 1464) (by show ((13 * M.1 7 9 + M.1 4 2) * 13 + M.1 4 2 : Int32) = 1464; rw [h2, h9]; decide) ?_
    exact fm_ireturn (pc := 163) rfl (fm_dec dtX11_laysBest 94 rfl) (hq M rfl h0)
  | succ n ih =>
    intro M i hi hl h2 h9 h0 hq
    refine fm_iloadn (pc := 2) (n := 2) 2 rfl rfl (fm_dec dtX11_laysBest 2 rfl) ?_
    refine fm_sipush (pc := 3) (v := 2197) (by decide) (fm_dec dtX11_laysBest 3 rfl) ?_
    refine fm_icmp_ge (pc := 6) 29 (by decide) (fm_dec dtX11_laysBest 4 rfl) (fun hc6 => by exfalso; rw [show (2197 : Int32) = nI 2197 by decide] at hc6; exact nI_ge (show i < 2197 by omega) (by decide) hc6) (fun _ => ?_)
    refine fm_aloadn (pc := 9) (n := 0) 0 rfl rfl (fm_dec dtX11_laysBest 5 rfl) ?_
    refine fm_getR (k := 0) (j := 38) (ci := 11) (pc := 10) 9 rfl fl_X11_73 (by decide) rfl (by decide) (by decide) (fm_dec dtX11_laysBest 6 rfl) ?_
    refine fm_iloadn (pc := 13) (n := 2) 2 rfl rfl (fm_dec dtX11_laysBest 7 rfl) ?_
    refine fm_lconst (pc := 14) (v := 0) (by decide) (fm_dec dtX11_laysBest 8 rfl) ?_
    refine fm_last (k := 9) (n := 2197) (pc := 15) (by decide) rfl rfl (vp_in_nI (by omega) (by decide)) (fm_dec dtX11_laysBest 9 rfl) ?_
    refine fm_aloadn (pc := 16) (n := 0) 0 rfl rfl (fm_dec dtX11_laysBest 10 rfl) ?_
    refine fm_getR (k := 0) (j := 39) (ci := 11) (pc := 17) 10 rfl fl_X11_77 (by decide) rfl (by decide) (by decide) (fm_dec dtX11_laysBest 11 rfl) ?_
    refine fm_iloadn (pc := 20) (n := 2) 2 rfl rfl (fm_dec dtX11_laysBest 12 rfl) ?_
    refine fm_lconst (pc := 21) (v := 0) (by decide) (fm_dec dtX11_laysBest 13 rfl) ?_
    refine fm_last (k := 10) (n := 2197) (pc := 22) (by decide) rfl rfl (vp_in_nI (by omega) (by decide)) (fm_dec dtX11_laysBest 14 rfl) ?_
    refine fm_iincc (pc := 23) 2 1 (by decide) rfl (by decide) rfl (fm_dec dtX11_laysBest 15 rfl) ?_
    dsimp only [List.set_cons_zero, List.set_cons_succ]
    refine fm_goto (pc := 26) 2 (by decide) (fm_dec dtX11_laysBest 16 rfl) ?_
    rw [show nI i + 1 = nI (i + 1) from nI_1 i, nI_clamp (show i < 2 ^ 31 by omega)]
    refine ih _ (i + 1) (by omega) hl h2 h9 (fun j hj => ?_) (fun M1 e1 e2 => hq M1 e1 e2)
    by_cases e : j = i
    · subst e; simp [fmJ, vp_updL]
    · simp [fmJ, vp_updL, e, h0 j (by omega)]

set_option maxRecDepth 20000 in
theorem d_laysBest0 {l : Launch} {G : fmG} {M : fmM} {Q : fmR → fmM → Prop} (hst : l.stackTraces = false) (n9 : Int32) (hl : M.1 4 0 = 0) (h2 : M.1 4 2 = 8) (h9 : M.1 7 9 = 8) (hq : (∀ M', M'.1 = M.1 → (∀ j, j < 2197 → M'.2 9 j = 0 ∧ M'.2 10 j = 0) → Q (.inl (some (.int 1464))) M')) : fmGood Tm l G 7 qX11_laysBest [.ref (G.1 0), .int n9] M Q := by
  refine fmGood_of hst (by decide +kernel) (Nat.le_of_ble_eq_true rfl) ?_
  show fmEv Tm l G 7 qX11_laysBest 0 [some (.ref (G.1 0)), some (.int n9), none, none] [] M Q
  refine fm_iconst (pc := 0) (v := 0) (by decide) (fm_dec dtX11_laysBest 0 rfl) ?_
  refine fm_istoren (pc := 1) (n := 2) 2 rfl (by decide) rfl (fm_dec dtX11_laysBest 1 rfl) ?_
  dsimp only [List.set_cons_zero, List.set_cons_succ]
  exact lb_loop hst n9 2197 M 0 (by omega) hl h2 h9 (fun j hj => absurd hj (by omega)) hq

set_option maxRecDepth 20000 in
theorem d_pow2 {l : Launch} {G : fmG} {M : fmM} {Q : fmR → fmM → Prop} (hst : l.stackTraces = false)  (hq : Q (.inl (some (.long 4096))) M) : fmGood Tm l G 0 qX11_power [.long 64, .int 2] M Q := by
  refine fmGood_of hst (by decide +kernel) (Nat.le_of_ble_eq_true rfl) ?_
  show fmEv Tm l G 0 qX11_power 0 [some (.long 64), none, some (.int 2), none, none, none] [] M Q
  refine fm_lconst (pc := 0) (v := 1) (by decide) (fm_dec dtX11_power 0 rfl) ?_
  refine fm_lstoren (pc := 1) (n := 3) 3 rfl (by decide) rfl (fm_dec dtX11_power 1 rfl) ?_
  dsimp only [List.set_cons_zero, List.set_cons_succ]
  refine fm_iconst (pc := 2) (v := 0) (by decide) (fm_dec dtX11_power 2 rfl) ?_
  refine fm_istore (pc := 3) (i := 5) (by decide) rfl (fm_dec dtX11_power 3 rfl) ?_
  dsimp only [List.set_cons_zero, List.set_cons_succ]
  refine fm_iload (pc := 5) (i := 5) rfl (fm_dec dtX11_power 4 rfl) ?_
  refine fm_iloadn (pc := 7) (n := 2) 2 rfl rfl (fm_dec dtX11_power 5 rfl) ?_
  refine fm_icmp_ge (pc := 8) 21 (by decide) (fm_dec dtX11_power 6 rfl) (fun hc8 => by exfalso; revert hc8; decide) (fun _ => ?_)
  refine fm_lloadn (pc := 11) (n := 3) 3 rfl rfl (fm_dec dtX11_power 7 rfl) ?_
  refine fm_lloadn (pc := 12) (n := 0) 0 rfl rfl (fm_dec dtX11_power 8 rfl) ?_
  refine fm_lmul (pc := 13) (fm_dec dtX11_power 9 rfl) ?_
  refine fm_lstoren (pc := 14) (n := 3) 3 rfl (by decide) rfl (fm_dec dtX11_power 10 rfl) ?_
  dsimp only [List.set_cons_zero, List.set_cons_succ]
  refine fm_iincc (pc := 15) 5 1 (by decide) rfl (by decide) rfl (fm_dec dtX11_power 11 rfl) ?_
  dsimp only [List.set_cons_zero, List.set_cons_succ]
  rw [show (0 : Int32) + 1 = 1 by decide]
  refine fm_goto (pc := 18) 5 (by decide) (fm_dec dtX11_power 12 rfl) ?_
  refine fm_iload (pc := 5) (i := 5) rfl (fm_dec dtX11_power 4 rfl) ?_
  refine fm_iloadn (pc := 7) (n := 2) 2 rfl rfl (fm_dec dtX11_power 5 rfl) ?_
  refine fm_icmp_ge (pc := 8) 21 (by decide) (fm_dec dtX11_power 6 rfl) (fun hc8 => by exfalso; revert hc8; decide) (fun _ => ?_)
  refine fm_lloadn (pc := 11) (n := 3) 3 rfl rfl (fm_dec dtX11_power 7 rfl) ?_
  refine fm_lloadn (pc := 12) (n := 0) 0 rfl rfl (fm_dec dtX11_power 8 rfl) ?_
  refine fm_lmul (pc := 13) (fm_dec dtX11_power 9 rfl) ?_
  refine fm_lstoren (pc := 14) (n := 3) 3 rfl (by decide) rfl (fm_dec dtX11_power 10 rfl) ?_
  dsimp only [List.set_cons_zero, List.set_cons_succ]
  refine fm_iincc (pc := 15) 5 1 (by decide) rfl (by decide) rfl (fm_dec dtX11_power 11 rfl) ?_
  dsimp only [List.set_cons_zero, List.set_cons_succ]
  rw [show (1 : Int32) + 1 = 2 by decide]
  refine fm_goto (pc := 18) 5 (by decide) (fm_dec dtX11_power 12 rfl) ?_
  refine fm_iload (pc := 5) (i := 5) rfl (fm_dec dtX11_power 4 rfl) ?_
  refine fm_iloadn (pc := 7) (n := 2) 2 rfl rfl (fm_dec dtX11_power 5 rfl) ?_
  refine fm_icmp_ge (pc := 8) 21 (by decide) (fm_dec dtX11_power 6 rfl) (fun _ => ?_) (fun hc8 => by exfalso; revert hc8; decide)
  refine fm_lloadn (pc := 21) (n := 3) 3 rfl rfl (fm_dec dtX11_power 13 rfl) ?_
  exact fm_lreturn (pc := 22) rfl (fm_dec dtX11_power 14 rfl) (by have e : (1 * 64 * 64 : Int64) = 4096 := (by decide); rw [e]; exact hq)

set_option maxRecDepth 20000 in
theorem d_pow3 {l : Launch} {G : fmG} {M : fmM} {Q : fmR → fmM → Prop} (hst : l.stackTraces = false)  (hq : Q (.inl (some (.long 262144))) M) : fmGood Tm l G 0 qX11_power [.long 64, .int 3] M Q := by
  refine fmGood_of hst (by decide +kernel) (Nat.le_of_ble_eq_true rfl) ?_
  show fmEv Tm l G 0 qX11_power 0 [some (.long 64), none, some (.int 3), none, none, none] [] M Q
  refine fm_lconst (pc := 0) (v := 1) (by decide) (fm_dec dtX11_power 0 rfl) ?_
  refine fm_lstoren (pc := 1) (n := 3) 3 rfl (by decide) rfl (fm_dec dtX11_power 1 rfl) ?_
  dsimp only [List.set_cons_zero, List.set_cons_succ]
  refine fm_iconst (pc := 2) (v := 0) (by decide) (fm_dec dtX11_power 2 rfl) ?_
  refine fm_istore (pc := 3) (i := 5) (by decide) rfl (fm_dec dtX11_power 3 rfl) ?_
  dsimp only [List.set_cons_zero, List.set_cons_succ]
  refine fm_iload (pc := 5) (i := 5) rfl (fm_dec dtX11_power 4 rfl) ?_
  refine fm_iloadn (pc := 7) (n := 2) 2 rfl rfl (fm_dec dtX11_power 5 rfl) ?_
  refine fm_icmp_ge (pc := 8) 21 (by decide) (fm_dec dtX11_power 6 rfl) (fun hc8 => by exfalso; revert hc8; decide) (fun _ => ?_)
  refine fm_lloadn (pc := 11) (n := 3) 3 rfl rfl (fm_dec dtX11_power 7 rfl) ?_
  refine fm_lloadn (pc := 12) (n := 0) 0 rfl rfl (fm_dec dtX11_power 8 rfl) ?_
  refine fm_lmul (pc := 13) (fm_dec dtX11_power 9 rfl) ?_
  refine fm_lstoren (pc := 14) (n := 3) 3 rfl (by decide) rfl (fm_dec dtX11_power 10 rfl) ?_
  dsimp only [List.set_cons_zero, List.set_cons_succ]
  refine fm_iincc (pc := 15) 5 1 (by decide) rfl (by decide) rfl (fm_dec dtX11_power 11 rfl) ?_
  dsimp only [List.set_cons_zero, List.set_cons_succ]
  rw [show (0 : Int32) + 1 = 1 by decide]
  refine fm_goto (pc := 18) 5 (by decide) (fm_dec dtX11_power 12 rfl) ?_
  refine fm_iload (pc := 5) (i := 5) rfl (fm_dec dtX11_power 4 rfl) ?_
  refine fm_iloadn (pc := 7) (n := 2) 2 rfl rfl (fm_dec dtX11_power 5 rfl) ?_
  refine fm_icmp_ge (pc := 8) 21 (by decide) (fm_dec dtX11_power 6 rfl) (fun hc8 => by exfalso; revert hc8; decide) (fun _ => ?_)
  refine fm_lloadn (pc := 11) (n := 3) 3 rfl rfl (fm_dec dtX11_power 7 rfl) ?_
  refine fm_lloadn (pc := 12) (n := 0) 0 rfl rfl (fm_dec dtX11_power 8 rfl) ?_
  refine fm_lmul (pc := 13) (fm_dec dtX11_power 9 rfl) ?_
  refine fm_lstoren (pc := 14) (n := 3) 3 rfl (by decide) rfl (fm_dec dtX11_power 10 rfl) ?_
  dsimp only [List.set_cons_zero, List.set_cons_succ]
  refine fm_iincc (pc := 15) 5 1 (by decide) rfl (by decide) rfl (fm_dec dtX11_power 11 rfl) ?_
  dsimp only [List.set_cons_zero, List.set_cons_succ]
  rw [show (1 : Int32) + 1 = 2 by decide]
  refine fm_goto (pc := 18) 5 (by decide) (fm_dec dtX11_power 12 rfl) ?_
  refine fm_iload (pc := 5) (i := 5) rfl (fm_dec dtX11_power 4 rfl) ?_
  refine fm_iloadn (pc := 7) (n := 2) 2 rfl rfl (fm_dec dtX11_power 5 rfl) ?_
  refine fm_icmp_ge (pc := 8) 21 (by decide) (fm_dec dtX11_power 6 rfl) (fun hc8 => by exfalso; revert hc8; decide) (fun _ => ?_)
  refine fm_lloadn (pc := 11) (n := 3) 3 rfl rfl (fm_dec dtX11_power 7 rfl) ?_
  refine fm_lloadn (pc := 12) (n := 0) 0 rfl rfl (fm_dec dtX11_power 8 rfl) ?_
  refine fm_lmul (pc := 13) (fm_dec dtX11_power 9 rfl) ?_
  refine fm_lstoren (pc := 14) (n := 3) 3 rfl (by decide) rfl (fm_dec dtX11_power 10 rfl) ?_
  dsimp only [List.set_cons_zero, List.set_cons_succ]
  refine fm_iincc (pc := 15) 5 1 (by decide) rfl (by decide) rfl (fm_dec dtX11_power 11 rfl) ?_
  dsimp only [List.set_cons_zero, List.set_cons_succ]
  rw [show (2 : Int32) + 1 = 3 by decide]
  refine fm_goto (pc := 18) 5 (by decide) (fm_dec dtX11_power 12 rfl) ?_
  refine fm_iload (pc := 5) (i := 5) rfl (fm_dec dtX11_power 4 rfl) ?_
  refine fm_iloadn (pc := 7) (n := 2) 2 rfl rfl (fm_dec dtX11_power 5 rfl) ?_
  refine fm_icmp_ge (pc := 8) 21 (by decide) (fm_dec dtX11_power 6 rfl) (fun _ => ?_) (fun hc8 => by exfalso; revert hc8; decide)
  refine fm_lloadn (pc := 21) (n := 3) 3 rfl rfl (fm_dec dtX11_power 13 rfl) ?_
  exact fm_lreturn (pc := 22) rfl (fm_dec dtX11_power 14 rfl) (by have e : (1 * 64 * 64 * 64 : Int64) = 262144 := (by decide); rw [e]; exact hq)

set_option maxRecDepth 20000 in
theorem d_pow4 {l : Launch} {G : fmG} {M : fmM} {Q : fmR → fmM → Prop} (hst : l.stackTraces = false)  (hq : Q (.inl (some (.long 16777216))) M) : fmGood Tm l G 0 qX11_power [.long 64, .int 4] M Q := by
  refine fmGood_of hst (by decide +kernel) (Nat.le_of_ble_eq_true rfl) ?_
  show fmEv Tm l G 0 qX11_power 0 [some (.long 64), none, some (.int 4), none, none, none] [] M Q
  refine fm_lconst (pc := 0) (v := 1) (by decide) (fm_dec dtX11_power 0 rfl) ?_
  refine fm_lstoren (pc := 1) (n := 3) 3 rfl (by decide) rfl (fm_dec dtX11_power 1 rfl) ?_
  dsimp only [List.set_cons_zero, List.set_cons_succ]
  refine fm_iconst (pc := 2) (v := 0) (by decide) (fm_dec dtX11_power 2 rfl) ?_
  refine fm_istore (pc := 3) (i := 5) (by decide) rfl (fm_dec dtX11_power 3 rfl) ?_
  dsimp only [List.set_cons_zero, List.set_cons_succ]
  refine fm_iload (pc := 5) (i := 5) rfl (fm_dec dtX11_power 4 rfl) ?_
  refine fm_iloadn (pc := 7) (n := 2) 2 rfl rfl (fm_dec dtX11_power 5 rfl) ?_
  refine fm_icmp_ge (pc := 8) 21 (by decide) (fm_dec dtX11_power 6 rfl) (fun hc8 => by exfalso; revert hc8; decide) (fun _ => ?_)
  refine fm_lloadn (pc := 11) (n := 3) 3 rfl rfl (fm_dec dtX11_power 7 rfl) ?_
  refine fm_lloadn (pc := 12) (n := 0) 0 rfl rfl (fm_dec dtX11_power 8 rfl) ?_
  refine fm_lmul (pc := 13) (fm_dec dtX11_power 9 rfl) ?_
  refine fm_lstoren (pc := 14) (n := 3) 3 rfl (by decide) rfl (fm_dec dtX11_power 10 rfl) ?_
  dsimp only [List.set_cons_zero, List.set_cons_succ]
  refine fm_iincc (pc := 15) 5 1 (by decide) rfl (by decide) rfl (fm_dec dtX11_power 11 rfl) ?_
  dsimp only [List.set_cons_zero, List.set_cons_succ]
  rw [show (0 : Int32) + 1 = 1 by decide]
  refine fm_goto (pc := 18) 5 (by decide) (fm_dec dtX11_power 12 rfl) ?_
  refine fm_iload (pc := 5) (i := 5) rfl (fm_dec dtX11_power 4 rfl) ?_
  refine fm_iloadn (pc := 7) (n := 2) 2 rfl rfl (fm_dec dtX11_power 5 rfl) ?_
  refine fm_icmp_ge (pc := 8) 21 (by decide) (fm_dec dtX11_power 6 rfl) (fun hc8 => by exfalso; revert hc8; decide) (fun _ => ?_)
  refine fm_lloadn (pc := 11) (n := 3) 3 rfl rfl (fm_dec dtX11_power 7 rfl) ?_
  refine fm_lloadn (pc := 12) (n := 0) 0 rfl rfl (fm_dec dtX11_power 8 rfl) ?_
  refine fm_lmul (pc := 13) (fm_dec dtX11_power 9 rfl) ?_
  refine fm_lstoren (pc := 14) (n := 3) 3 rfl (by decide) rfl (fm_dec dtX11_power 10 rfl) ?_
  dsimp only [List.set_cons_zero, List.set_cons_succ]
  refine fm_iincc (pc := 15) 5 1 (by decide) rfl (by decide) rfl (fm_dec dtX11_power 11 rfl) ?_
  dsimp only [List.set_cons_zero, List.set_cons_succ]
  rw [show (1 : Int32) + 1 = 2 by decide]
  refine fm_goto (pc := 18) 5 (by decide) (fm_dec dtX11_power 12 rfl) ?_
  refine fm_iload (pc := 5) (i := 5) rfl (fm_dec dtX11_power 4 rfl) ?_
  refine fm_iloadn (pc := 7) (n := 2) 2 rfl rfl (fm_dec dtX11_power 5 rfl) ?_
  refine fm_icmp_ge (pc := 8) 21 (by decide) (fm_dec dtX11_power 6 rfl) (fun hc8 => by exfalso; revert hc8; decide) (fun _ => ?_)
  refine fm_lloadn (pc := 11) (n := 3) 3 rfl rfl (fm_dec dtX11_power 7 rfl) ?_
  refine fm_lloadn (pc := 12) (n := 0) 0 rfl rfl (fm_dec dtX11_power 8 rfl) ?_
  refine fm_lmul (pc := 13) (fm_dec dtX11_power 9 rfl) ?_
  refine fm_lstoren (pc := 14) (n := 3) 3 rfl (by decide) rfl (fm_dec dtX11_power 10 rfl) ?_
  dsimp only [List.set_cons_zero, List.set_cons_succ]
  refine fm_iincc (pc := 15) 5 1 (by decide) rfl (by decide) rfl (fm_dec dtX11_power 11 rfl) ?_
  dsimp only [List.set_cons_zero, List.set_cons_succ]
  rw [show (2 : Int32) + 1 = 3 by decide]
  refine fm_goto (pc := 18) 5 (by decide) (fm_dec dtX11_power 12 rfl) ?_
  refine fm_iload (pc := 5) (i := 5) rfl (fm_dec dtX11_power 4 rfl) ?_
  refine fm_iloadn (pc := 7) (n := 2) 2 rfl rfl (fm_dec dtX11_power 5 rfl) ?_
  refine fm_icmp_ge (pc := 8) 21 (by decide) (fm_dec dtX11_power 6 rfl) (fun hc8 => by exfalso; revert hc8; decide) (fun _ => ?_)
  refine fm_lloadn (pc := 11) (n := 3) 3 rfl rfl (fm_dec dtX11_power 7 rfl) ?_
  refine fm_lloadn (pc := 12) (n := 0) 0 rfl rfl (fm_dec dtX11_power 8 rfl) ?_
  refine fm_lmul (pc := 13) (fm_dec dtX11_power 9 rfl) ?_
  refine fm_lstoren (pc := 14) (n := 3) 3 rfl (by decide) rfl (fm_dec dtX11_power 10 rfl) ?_
  dsimp only [List.set_cons_zero, List.set_cons_succ]
  refine fm_iincc (pc := 15) 5 1 (by decide) rfl (by decide) rfl (fm_dec dtX11_power 11 rfl) ?_
  dsimp only [List.set_cons_zero, List.set_cons_succ]
  rw [show (3 : Int32) + 1 = 4 by decide]
  refine fm_goto (pc := 18) 5 (by decide) (fm_dec dtX11_power 12 rfl) ?_
  refine fm_iload (pc := 5) (i := 5) rfl (fm_dec dtX11_power 4 rfl) ?_
  refine fm_iloadn (pc := 7) (n := 2) 2 rfl rfl (fm_dec dtX11_power 5 rfl) ?_
  refine fm_icmp_ge (pc := 8) 21 (by decide) (fm_dec dtX11_power 6 rfl) (fun _ => ?_) (fun hc8 => by exfalso; revert hc8; decide)
  refine fm_lloadn (pc := 21) (n := 3) 3 rfl rfl (fm_dec dtX11_power 13 rfl) ?_
  exact fm_lreturn (pc := 22) rfl (fm_dec dtX11_power 14 rfl) (by have e : (1 * 64 * 64 * 64 * 64 : Int64) = 16777216 := (by decide); rw [e]; exact hq)

set_option maxRecDepth 20000 in
theorem m_best {l : Launch} {G : fmG} {M : fmM} {Q : fmR → fmM → Prop} (hst : l.stackTraces = false) (n p : Int32) (hl : M.1 4 0 = 0) (h2 : M.1 4 2 = 8) (h9 : M.1 7 9 = 8) (hq : ∀ M', M'.1 0 0 = 0 → (inR n 1 3 ∧ inR p 0 1) → Q (.inl (some (.long (if p = 0 then 0 else 1)))) M') (hx : ∀ (r9 : Int64) M', M'.1 0 0 = 1 → ¬ (inR n 1 3 ∧ inR p 0 1) → Q (.inl (some (.long r9))) M') : fmGood Tm l G 8 qX11_best [.ref (G.1 0), .int n, .int p] M Q := by
  refine fmGood_of hst (by decide +kernel) (Nat.le_of_ble_eq_true rfl) ?_
  show fmEv Tm l G 8 qX11_best 0 [some (.ref (G.1 0)), some (.int n), some (.int p)] [] M Q
  refine fm_aloadn (pc := 0) (n := 0) 0 rfl rfl (fm_dec dtX11_best 0 rfl) ?_
  refine fm_iconst (pc := 1) (v := 0) (by decide) (fm_dec dtX11_best 1 rfl) ?_
  refine fm_putI (k := 0) (j := 0) (ci := 11) (pc := 2) fl_X11_101 (by decide) rfl (by decide) rfl rfl (fm_dec dtX11_best 2 rfl) ?_
  refine fm_aloadn (pc := 5) (n := 0) 0 rfl rfl (fm_dec dtX11_best 3 rfl) ?_
  refine fm_iloadn (pc := 6) (n := 1) 1 rfl rfl (fm_dec dtX11_best 4 rfl) ?_
  refine fm_iconst (pc := 7) (v := 1) (by decide) (fm_dec dtX11_best 5 rfl) ?_
  refine fm_iconst (pc := 8) (v := 3) (by decide) (fm_dec dtX11_best 6 rfl) ?_
  refine fm_invS3 (d' := 0) (pc := 9) cs_X11_135 (Nat.le_of_ble_eq_true rfl) (by decide) (fm_dec dtX11_best 7 rfl) ?_
  refine d_in hst _ _ _ (fun hi9 => ?_) (fun hn9 => ?_)
  · refine fm_then1 ?_
    refine fm_if_ne (pc := 12) 19 (by decide) (fm_dec dtX11_best 8 rfl) (fun _ => ?_) (fun hc12 => by exfalso; revert hc12; decide)
    refine fm_iconst (pc := 19) (v := 0) (by decide) (fm_dec dtX11_best 11 rfl) ?_
    refine fm_iconst (pc := 20) (v := 1) (by decide) (fm_dec dtX11_best 12 rfl) ?_
    refine fm_iconst (pc := 21) (v := 1) (by decide) (fm_dec dtX11_best 13 rfl) ?_
    refine fm_invV3 (k := 0) (d' := 0) (pc := 22) cv_X11_177 (by decide) rfl (Nat.le_of_ble_eq_true rfl) (by decide) (fm_dec dtX11_best 14 rfl) ?_
    refine d_bad0 hst _ _ (by first | exact h0 | simp [fmI, upd]) ?_
    refine fm_then1 ?_
    refine fm_if_ne (pc := 25) 37 (by decide) (fm_dec dtX11_best 15 rfl) (fun hc25 => by exfalso; revert hc25; decide) (fun _ => ?_)
    refine fm_aloadn (pc := 28) (n := 0) 0 rfl rfl (fm_dec dtX11_best 16 rfl) ?_
    refine fm_iloadn (pc := 29) (n := 2) 2 rfl rfl (fm_dec dtX11_best 17 rfl) ?_
    refine fm_iconst (pc := 30) (v := 1) (by decide) (fm_dec dtX11_best 18 rfl) ?_
    refine fm_invV2 (k := 0) (d' := 1) (pc := 31) cv_X11_340 (by decide) rfl (Nat.le_of_ble_eq_true rfl) (by decide) (fm_dec dtX11_best 19 rfl) ?_
    refine d_noPart hst _ _ (by first | exact h0 | simp [fmI, upd]) (by decide) (fun hi31 => ?_) (fun Mb hb hn31 => ?_)
    · refine fm_then1 ?_
      refine fm_if_eq (pc := 34) 39 (by decide) (fm_dec dtX11_best 20 rfl) (fun _ => ?_) (fun hc34 => by exfalso; revert hc34; decide)
      rcases inR_13 hi9 with rfl | rfl | rfl
      · refine fm_aloadn (pc := 39) (n := 0) 0 rfl rfl (fm_dec dtX11_best 23 rfl) ?_
        refine fm_getR (k := 0) (j := 38) (ci := 11) (pc := 40) 9 rfl fl_X11_73 (by decide) rfl (by decide) (by decide) (fm_dec dtX11_best 24 rfl) ?_
        refine fm_aloadn (pc := 43) (n := 0) 0 rfl rfl (fm_dec dtX11_best 25 rfl) ?_
        refine fm_iloadn (pc := 44) (n := 1) 1 rfl rfl (fm_dec dtX11_best 26 rfl) ?_
        refine fm_invV1 (k := 0) (d' := 7) (pc := 45) cv_X11_380 (by decide) rfl (Nat.le_of_ble_eq_true rfl) (by decide) (fm_dec dtX11_best 27 rfl) ?_
        refine d_laysBest0 hst _ (by simp [fmI, hl]) (by simp [fmI, h2]) (by simp [fmI, h9]) (fun M45 e45 z45 => ?_)
        refine fm_then1 ?_
        refine fm_lald (k := 9) (n := 2197) (pc := 48) (by decide) rfl rfl (fm_inl (by decide)) (fm_dec dtX11_best 28 rfl) ?_
        refine fm_topJ (v := 0) (z45 1464 (by decide)).1 ?_
        refine fm_ldc2 (pc := 49) kc_X11_343 (fm_dec dtX11_best 29 rfl) ?_
        refine fm_iloadn (pc := 52) (n := 1) 1 rfl rfl (fm_dec dtX11_best 30 rfl) ?_
        refine fm_iconst (pc := 53) (v := 1) (by decide) (fm_dec dtX11_best 31 rfl) ?_
        refine fm_iadd (pc := 54) (fm_dec dtX11_best 32 rfl) ?_
        refine fm_topE (v := 2) (by decide) ?_
        refine fm_invS2 (d' := 0) (pc := 55) cs_X11_365 (Nat.le_of_ble_eq_true rfl) (by decide) (fm_dec dtX11_best 33 rfl) ?_
        refine d_pow2 hst ?_
        refine fm_then1 ?_
        refine fm_iloadn (pc := 58) (n := 2) 2 rfl rfl (fm_dec dtX11_best 34 rfl) ?_
        refine fm_invS3 (d' := 0) (pc := 59) cs_X11_345 (Nat.le_of_ble_eq_true rfl) (by decide) (fm_dec dtX11_best 35 rfl) ?_
        refine d_partOf0 hst _ _ (by decide) (by decide) ?_
        refine fm_then1 ?_
        exact fm_lreturn (pc := 62) rfl (fm_dec dtX11_best 36 rfl) (hq _ (by rw [e45]; simp [fmI, upd]) ⟨hi9, hi31⟩)
      · refine fm_aloadn (pc := 39) (n := 0) 0 rfl rfl (fm_dec dtX11_best 23 rfl) ?_
        refine fm_getR (k := 0) (j := 38) (ci := 11) (pc := 40) 9 rfl fl_X11_73 (by decide) rfl (by decide) (by decide) (fm_dec dtX11_best 24 rfl) ?_
        refine fm_aloadn (pc := 43) (n := 0) 0 rfl rfl (fm_dec dtX11_best 25 rfl) ?_
        refine fm_iloadn (pc := 44) (n := 1) 1 rfl rfl (fm_dec dtX11_best 26 rfl) ?_
        refine fm_invV1 (k := 0) (d' := 7) (pc := 45) cv_X11_380 (by decide) rfl (Nat.le_of_ble_eq_true rfl) (by decide) (fm_dec dtX11_best 27 rfl) ?_
        refine d_laysBest0 hst _ (by simp [fmI, hl]) (by simp [fmI, h2]) (by simp [fmI, h9]) (fun M45 e45 z45 => ?_)
        refine fm_then1 ?_
        refine fm_lald (k := 9) (n := 2197) (pc := 48) (by decide) rfl rfl (fm_inl (by decide)) (fm_dec dtX11_best 28 rfl) ?_
        refine fm_topJ (v := 0) (z45 1464 (by decide)).1 ?_
        refine fm_ldc2 (pc := 49) kc_X11_343 (fm_dec dtX11_best 29 rfl) ?_
        refine fm_iloadn (pc := 52) (n := 1) 1 rfl rfl (fm_dec dtX11_best 30 rfl) ?_
        refine fm_iconst (pc := 53) (v := 1) (by decide) (fm_dec dtX11_best 31 rfl) ?_
        refine fm_iadd (pc := 54) (fm_dec dtX11_best 32 rfl) ?_
        refine fm_topE (v := 3) (by decide) ?_
        refine fm_invS2 (d' := 0) (pc := 55) cs_X11_365 (Nat.le_of_ble_eq_true rfl) (by decide) (fm_dec dtX11_best 33 rfl) ?_
        refine d_pow3 hst ?_
        refine fm_then1 ?_
        refine fm_iloadn (pc := 58) (n := 2) 2 rfl rfl (fm_dec dtX11_best 34 rfl) ?_
        refine fm_invS3 (d' := 0) (pc := 59) cs_X11_345 (Nat.le_of_ble_eq_true rfl) (by decide) (fm_dec dtX11_best 35 rfl) ?_
        refine d_partOf0 hst _ _ (by decide) (by decide) ?_
        refine fm_then1 ?_
        exact fm_lreturn (pc := 62) rfl (fm_dec dtX11_best 36 rfl) (hq _ (by rw [e45]; simp [fmI, upd]) ⟨hi9, hi31⟩)
      · refine fm_aloadn (pc := 39) (n := 0) 0 rfl rfl (fm_dec dtX11_best 23 rfl) ?_
        refine fm_getR (k := 0) (j := 38) (ci := 11) (pc := 40) 9 rfl fl_X11_73 (by decide) rfl (by decide) (by decide) (fm_dec dtX11_best 24 rfl) ?_
        refine fm_aloadn (pc := 43) (n := 0) 0 rfl rfl (fm_dec dtX11_best 25 rfl) ?_
        refine fm_iloadn (pc := 44) (n := 1) 1 rfl rfl (fm_dec dtX11_best 26 rfl) ?_
        refine fm_invV1 (k := 0) (d' := 7) (pc := 45) cv_X11_380 (by decide) rfl (Nat.le_of_ble_eq_true rfl) (by decide) (fm_dec dtX11_best 27 rfl) ?_
        refine d_laysBest0 hst _ (by simp [fmI, hl]) (by simp [fmI, h2]) (by simp [fmI, h9]) (fun M45 e45 z45 => ?_)
        refine fm_then1 ?_
        refine fm_lald (k := 9) (n := 2197) (pc := 48) (by decide) rfl rfl (fm_inl (by decide)) (fm_dec dtX11_best 28 rfl) ?_
        refine fm_topJ (v := 0) (z45 1464 (by decide)).1 ?_
        refine fm_ldc2 (pc := 49) kc_X11_343 (fm_dec dtX11_best 29 rfl) ?_
        refine fm_iloadn (pc := 52) (n := 1) 1 rfl rfl (fm_dec dtX11_best 30 rfl) ?_
        refine fm_iconst (pc := 53) (v := 1) (by decide) (fm_dec dtX11_best 31 rfl) ?_
        refine fm_iadd (pc := 54) (fm_dec dtX11_best 32 rfl) ?_
        refine fm_topE (v := 4) (by decide) ?_
        refine fm_invS2 (d' := 0) (pc := 55) cs_X11_365 (Nat.le_of_ble_eq_true rfl) (by decide) (fm_dec dtX11_best 33 rfl) ?_
        refine d_pow4 hst ?_
        refine fm_then1 ?_
        refine fm_iloadn (pc := 58) (n := 2) 2 rfl rfl (fm_dec dtX11_best 34 rfl) ?_
        refine fm_invS3 (d' := 0) (pc := 59) cs_X11_345 (Nat.le_of_ble_eq_true rfl) (by decide) (fm_dec dtX11_best 35 rfl) ?_
        refine d_partOf0 hst _ _ (by decide) (by decide) ?_
        refine fm_then1 ?_
        exact fm_lreturn (pc := 62) rfl (fm_dec dtX11_best 36 rfl) (hq _ (by rw [e45]; simp [fmI, upd]) ⟨hi9, hi31⟩)
    · refine fm_then1 ?_
      refine fm_if_eq (pc := 34) 39 (by decide) (fm_dec dtX11_best 20 rfl) (fun hc34 => by exfalso; revert hc34; decide) (fun _ => ?_)
      refine fm_lconst (pc := 37) (v := 0) (by decide) (fm_dec dtX11_best 21 rfl) ?_
      exact fm_lreturn (pc := 38) rfl (fm_dec dtX11_best 22 rfl) (hx _ _ hb (fun h => by first | exact hn9 h.1 | exact hn31 h.2))
  · refine fm_then1 ?_
    refine fm_if_ne (pc := 12) 19 (by decide) (fm_dec dtX11_best 8 rfl) (fun hc12 => by exfalso; revert hc12; decide) (fun _ => ?_)
    refine fm_iconst (pc := 15) (v := 1) (by decide) (fm_dec dtX11_best 9 rfl) ?_
    refine fm_goto (pc := 16) 20 (by decide) (fm_dec dtX11_best 10 rfl) ?_
    refine fm_iconst (pc := 20) (v := 1) (by decide) (fm_dec dtX11_best 12 rfl) ?_
    refine fm_iconst (pc := 21) (v := 1) (by decide) (fm_dec dtX11_best 13 rfl) ?_
    refine fm_invV3 (k := 0) (d' := 0) (pc := 22) cv_X11_177 (by decide) rfl (Nat.le_of_ble_eq_true rfl) (by decide) (fm_dec dtX11_best 14 rfl) ?_
    refine d_bad1_1 hst _ (by first | exact h0 | simp [fmI, upd]) (by decide) (fun Mb hb => ?_)
    refine fm_then1 ?_
    refine fm_if_ne (pc := 25) 37 (by decide) (fm_dec dtX11_best 15 rfl) (fun _ => ?_) (fun hc25 => by exfalso; revert hc25; decide)
    refine fm_lconst (pc := 37) (v := 0) (by decide) (fm_dec dtX11_best 21 rfl) ?_
    exact fm_lreturn (pc := 38) rfl (fm_dec dtX11_best 22 rfl) (hx _ _ hb (fun h => by first | exact hn9 h.1 | exact hn31 h.2))

set_option maxRecDepth 20000 in
theorem m_bestIn {l : Launch} {G : fmG} {M : fmM} {Q : fmR → fmM → Prop} (hst : l.stackTraces = false) (n k : Int32) (hl : M.1 4 0 = 0) (h2 : M.1 4 2 = 8) (h9 : M.1 7 9 = 8) (hq : ∀ M', M'.1 0 0 = 0 → (inR n 1 3 ∧ inR k 0 (n - 1)) → Q (.inl (some (.int 0))) M') (hx : ∀ (r9 : Int32) M', M'.1 0 0 = 1 → ¬ (inR n 1 3 ∧ inR k 0 (n - 1)) → Q (.inl (some (.int r9))) M') : fmGood Tm l G 8 qX11_bestIn [.ref (G.1 0), .int n, .int k] M Q := by
  refine fmGood_of hst (by decide +kernel) (Nat.le_of_ble_eq_true rfl) ?_
  show fmEv Tm l G 8 qX11_bestIn 0 [some (.ref (G.1 0)), some (.int n), some (.int k)] [] M Q
  refine fm_aloadn (pc := 0) (n := 0) 0 rfl rfl (fm_dec dtX11_bestIn 0 rfl) ?_
  refine fm_iconst (pc := 1) (v := 0) (by decide) (fm_dec dtX11_bestIn 1 rfl) ?_
  refine fm_putI (k := 0) (j := 0) (ci := 11) (pc := 2) fl_X11_101 (by decide) rfl (by decide) rfl rfl (fm_dec dtX11_bestIn 2 rfl) ?_
  refine fm_aloadn (pc := 5) (n := 0) 0 rfl rfl (fm_dec dtX11_bestIn 3 rfl) ?_
  refine fm_iloadn (pc := 6) (n := 1) 1 rfl rfl (fm_dec dtX11_bestIn 4 rfl) ?_
  refine fm_iconst (pc := 7) (v := 1) (by decide) (fm_dec dtX11_bestIn 5 rfl) ?_
  refine fm_iconst (pc := 8) (v := 3) (by decide) (fm_dec dtX11_bestIn 6 rfl) ?_
  refine fm_invS3 (d' := 0) (pc := 9) cs_X11_135 (Nat.le_of_ble_eq_true rfl) (by decide) (fm_dec dtX11_bestIn 7 rfl) ?_
  refine d_in hst _ _ _ (fun hi9 => ?_) (fun hn9 => ?_)
  · refine fm_then1 ?_
    refine fm_if_eq (pc := 12) 26 (by decide) (fm_dec dtX11_bestIn 8 rfl) (fun hc12 => by exfalso; revert hc12; decide) (fun _ => ?_)
    refine fm_iloadn (pc := 15) (n := 2) 2 rfl rfl (fm_dec dtX11_bestIn 9 rfl) ?_
    refine fm_iconst (pc := 16) (v := 0) (by decide) (fm_dec dtX11_bestIn 10 rfl) ?_
    refine fm_iloadn (pc := 17) (n := 1) 1 rfl rfl (fm_dec dtX11_bestIn 11 rfl) ?_
    refine fm_iconst (pc := 18) (v := 1) (by decide) (fm_dec dtX11_bestIn 12 rfl) ?_
    refine fm_isub (pc := 19) (fm_dec dtX11_bestIn 13 rfl) ?_
    refine fm_invS3 (d' := 0) (pc := 20) cs_X11_135 (Nat.le_of_ble_eq_true rfl) (by decide) (fm_dec dtX11_bestIn 14 rfl) ?_
    refine d_in hst _ _ _ (fun hi20 => ?_) (fun hn20 => ?_)
    · refine fm_then1 ?_
      refine fm_if_ne (pc := 23) 30 (by decide) (fm_dec dtX11_bestIn 15 rfl) (fun _ => ?_) (fun hc23 => by exfalso; revert hc23; decide)
      refine fm_iconst (pc := 30) (v := 0) (by decide) (fm_dec dtX11_bestIn 18 rfl) ?_
      refine fm_iconst (pc := 31) (v := 1) (by decide) (fm_dec dtX11_bestIn 19 rfl) ?_
      refine fm_iconst (pc := 32) (v := 1) (by decide) (fm_dec dtX11_bestIn 20 rfl) ?_
      refine fm_invV3 (k := 0) (d' := 0) (pc := 33) cv_X11_177 (by decide) rfl (Nat.le_of_ble_eq_true rfl) (by decide) (fm_dec dtX11_bestIn 21 rfl) ?_
      refine d_bad0 hst _ _ (by first | exact h0 | simp [fmI, upd]) ?_
      refine fm_then1 ?_
      refine fm_if_eq (pc := 36) 41 (by decide) (fm_dec dtX11_bestIn 22 rfl) (fun _ => ?_) (fun hc36 => by exfalso; revert hc36; decide)
      refine fm_aloadn (pc := 41) (n := 0) 0 rfl rfl (fm_dec dtX11_bestIn 25 rfl) ?_
      refine fm_getR (k := 0) (j := 39) (ci := 11) (pc := 42) 10 rfl fl_X11_77 (by decide) rfl (by decide) (by decide) (fm_dec dtX11_bestIn 26 rfl) ?_
      refine fm_aloadn (pc := 45) (n := 0) 0 rfl rfl (fm_dec dtX11_bestIn 27 rfl) ?_
      refine fm_iloadn (pc := 46) (n := 1) 1 rfl rfl (fm_dec dtX11_bestIn 28 rfl) ?_
      refine fm_invV1 (k := 0) (d' := 7) (pc := 47) cv_X11_380 (by decide) rfl (Nat.le_of_ble_eq_true rfl) (by decide) (fm_dec dtX11_bestIn 29 rfl) ?_
      refine d_laysBest0 hst _ (by simp [fmI, hl]) (by simp [fmI, h2]) (by simp [fmI, h9]) (fun M47 e47 z47 => ?_)
      refine fm_then1 ?_
      refine fm_lald (k := 10) (n := 2197) (pc := 50) (by decide) rfl rfl (fm_inl (by decide)) (fm_dec dtX11_bestIn 30 rfl) ?_
      refine fm_topJ (v := 0) (z47 1464 (by decide)).2 ?_
      refine fm_bipush (pc := 51) (v := 8) (by decide) (fm_dec dtX11_bestIn 31 rfl) ?_
      refine fm_iconst (pc := 53) (v := 2) (by decide) (fm_dec dtX11_bestIn 32 rfl) ?_
      refine fm_iloadn (pc := 54) (n := 2) 2 rfl rfl (fm_dec dtX11_bestIn 33 rfl) ?_
      refine fm_isub (pc := 55) (fm_dec dtX11_bestIn 34 rfl) ?_
      refine fm_imul (pc := 56) (fm_dec dtX11_bestIn 35 rfl) ?_
      refine fm_lshr (pc := 57) (fm_dec dtX11_bestIn 36 rfl) ?_
      refine fm_ldc2 (pc := 58) kc_X11_383 (fm_dec dtX11_bestIn 37 rfl) ?_
      refine fm_land (pc := 61) (fm_dec dtX11_bestIn 38 rfl) ?_
      refine fm_l2i (pc := 62) (fm_dec dtX11_bestIn 39 rfl) ?_
      refine fm_topE (v := 0) (by rw [shr0L]; decide) ?_
      exact fm_ireturn (pc := 63) rfl (fm_dec dtX11_bestIn 40 rfl) (hq _ (by rw [e47]; simp [fmI, upd]) ⟨hi9, hi20⟩)
    · refine fm_then1 ?_
      refine fm_if_ne (pc := 23) 30 (by decide) (fm_dec dtX11_bestIn 15 rfl) (fun hc23 => by exfalso; revert hc23; decide) (fun _ => ?_)
      refine fm_iconst (pc := 26) (v := 1) (by decide) (fm_dec dtX11_bestIn 16 rfl) ?_
      refine fm_goto (pc := 27) 31 (by decide) (fm_dec dtX11_bestIn 17 rfl) ?_
      refine fm_iconst (pc := 31) (v := 1) (by decide) (fm_dec dtX11_bestIn 19 rfl) ?_
      refine fm_iconst (pc := 32) (v := 1) (by decide) (fm_dec dtX11_bestIn 20 rfl) ?_
      refine fm_invV3 (k := 0) (d' := 0) (pc := 33) cv_X11_177 (by decide) rfl (Nat.le_of_ble_eq_true rfl) (by decide) (fm_dec dtX11_bestIn 21 rfl) ?_
      refine d_bad1_1 hst _ (by first | exact h0 | simp [fmI, upd]) (by decide) (fun Mb hb => ?_)
      refine fm_then1 ?_
      refine fm_if_eq (pc := 36) 41 (by decide) (fm_dec dtX11_bestIn 22 rfl) (fun hc36 => by exfalso; revert hc36; decide) (fun _ => ?_)
      refine fm_iconst (pc := 39) (v := 0) (by decide) (fm_dec dtX11_bestIn 23 rfl) ?_
      exact fm_ireturn (pc := 40) rfl (fm_dec dtX11_bestIn 24 rfl) (hx _ _ hb (fun h => by first | exact hn9 h.1 | exact hn20 h.2))
  · refine fm_then1 ?_
    refine fm_if_eq (pc := 12) 26 (by decide) (fm_dec dtX11_bestIn 8 rfl) (fun _ => ?_) (fun hc12 => by exfalso; revert hc12; decide)
    refine fm_iconst (pc := 26) (v := 1) (by decide) (fm_dec dtX11_bestIn 16 rfl) ?_
    refine fm_goto (pc := 27) 31 (by decide) (fm_dec dtX11_bestIn 17 rfl) ?_
    refine fm_iconst (pc := 31) (v := 1) (by decide) (fm_dec dtX11_bestIn 19 rfl) ?_
    refine fm_iconst (pc := 32) (v := 1) (by decide) (fm_dec dtX11_bestIn 20 rfl) ?_
    refine fm_invV3 (k := 0) (d' := 0) (pc := 33) cv_X11_177 (by decide) rfl (Nat.le_of_ble_eq_true rfl) (by decide) (fm_dec dtX11_bestIn 21 rfl) ?_
    refine d_bad1_1 hst _ (by first | exact h0 | simp [fmI, upd]) (by decide) (fun Mb hb => ?_)
    refine fm_then1 ?_
    refine fm_if_eq (pc := 36) 41 (by decide) (fm_dec dtX11_bestIn 22 rfl) (fun hc36 => by exfalso; revert hc36; decide) (fun _ => ?_)
    refine fm_iconst (pc := 39) (v := 0) (by decide) (fm_dec dtX11_bestIn 23 rfl) ?_
    exact fm_ireturn (pc := 40) rfl (fm_dec dtX11_bestIn 24 rfl) (hx _ _ hb (fun h => by first | exact hn9 h.1 | exact hn20 h.2))

set_option maxRecDepth 20000 in
theorem fe_loop {l : Launch} {G : fmG} {Q : fmR → fmM → Prop} (hst : l.stackTraces = false) (a b c d e : Int32) : ∀ (n : Nat) (M : fmM) (i : Nat), i + n = 20 → M.1 0 1 = nI i → (∀ M', Q (.inl (some (.int 20))) M') → fmEv Tm l G 0 qX11_feed 23 [some (.ref (G.1 0)), some (.int a), some (.int b), some (.int c), some (.int d), some (.int e), some (.int (nI i)), none] [] M Q := by
  intro n
  induction n with
  | zero =>
    intro M i hi h1 hq
    have e9 : i = 20 := by omega
    subst e9
    refine fm_iload (pc := 23) (i := 6) rfl (fm_dec dtX11_feed 13 rfl) ?_
    refine fm_bipush (pc := 25) (v := 20) (by decide) (fm_dec dtX11_feed 14 rfl) ?_
    refine fm_icmp_ge (pc := 27) 120 (by decide) (fm_dec dtX11_feed 15 rfl) (fun _ => ?_) (fun hc27 => by exfalso; revert hc27; decide)
    refine fm_aloadn (pc := 120) (n := 0) 0 rfl rfl (fm_dec dtX11_feed 62 rfl) ?_
    refine fm_getI (k := 0) (j := 1) (ci := 11) (pc := 121) fl_X11_104 (by decide) rfl (by decide) rfl (fm_dec dtX11_feed 63 rfl) ?_
    exact fm_ireturn (pc := 124) rfl (fm_dec dtX11_feed 64 rfl) (by rw [h1]; exact hq M)
  | succ n ih =>
    intro M i hi h1 hq
    refine fm_iload (pc := 23) (i := 6) rfl (fm_dec dtX11_feed 13 rfl) ?_
    refine fm_bipush (pc := 25) (v := 20) (by decide) (fm_dec dtX11_feed 14 rfl) ?_
    refine fm_icmp_ge (pc := 27) 120 (by decide) (fm_dec dtX11_feed 15 rfl) (fun hc27 => by exfalso; rw [show (20 : Int32) = nI 20 by decide] at hc27; exact nI_ge (show i < 20 by omega) (by decide) hc27) (fun _ => ?_)
    refine fm_iload (pc := 30) (i := 6) rfl (fm_dec dtX11_feed 16 rfl) ?_
    refine fm_iconst (pc := 32) (v := 4) (by decide) (fm_dec dtX11_feed 17 rfl) ?_
    refine fm_icmp_ge (pc := 33) 40 (by decide) (fm_dec dtX11_feed 18 rfl) (fun hc33 => ?_) (fun hc33 => ?_)
    · refine fm_iload (pc := 40) (i := 6) rfl (fm_dec dtX11_feed 21 rfl) ?_
      refine fm_bipush (pc := 42) (v := 8) (by decide) (fm_dec dtX11_feed 22 rfl) ?_
      refine fm_icmp_ge (pc := 44) 51 (by decide) (fm_dec dtX11_feed 23 rfl) (fun hc44 => ?_) (fun hc44 => ?_)
      · refine fm_iload (pc := 51) (i := 6) rfl (fm_dec dtX11_feed 26 rfl) ?_
        refine fm_bipush (pc := 53) (v := 12) (by decide) (fm_dec dtX11_feed 27 rfl) ?_
        refine fm_icmp_ge (pc := 55) 62 (by decide) (fm_dec dtX11_feed 28 rfl) (fun hc55 => ?_) (fun hc55 => ?_)
        · refine fm_iload (pc := 62) (i := 6) rfl (fm_dec dtX11_feed 31 rfl) ?_
          refine fm_bipush (pc := 64) (v := 16) (by decide) (fm_dec dtX11_feed 32 rfl) ?_
          refine fm_icmp_ge (pc := 66) 74 (by decide) (fm_dec dtX11_feed 33 rfl) (fun hc66 => ?_) (fun hc66 => ?_)
          · refine fm_iload (pc := 74) (i := 5) rfl (fm_dec dtX11_feed 36 rfl) ?_
            refine fm_istore (pc := 76) (i := 7) (by decide) rfl (fm_dec dtX11_feed 37 rfl) ?_
            dsimp only [List.set_cons_zero, List.set_cons_succ]
            refine fm_aloadn (pc := 78) (n := 0) 0 rfl rfl (fm_dec dtX11_feed 38 rfl) ?_
            refine fm_getR (k := 0) (j := 9) (ci := 11) (pc := 79) 1 rfl fl_X11_13 (by decide) rfl (by decide) (by decide) (fm_dec dtX11_feed 39 rfl) ?_
            refine fm_aloadn (pc := 82) (n := 0) 0 rfl rfl (fm_dec dtX11_feed 40 rfl) ?_
            refine fm_getI (k := 0) (j := 1) (ci := 11) (pc := 83) fl_X11_104 (by decide) rfl (by decide) rfl (fm_dec dtX11_feed 41 rfl) ?_
            refine fm_iload (pc := 86) (i := 7) rfl (fm_dec dtX11_feed 42 rfl) ?_
            refine fm_bipush (pc := 88) (v := 24) (by decide) (fm_dec dtX11_feed 43 rfl) ?_
            refine fm_bipush (pc := 90) (v := 8) (by decide) (fm_dec dtX11_feed 44 rfl) ?_
            refine fm_iload (pc := 92) (i := 6) rfl (fm_dec dtX11_feed 45 rfl) ?_
            refine fm_iconst (pc := 94) (v := 4) (by decide) (fm_dec dtX11_feed 46 rfl) ?_
            refine fm_irem (pc := 95) (by decide) (fm_dec dtX11_feed 47 rfl) ?_
            refine fm_imul (pc := 96) (fm_dec dtX11_feed 48 rfl) ?_
            refine fm_isub (pc := 97) (fm_dec dtX11_feed 49 rfl) ?_
            refine fm_ishr (pc := 98) (fm_dec dtX11_feed 50 rfl) ?_
            refine fm_sipush (pc := 99) (v := 255) (by decide) (fm_dec dtX11_feed 51 rfl) ?_
            refine fm_iand (pc := 102) (fm_dec dtX11_feed 52 rfl) ?_
            refine fm_iast (k := 1) (n := 600) (pc := 103) (by decide) rfl rfl (by rw [h1]; exact vp_in_nI (by omega) (by decide)) (fm_dec dtX11_feed 53 rfl) ?_
            refine fm_aloadn (pc := 104) (n := 0) 0 rfl rfl (fm_dec dtX11_feed 54 rfl) ?_
            refine fm_dup (pc := 105) rfl (fm_dec dtX11_feed 55 rfl) ?_
            refine fm_getI (k := 0) (j := 1) (ci := 11) (pc := 106) fl_X11_104 (by decide) rfl (by decide) rfl (fm_dec dtX11_feed 56 rfl) ?_
            refine fm_iconst (pc := 109) (v := 1) (by decide) (fm_dec dtX11_feed 57 rfl) ?_
            refine fm_iadd (pc := 110) (fm_dec dtX11_feed 58 rfl) ?_
            refine fm_putI (k := 0) (j := 1) (ci := 11) (pc := 111) fl_X11_104 (by decide) rfl (by decide) rfl rfl (fm_dec dtX11_feed 59 rfl) ?_
            refine fm_iincc (pc := 114) 6 1 (by decide) rfl (by decide) rfl (fm_dec dtX11_feed 60 rfl) ?_
            dsimp only [List.set_cons_zero, List.set_cons_succ]
            refine fm_goto (pc := 117) 23 (by decide) (fm_dec dtX11_feed 61 rfl) ?_
            rw [show nI i + 1 = nI (i + 1) from nI_1 i]
            refine fm_kill 7 ?_
            dsimp only [List.set_cons_zero, List.set_cons_succ]
            exact ih _ (i + 1) (by omega) (by simp only [fmI, upd, if_true]; simp [h1]; exact nI_1 i) hq
          · refine fm_iload (pc := 69) (i := 4) rfl (fm_dec dtX11_feed 34 rfl) ?_
            refine fm_goto (pc := 71) 76 (by decide) (fm_dec dtX11_feed 35 rfl) ?_
            refine fm_istore (pc := 76) (i := 7) (by decide) rfl (fm_dec dtX11_feed 37 rfl) ?_
            dsimp only [List.set_cons_zero, List.set_cons_succ]
            refine fm_aloadn (pc := 78) (n := 0) 0 rfl rfl (fm_dec dtX11_feed 38 rfl) ?_
            refine fm_getR (k := 0) (j := 9) (ci := 11) (pc := 79) 1 rfl fl_X11_13 (by decide) rfl (by decide) (by decide) (fm_dec dtX11_feed 39 rfl) ?_
            refine fm_aloadn (pc := 82) (n := 0) 0 rfl rfl (fm_dec dtX11_feed 40 rfl) ?_
            refine fm_getI (k := 0) (j := 1) (ci := 11) (pc := 83) fl_X11_104 (by decide) rfl (by decide) rfl (fm_dec dtX11_feed 41 rfl) ?_
            refine fm_iload (pc := 86) (i := 7) rfl (fm_dec dtX11_feed 42 rfl) ?_
            refine fm_bipush (pc := 88) (v := 24) (by decide) (fm_dec dtX11_feed 43 rfl) ?_
            refine fm_bipush (pc := 90) (v := 8) (by decide) (fm_dec dtX11_feed 44 rfl) ?_
            refine fm_iload (pc := 92) (i := 6) rfl (fm_dec dtX11_feed 45 rfl) ?_
            refine fm_iconst (pc := 94) (v := 4) (by decide) (fm_dec dtX11_feed 46 rfl) ?_
            refine fm_irem (pc := 95) (by decide) (fm_dec dtX11_feed 47 rfl) ?_
            refine fm_imul (pc := 96) (fm_dec dtX11_feed 48 rfl) ?_
            refine fm_isub (pc := 97) (fm_dec dtX11_feed 49 rfl) ?_
            refine fm_ishr (pc := 98) (fm_dec dtX11_feed 50 rfl) ?_
            refine fm_sipush (pc := 99) (v := 255) (by decide) (fm_dec dtX11_feed 51 rfl) ?_
            refine fm_iand (pc := 102) (fm_dec dtX11_feed 52 rfl) ?_
            refine fm_iast (k := 1) (n := 600) (pc := 103) (by decide) rfl rfl (by rw [h1]; exact vp_in_nI (by omega) (by decide)) (fm_dec dtX11_feed 53 rfl) ?_
            refine fm_aloadn (pc := 104) (n := 0) 0 rfl rfl (fm_dec dtX11_feed 54 rfl) ?_
            refine fm_dup (pc := 105) rfl (fm_dec dtX11_feed 55 rfl) ?_
            refine fm_getI (k := 0) (j := 1) (ci := 11) (pc := 106) fl_X11_104 (by decide) rfl (by decide) rfl (fm_dec dtX11_feed 56 rfl) ?_
            refine fm_iconst (pc := 109) (v := 1) (by decide) (fm_dec dtX11_feed 57 rfl) ?_
            refine fm_iadd (pc := 110) (fm_dec dtX11_feed 58 rfl) ?_
            refine fm_putI (k := 0) (j := 1) (ci := 11) (pc := 111) fl_X11_104 (by decide) rfl (by decide) rfl rfl (fm_dec dtX11_feed 59 rfl) ?_
            refine fm_iincc (pc := 114) 6 1 (by decide) rfl (by decide) rfl (fm_dec dtX11_feed 60 rfl) ?_
            dsimp only [List.set_cons_zero, List.set_cons_succ]
            refine fm_goto (pc := 117) 23 (by decide) (fm_dec dtX11_feed 61 rfl) ?_
            rw [show nI i + 1 = nI (i + 1) from nI_1 i]
            refine fm_kill 7 ?_
            dsimp only [List.set_cons_zero, List.set_cons_succ]
            exact ih _ (i + 1) (by omega) (by simp only [fmI, upd, if_true]; simp [h1]; exact nI_1 i) hq
        · refine fm_iloadn (pc := 58) (n := 3) 3 rfl rfl (fm_dec dtX11_feed 29 rfl) ?_
          refine fm_goto (pc := 59) 76 (by decide) (fm_dec dtX11_feed 30 rfl) ?_
          refine fm_istore (pc := 76) (i := 7) (by decide) rfl (fm_dec dtX11_feed 37 rfl) ?_
          dsimp only [List.set_cons_zero, List.set_cons_succ]
          refine fm_aloadn (pc := 78) (n := 0) 0 rfl rfl (fm_dec dtX11_feed 38 rfl) ?_
          refine fm_getR (k := 0) (j := 9) (ci := 11) (pc := 79) 1 rfl fl_X11_13 (by decide) rfl (by decide) (by decide) (fm_dec dtX11_feed 39 rfl) ?_
          refine fm_aloadn (pc := 82) (n := 0) 0 rfl rfl (fm_dec dtX11_feed 40 rfl) ?_
          refine fm_getI (k := 0) (j := 1) (ci := 11) (pc := 83) fl_X11_104 (by decide) rfl (by decide) rfl (fm_dec dtX11_feed 41 rfl) ?_
          refine fm_iload (pc := 86) (i := 7) rfl (fm_dec dtX11_feed 42 rfl) ?_
          refine fm_bipush (pc := 88) (v := 24) (by decide) (fm_dec dtX11_feed 43 rfl) ?_
          refine fm_bipush (pc := 90) (v := 8) (by decide) (fm_dec dtX11_feed 44 rfl) ?_
          refine fm_iload (pc := 92) (i := 6) rfl (fm_dec dtX11_feed 45 rfl) ?_
          refine fm_iconst (pc := 94) (v := 4) (by decide) (fm_dec dtX11_feed 46 rfl) ?_
          refine fm_irem (pc := 95) (by decide) (fm_dec dtX11_feed 47 rfl) ?_
          refine fm_imul (pc := 96) (fm_dec dtX11_feed 48 rfl) ?_
          refine fm_isub (pc := 97) (fm_dec dtX11_feed 49 rfl) ?_
          refine fm_ishr (pc := 98) (fm_dec dtX11_feed 50 rfl) ?_
          refine fm_sipush (pc := 99) (v := 255) (by decide) (fm_dec dtX11_feed 51 rfl) ?_
          refine fm_iand (pc := 102) (fm_dec dtX11_feed 52 rfl) ?_
          refine fm_iast (k := 1) (n := 600) (pc := 103) (by decide) rfl rfl (by rw [h1]; exact vp_in_nI (by omega) (by decide)) (fm_dec dtX11_feed 53 rfl) ?_
          refine fm_aloadn (pc := 104) (n := 0) 0 rfl rfl (fm_dec dtX11_feed 54 rfl) ?_
          refine fm_dup (pc := 105) rfl (fm_dec dtX11_feed 55 rfl) ?_
          refine fm_getI (k := 0) (j := 1) (ci := 11) (pc := 106) fl_X11_104 (by decide) rfl (by decide) rfl (fm_dec dtX11_feed 56 rfl) ?_
          refine fm_iconst (pc := 109) (v := 1) (by decide) (fm_dec dtX11_feed 57 rfl) ?_
          refine fm_iadd (pc := 110) (fm_dec dtX11_feed 58 rfl) ?_
          refine fm_putI (k := 0) (j := 1) (ci := 11) (pc := 111) fl_X11_104 (by decide) rfl (by decide) rfl rfl (fm_dec dtX11_feed 59 rfl) ?_
          refine fm_iincc (pc := 114) 6 1 (by decide) rfl (by decide) rfl (fm_dec dtX11_feed 60 rfl) ?_
          dsimp only [List.set_cons_zero, List.set_cons_succ]
          refine fm_goto (pc := 117) 23 (by decide) (fm_dec dtX11_feed 61 rfl) ?_
          rw [show nI i + 1 = nI (i + 1) from nI_1 i]
          refine fm_kill 7 ?_
          dsimp only [List.set_cons_zero, List.set_cons_succ]
          exact ih _ (i + 1) (by omega) (by simp only [fmI, upd, if_true]; simp [h1]; exact nI_1 i) hq
      · refine fm_iloadn (pc := 47) (n := 2) 2 rfl rfl (fm_dec dtX11_feed 24 rfl) ?_
        refine fm_goto (pc := 48) 76 (by decide) (fm_dec dtX11_feed 25 rfl) ?_
        refine fm_istore (pc := 76) (i := 7) (by decide) rfl (fm_dec dtX11_feed 37 rfl) ?_
        dsimp only [List.set_cons_zero, List.set_cons_succ]
        refine fm_aloadn (pc := 78) (n := 0) 0 rfl rfl (fm_dec dtX11_feed 38 rfl) ?_
        refine fm_getR (k := 0) (j := 9) (ci := 11) (pc := 79) 1 rfl fl_X11_13 (by decide) rfl (by decide) (by decide) (fm_dec dtX11_feed 39 rfl) ?_
        refine fm_aloadn (pc := 82) (n := 0) 0 rfl rfl (fm_dec dtX11_feed 40 rfl) ?_
        refine fm_getI (k := 0) (j := 1) (ci := 11) (pc := 83) fl_X11_104 (by decide) rfl (by decide) rfl (fm_dec dtX11_feed 41 rfl) ?_
        refine fm_iload (pc := 86) (i := 7) rfl (fm_dec dtX11_feed 42 rfl) ?_
        refine fm_bipush (pc := 88) (v := 24) (by decide) (fm_dec dtX11_feed 43 rfl) ?_
        refine fm_bipush (pc := 90) (v := 8) (by decide) (fm_dec dtX11_feed 44 rfl) ?_
        refine fm_iload (pc := 92) (i := 6) rfl (fm_dec dtX11_feed 45 rfl) ?_
        refine fm_iconst (pc := 94) (v := 4) (by decide) (fm_dec dtX11_feed 46 rfl) ?_
        refine fm_irem (pc := 95) (by decide) (fm_dec dtX11_feed 47 rfl) ?_
        refine fm_imul (pc := 96) (fm_dec dtX11_feed 48 rfl) ?_
        refine fm_isub (pc := 97) (fm_dec dtX11_feed 49 rfl) ?_
        refine fm_ishr (pc := 98) (fm_dec dtX11_feed 50 rfl) ?_
        refine fm_sipush (pc := 99) (v := 255) (by decide) (fm_dec dtX11_feed 51 rfl) ?_
        refine fm_iand (pc := 102) (fm_dec dtX11_feed 52 rfl) ?_
        refine fm_iast (k := 1) (n := 600) (pc := 103) (by decide) rfl rfl (by rw [h1]; exact vp_in_nI (by omega) (by decide)) (fm_dec dtX11_feed 53 rfl) ?_
        refine fm_aloadn (pc := 104) (n := 0) 0 rfl rfl (fm_dec dtX11_feed 54 rfl) ?_
        refine fm_dup (pc := 105) rfl (fm_dec dtX11_feed 55 rfl) ?_
        refine fm_getI (k := 0) (j := 1) (ci := 11) (pc := 106) fl_X11_104 (by decide) rfl (by decide) rfl (fm_dec dtX11_feed 56 rfl) ?_
        refine fm_iconst (pc := 109) (v := 1) (by decide) (fm_dec dtX11_feed 57 rfl) ?_
        refine fm_iadd (pc := 110) (fm_dec dtX11_feed 58 rfl) ?_
        refine fm_putI (k := 0) (j := 1) (ci := 11) (pc := 111) fl_X11_104 (by decide) rfl (by decide) rfl rfl (fm_dec dtX11_feed 59 rfl) ?_
        refine fm_iincc (pc := 114) 6 1 (by decide) rfl (by decide) rfl (fm_dec dtX11_feed 60 rfl) ?_
        dsimp only [List.set_cons_zero, List.set_cons_succ]
        refine fm_goto (pc := 117) 23 (by decide) (fm_dec dtX11_feed 61 rfl) ?_
        rw [show nI i + 1 = nI (i + 1) from nI_1 i]
        refine fm_kill 7 ?_
        dsimp only [List.set_cons_zero, List.set_cons_succ]
        exact ih _ (i + 1) (by omega) (by simp only [fmI, upd, if_true]; simp [h1]; exact nI_1 i) hq
    · refine fm_iloadn (pc := 36) (n := 1) 1 rfl rfl (fm_dec dtX11_feed 19 rfl) ?_
      refine fm_goto (pc := 37) 76 (by decide) (fm_dec dtX11_feed 20 rfl) ?_
      refine fm_istore (pc := 76) (i := 7) (by decide) rfl (fm_dec dtX11_feed 37 rfl) ?_
      dsimp only [List.set_cons_zero, List.set_cons_succ]
      refine fm_aloadn (pc := 78) (n := 0) 0 rfl rfl (fm_dec dtX11_feed 38 rfl) ?_
      refine fm_getR (k := 0) (j := 9) (ci := 11) (pc := 79) 1 rfl fl_X11_13 (by decide) rfl (by decide) (by decide) (fm_dec dtX11_feed 39 rfl) ?_
      refine fm_aloadn (pc := 82) (n := 0) 0 rfl rfl (fm_dec dtX11_feed 40 rfl) ?_
      refine fm_getI (k := 0) (j := 1) (ci := 11) (pc := 83) fl_X11_104 (by decide) rfl (by decide) rfl (fm_dec dtX11_feed 41 rfl) ?_
      refine fm_iload (pc := 86) (i := 7) rfl (fm_dec dtX11_feed 42 rfl) ?_
      refine fm_bipush (pc := 88) (v := 24) (by decide) (fm_dec dtX11_feed 43 rfl) ?_
      refine fm_bipush (pc := 90) (v := 8) (by decide) (fm_dec dtX11_feed 44 rfl) ?_
      refine fm_iload (pc := 92) (i := 6) rfl (fm_dec dtX11_feed 45 rfl) ?_
      refine fm_iconst (pc := 94) (v := 4) (by decide) (fm_dec dtX11_feed 46 rfl) ?_
      refine fm_irem (pc := 95) (by decide) (fm_dec dtX11_feed 47 rfl) ?_
      refine fm_imul (pc := 96) (fm_dec dtX11_feed 48 rfl) ?_
      refine fm_isub (pc := 97) (fm_dec dtX11_feed 49 rfl) ?_
      refine fm_ishr (pc := 98) (fm_dec dtX11_feed 50 rfl) ?_
      refine fm_sipush (pc := 99) (v := 255) (by decide) (fm_dec dtX11_feed 51 rfl) ?_
      refine fm_iand (pc := 102) (fm_dec dtX11_feed 52 rfl) ?_
      refine fm_iast (k := 1) (n := 600) (pc := 103) (by decide) rfl rfl (by rw [h1]; exact vp_in_nI (by omega) (by decide)) (fm_dec dtX11_feed 53 rfl) ?_
      refine fm_aloadn (pc := 104) (n := 0) 0 rfl rfl (fm_dec dtX11_feed 54 rfl) ?_
      refine fm_dup (pc := 105) rfl (fm_dec dtX11_feed 55 rfl) ?_
      refine fm_getI (k := 0) (j := 1) (ci := 11) (pc := 106) fl_X11_104 (by decide) rfl (by decide) rfl (fm_dec dtX11_feed 56 rfl) ?_
      refine fm_iconst (pc := 109) (v := 1) (by decide) (fm_dec dtX11_feed 57 rfl) ?_
      refine fm_iadd (pc := 110) (fm_dec dtX11_feed 58 rfl) ?_
      refine fm_putI (k := 0) (j := 1) (ci := 11) (pc := 111) fl_X11_104 (by decide) rfl (by decide) rfl rfl (fm_dec dtX11_feed 59 rfl) ?_
      refine fm_iincc (pc := 114) 6 1 (by decide) rfl (by decide) rfl (fm_dec dtX11_feed 60 rfl) ?_
      dsimp only [List.set_cons_zero, List.set_cons_succ]
      refine fm_goto (pc := 117) 23 (by decide) (fm_dec dtX11_feed 61 rfl) ?_
      rw [show nI i + 1 = nI (i + 1) from nI_1 i]
      refine fm_kill 7 ?_
      dsimp only [List.set_cons_zero, List.set_cons_succ]
      exact ih _ (i + 1) (by omega) (by simp only [fmI, upd, if_true]; simp [h1]; exact nI_1 i) hq

set_option maxRecDepth 20000 in
theorem m_feed {l : Launch} {G : fmG} {M : fmM} {Q : fmR → fmM → Prop} (hst : l.stackTraces = false) (a b c d e : Int32) (h1 : M.1 0 1 = 0) (hq : ∀ M', Q (.inl (some (.int 20))) M') : fmGood Tm l G 0 qX11_feed [.ref (G.1 0), .int a, .int b, .int c, .int d, .int e] M Q := by
  refine fmGood_of hst (by decide +kernel) (Nat.le_of_ble_eq_true rfl) ?_
  show fmEv Tm l G 0 qX11_feed 0 [some (.ref (G.1 0)), some (.int a), some (.int b), some (.int c), some (.int d), some (.int e), none, none] [] M Q
  refine fm_aloadn (pc := 0) (n := 0) 0 rfl rfl (fm_dec dtX11_feed 0 rfl) ?_
  refine fm_iconst (pc := 1) (v := 0) (by decide) (fm_dec dtX11_feed 1 rfl) ?_
  refine fm_putI (k := 0) (j := 0) (ci := 11) (pc := 2) fl_X11_101 (by decide) rfl (by decide) rfl rfl (fm_dec dtX11_feed 2 rfl) ?_
  refine fm_aloadn (pc := 5) (n := 0) 0 rfl rfl (fm_dec dtX11_feed 3 rfl) ?_
  refine fm_getI (k := 0) (j := 1) (ci := 11) (pc := 6) fl_X11_104 (by decide) rfl (by decide) rfl (fm_dec dtX11_feed 4 rfl) ?_
  refine fm_bipush (pc := 9) (v := 20) (by decide) (fm_dec dtX11_feed 5 rfl) ?_
  refine fm_iadd (pc := 11) (fm_dec dtX11_feed 6 rfl) ?_
  refine fm_sipush (pc := 12) (v := 600) (by decide) (fm_dec dtX11_feed 7 rfl) ?_
  refine fm_icmp_le (pc := 15) 20 (by decide) (fm_dec dtX11_feed 8 rfl) (fun _ => ?_) (fun hc15 => by exfalso; exact hc15 (by simp [fmI, upd, h1]))
  refine fm_iconst (pc := 20) (v := 0) (by decide) (fm_dec dtX11_feed 11 rfl) ?_
  refine fm_istore (pc := 21) (i := 6) (by decide) rfl (fm_dec dtX11_feed 12 rfl) ?_
  dsimp only [List.set_cons_zero, List.set_cons_succ]
  exact fe_loop hst a b c d e 20 _ 0 (by omega) (by simp [fmI, upd, h1]; decide) hq

set_option maxRecDepth 20000 in
theorem d_puts0 {l : Launch} {G : fmG} {M : fmM} {Q : fmR → fmM → Prop} (hst : l.stackTraces = false) (v : Int32) (s : Nat) (h35 : M.1 0 35 = nI s) (hs : s < 239) (hq : ∀ (r : Int32) M', M'.1 0 35 = nI (s + 1) → (∀ j, j ≠ 35 → M'.1 0 j = M.1 0 j) → Q (.inl (some (.int r))) M') : fmGood Tm l G 0 qX11_puts [.ref (G.1 0), .ref (G.1 519), .int v, .int 0] M Q := by
  refine fmGood_of hst (by decide +kernel) (Nat.le_of_ble_eq_true rfl) ?_
  show fmEv Tm l G 0 qX11_puts 0 [some (.ref (G.1 0)), some (.ref (G.1 519)), some (.int v), some (.int 0)] [] M Q
  refine fm_iloadn (pc := 0) (n := 3) 3 rfl rfl (fm_dec dtX11_puts 0 rfl) ?_
  refine fm_if_ne (pc := 1) 11 (by decide) (fm_dec dtX11_puts 1 rfl) (fun hc1 => by exfalso; revert hc1; decide) (fun _ => ?_)
  refine fm_aloadn (pc := 4) (n := 1) 1 rfl rfl (fm_dec dtX11_puts 2 rfl) ?_
  refine fm_aloadn (pc := 5) (n := 0) 0 rfl rfl (fm_dec dtX11_puts 3 rfl) ?_
  refine fm_getI (k := 0) (j := 35) (ci := 11) (pc := 6) fl_X11_436 (by decide) rfl (by decide) rfl (fm_dec dtX11_puts 4 rfl) ?_
  refine fm_iloadn (pc := 9) (n := 2) 2 rfl rfl (fm_dec dtX11_puts 5 rfl) ?_
  refine fm_iast (k := 519) (n := 239) (pc := 10) (by decide) rfl rfl (by rw [h35]; exact vp_in_nI (by omega) (by decide)) (fm_dec dtX11_puts 6 rfl) ?_
  refine fm_aloadn (pc := 11) (n := 0) 0 rfl rfl (fm_dec dtX11_puts 7 rfl) ?_
  refine fm_dup (pc := 12) rfl (fm_dec dtX11_puts 8 rfl) ?_
  refine fm_getI (k := 0) (j := 35) (ci := 11) (pc := 13) fl_X11_436 (by decide) rfl (by decide) rfl (fm_dec dtX11_puts 9 rfl) ?_
  refine fm_iconst (pc := 16) (v := 1) (by decide) (fm_dec dtX11_puts 10 rfl) ?_
  refine fm_iadd (pc := 17) (fm_dec dtX11_puts 11 rfl) ?_
  refine fm_putI (k := 0) (j := 35) (ci := 11) (pc := 18) fl_X11_436 (by decide) rfl (by decide) rfl rfl (fm_dec dtX11_puts 12 rfl) ?_
  refine fm_aloadn (pc := 21) (n := 1) 1 rfl rfl (fm_dec dtX11_puts 13 rfl) ?_
  refine fm_aloadn (pc := 22) (n := 0) 0 rfl rfl (fm_dec dtX11_puts 14 rfl) ?_
  refine fm_getI (k := 0) (j := 35) (ci := 11) (pc := 23) fl_X11_436 (by decide) rfl (by decide) rfl (fm_dec dtX11_puts 15 rfl) ?_
  refine fm_iconst (pc := 26) (v := 1) (by decide) (fm_dec dtX11_puts 16 rfl) ?_
  refine fm_isub (pc := 27) (fm_dec dtX11_puts 17 rfl) ?_
  refine fm_iald (k := 519) (n := 239) (pc := 28) (by decide) rfl rfl (by simp only [fmI, upd, if_true]; simp [h35]; exact vp_in_nI (by omega) (by decide)) (fm_dec dtX11_puts 18 rfl) ?_
  exact fm_ireturn (pc := 29) rfl (fm_dec dtX11_puts 19 rfl) (hq _ _ (by simp [fmI, upd, h35]; exact nI_1 s) (by intro j h; simp [fmI, upd, h]))

theorem row_kd : ∀ w, w < 16 → Tm.2.1 (503 + w) = 0 := by decide +kernel
theorem row_ln : ∀ w, w < 16 → Tm.2.2.1 (503 + w) = 14 := by decide +kernel
theorem row_rf : ∀ w, w < 16 → Tm.2.2.2 25 w = 503 + w := by decide +kernel
theorem nI_cl {w : Nat} (h : w < 2 ^ 31) : (nI w).toNatClampNeg = w := nI_clamp h

set_option maxRecDepth 20000 in
theorem pa_inner {l : Launch} {G : fmG} {Q : fmR → fmM → Prop} (hst : l.stackTraces = false) (w : Nat) (hw : w < 16) : ∀ (n : Nat) (M : fmM) (i : Nat), i + n = 14 → M.1 0 35 = nI (1 + 14 + 14 * w + i) → (∀ M', M'.1 0 35 = nI (1 + 14 + 14 * (w + 1)) → M'.1 0 34 = M.1 0 34 → M'.1 0 0 = M.1 0 0 → fmEv Tm l G 1 qX11_putsAll 99 [some (.ref (G.1 0)), some (.ref (G.1 519)), some (.int 0), some (.int (nI w)), some (.int (nI 14))] [] M' Q) → fmEv Tm l G 1 qX11_putsAll 62 [some (.ref (G.1 0)), some (.ref (G.1 519)), some (.int 0), some (.int (nI w)), some (.int (nI i))] [] M Q := by
  intro n
  induction n with
  | zero =>
    intro M i hi h35 hq
    have e : i = 14 := by omega
    subst e
    refine fm_iload (pc := 62) (i := 4) rfl (fm_dec dtX11_putsAll 37 rfl) ?_
    refine fm_bipush (pc := 64) (v := 14) (by decide) (fm_dec dtX11_putsAll 38 rfl) ?_
    refine fm_icmp_ge (pc := 66) 99 (by decide) (fm_dec dtX11_putsAll 39 rfl) (fun _ => ?_) (fun hc66 => by exfalso; revert hc66; decide)
    exact hq M (by rw [h35]; congr 1) rfl rfl
  | succ n ih =>
    intro M i hi h35 hq
    refine fm_iload (pc := 62) (i := 4) rfl (fm_dec dtX11_putsAll 37 rfl) ?_
    refine fm_bipush (pc := 64) (v := 14) (by decide) (fm_dec dtX11_putsAll 38 rfl) ?_
    refine fm_icmp_ge (pc := 66) 99 (by decide) (fm_dec dtX11_putsAll 39 rfl) (fun hc66 => by exfalso; rw [show (14 : Int32) = nI 14 by decide] at hc66; exact nI_ge (show i < 14 by omega) (by decide) hc66) (fun _ => ?_)
    refine fm_aloadn (pc := 69) (n := 0) 0 rfl rfl (fm_dec dtX11_putsAll 40 rfl) ?_
    refine fm_getR (k := 0) (j := 29) (ci := 11) (pc := 70) 25 rfl fl_X11_67 (by decide) rfl (by decide) (by decide) (fm_dec dtX11_putsAll 41 rfl) ?_
    refine fm_iloadn (pc := 73) (n := 3) 3 rfl rfl (fm_dec dtX11_putsAll 42 rfl) ?_
    refine fm_aald (k := 25) (n := 16) (kd := 5) (r := (503 + w)) (pc := 74) (by decide) rfl (Or.inr (Or.inr ⟨rfl, rfl⟩)) rfl (vp_in_nI (by omega) (by decide)) (by rw [nI_clamp (show w < 2 ^ 31 by omega)]; exact row_rf w hw) (fm_dec dtX11_putsAll 43 rfl) ?_
    refine fm_iload (pc := 75) (i := 4) rfl (fm_dec dtX11_putsAll 44 rfl) ?_
    refine fm_aloadn (pc := 77) (n := 0) 0 rfl rfl (fm_dec dtX11_putsAll 45 rfl) ?_
    refine fm_aloadn (pc := 78) (n := 1) 1 rfl rfl (fm_dec dtX11_putsAll 46 rfl) ?_
    refine fm_aloadn (pc := 79) (n := 0) 0 rfl rfl (fm_dec dtX11_putsAll 47 rfl) ?_
    refine fm_getR (k := 0) (j := 29) (ci := 11) (pc := 80) 25 rfl fl_X11_67 (by decide) rfl (by decide) (by decide) (fm_dec dtX11_putsAll 48 rfl) ?_
    refine fm_iloadn (pc := 83) (n := 3) 3 rfl rfl (fm_dec dtX11_putsAll 49 rfl) ?_
    refine fm_aald (k := 25) (n := 16) (kd := 5) (r := (503 + w)) (pc := 84) (by decide) rfl (Or.inr (Or.inr ⟨rfl, rfl⟩)) rfl (vp_in_nI (by omega) (by decide)) (by rw [nI_clamp (show w < 2 ^ 31 by omega)]; exact row_rf w hw) (fm_dec dtX11_putsAll 50 rfl) ?_
    refine fm_iload (pc := 85) (i := 4) rfl (fm_dec dtX11_putsAll 51 rfl) ?_
    refine fm_iald (k := (503 + w)) (n := 14) (pc := 87) (show 503 + w < 522 by omega) (row_kd w hw) (row_ln w hw) (vp_in_nI (by omega) (by decide)) (fm_dec dtX11_putsAll 52 rfl) ?_
    refine fm_iloadn (pc := 88) (n := 2) 2 rfl rfl (fm_dec dtX11_putsAll 53 rfl) ?_
    refine fm_invV3 (k := 0) (d' := 0) (pc := 89) cv_X11_439 (by decide) rfl (Nat.le_of_ble_eq_true rfl) (by decide) (fm_dec dtX11_putsAll 54 rfl) ?_
    refine d_puts0 hst _ (1 + 14 + 14 * w + i) h35 (by omega) (fun r89 M89 p89 f89 => ?_)
    refine fm_then1 ?_
    refine fm_iast (k := (503 + w)) (n := 14) (pc := 92) (show 503 + w < 522 by omega) (row_kd w hw) (row_ln w hw) (vp_in_nI (by omega) (by decide)) (fm_dec dtX11_putsAll 55 rfl) ?_
    refine fm_iincc (pc := 93) 4 1 (by decide) rfl (by decide) rfl (fm_dec dtX11_putsAll 56 rfl) ?_
    dsimp only [List.set_cons_zero, List.set_cons_succ]
    refine fm_goto (pc := 96) 62 (by decide) (fm_dec dtX11_putsAll 57 rfl) ?_
    rw [show nI i + 1 = nI (i + 1) from nI_1 i]
    exact ih _ (i + 1) (by omega) (by simp only [fmI, if_neg (show ¬ 0 = 503 + w by omega)]; rw [p89]; rfl) (fun M1 e0 e1 e2 => hq M1 e0 (by rw [e1]; simp only [fmI, if_neg (show ¬ 0 = 503 + w by omega)]; exact f89 34 (by decide)) (by rw [e2]; simp only [fmI, if_neg (show ¬ 0 = 503 + w by omega)]; exact f89 0 (by decide)))

set_option maxRecDepth 20000 in
theorem pa_outer {l : Launch} {G : fmG} {Q : fmR → fmM → Prop} (hst : l.stackTraces = false)  : ∀ (n : Nat) (M : fmM) (i : Nat), i + n = 16 → M.1 0 35 = nI (1 + 14 + 14 * i) → (∀ M', M'.1 0 34 = M.1 0 34 → M'.1 0 0 = M.1 0 0 → Q (.inl none) M') → fmEv Tm l G 1 qX11_putsAll 53 [some (.ref (G.1 0)), some (.ref (G.1 519)), some (.int 0), some (.int (nI i)), none] [] M Q := by
  intro n
  induction n with
  | zero =>
    intro M i hi h35 hq
    have e : i = 16 := by omega
    subst e
    refine fm_iloadn (pc := 53) (n := 3) 3 rfl rfl (fm_dec dtX11_putsAll 32 rfl) ?_
    refine fm_bipush (pc := 54) (v := 16) (by decide) (fm_dec dtX11_putsAll 33 rfl) ?_
    refine fm_icmp_ge (pc := 56) 105 (by decide) (fm_dec dtX11_putsAll 34 rfl) (fun _ => ?_) (fun hc56 => by exfalso; revert hc56; decide)
    exact fm_return (pc := 105) rfl (fm_dec dtX11_putsAll 60 rfl) (hq M rfl rfl)
  | succ n ih =>
    intro M i hi h35 hq
    refine fm_iloadn (pc := 53) (n := 3) 3 rfl rfl (fm_dec dtX11_putsAll 32 rfl) ?_
    refine fm_bipush (pc := 54) (v := 16) (by decide) (fm_dec dtX11_putsAll 33 rfl) ?_
    refine fm_icmp_ge (pc := 56) 105 (by decide) (fm_dec dtX11_putsAll 34 rfl) (fun hc56 => by exfalso; rw [show (16 : Int32) = nI 16 by decide] at hc56; exact nI_ge (show i < 16 by omega) (by decide) hc56) (fun _ => ?_)
    refine fm_iconst (pc := 59) (v := 0) (by decide) (fm_dec dtX11_putsAll 35 rfl) ?_
    refine fm_istore (pc := 60) (i := 4) (by decide) rfl (fm_dec dtX11_putsAll 36 rfl) ?_
    dsimp only [List.set_cons_zero, List.set_cons_succ]
    refine pa_inner hst i (by omega) 14 M 0 (by omega) h35 (fun M1 e0 e1 e2 => ?_)
    refine fm_iincc (pc := 99) 3 1 (by decide) rfl (by decide) rfl (fm_dec dtX11_putsAll 58 rfl) ?_
    dsimp only [List.set_cons_zero, List.set_cons_succ]
    refine fm_goto (pc := 102) 53 (by decide) (fm_dec dtX11_putsAll 59 rfl) ?_
    rw [show nI i + 1 = nI (i + 1) from nI_1 i]
    refine fm_kill 4 ?_
    dsimp only [List.set_cons_zero, List.set_cons_succ]
    exact ih _ (i + 1) (by omega) e0 (fun M2 g1 g2 => hq M2 (by rw [g1, e1]) (by rw [g2, e2]))

set_option maxRecDepth 20000 in
theorem pa_now {l : Launch} {G : fmG} {Q : fmR → fmM → Prop} (hst : l.stackTraces = false)  : ∀ (n : Nat) (M : fmM) (i : Nat), i + n = 14 → M.1 0 35 = nI (1 + i) → (∀ M', M'.1 0 34 = M.1 0 34 → M'.1 0 0 = M.1 0 0 → Q (.inl none) M') → fmEv Tm l G 1 qX11_putsAll 21 [some (.ref (G.1 0)), some (.ref (G.1 519)), some (.int 0), some (.int (nI i)), none] [] M Q := by
  intro n
  induction n with
  | zero =>
    intro M i hi h35 hq
    have e : i = 14 := by omega
    subst e
    refine fm_iloadn (pc := 21) (n := 3) 3 rfl rfl (fm_dec dtX11_putsAll 13 rfl) ?_
    refine fm_bipush (pc := 22) (v := 14) (by decide) (fm_dec dtX11_putsAll 14 rfl) ?_
    refine fm_icmp_ge (pc := 24) 51 (by decide) (fm_dec dtX11_putsAll 15 rfl) (fun _ => ?_) (fun hc24 => by exfalso; revert hc24; decide)
    refine fm_iconst (pc := 51) (v := 0) (by decide) (fm_dec dtX11_putsAll 30 rfl) ?_
    refine fm_istoren (pc := 52) (n := 3) 3 rfl (by decide) rfl (fm_dec dtX11_putsAll 31 rfl) ?_
    dsimp only [List.set_cons_zero, List.set_cons_succ]
    exact pa_outer hst 16 M 0 (by omega) h35 hq
  | succ n ih =>
    intro M i hi h35 hq
    refine fm_iloadn (pc := 21) (n := 3) 3 rfl rfl (fm_dec dtX11_putsAll 13 rfl) ?_
    refine fm_bipush (pc := 22) (v := 14) (by decide) (fm_dec dtX11_putsAll 14 rfl) ?_
    refine fm_icmp_ge (pc := 24) 51 (by decide) (fm_dec dtX11_putsAll 15 rfl) (fun hc24 => by exfalso; rw [show (14 : Int32) = nI 14 by decide] at hc24; exact nI_ge (show i < 14 by omega) (by decide) hc24) (fun _ => ?_)
    refine fm_aloadn (pc := 27) (n := 0) 0 rfl rfl (fm_dec dtX11_putsAll 16 rfl) ?_
    refine fm_getR (k := 0) (j := 27) (ci := 11) (pc := 28) 7 rfl fl_X11_61 (by decide) rfl (by decide) (by decide) (fm_dec dtX11_putsAll 17 rfl) ?_
    refine fm_iloadn (pc := 31) (n := 3) 3 rfl rfl (fm_dec dtX11_putsAll 18 rfl) ?_
    refine fm_aloadn (pc := 32) (n := 0) 0 rfl rfl (fm_dec dtX11_putsAll 19 rfl) ?_
    refine fm_aloadn (pc := 33) (n := 1) 1 rfl rfl (fm_dec dtX11_putsAll 20 rfl) ?_
    refine fm_aloadn (pc := 34) (n := 0) 0 rfl rfl (fm_dec dtX11_putsAll 21 rfl) ?_
    refine fm_getR (k := 0) (j := 27) (ci := 11) (pc := 35) 7 rfl fl_X11_61 (by decide) rfl (by decide) (by decide) (fm_dec dtX11_putsAll 22 rfl) ?_
    refine fm_iloadn (pc := 38) (n := 3) 3 rfl rfl (fm_dec dtX11_putsAll 23 rfl) ?_
    refine fm_iald (k := 7) (n := 14) (pc := 39) (by decide) rfl rfl (vp_in_nI (by omega) (by decide)) (fm_dec dtX11_putsAll 24 rfl) ?_
    refine fm_iloadn (pc := 40) (n := 2) 2 rfl rfl (fm_dec dtX11_putsAll 25 rfl) ?_
    refine fm_invV3 (k := 0) (d' := 0) (pc := 41) cv_X11_439 (by decide) rfl (Nat.le_of_ble_eq_true rfl) (by decide) (fm_dec dtX11_putsAll 26 rfl) ?_
    refine d_puts0 hst _ (1 + i) h35 (by omega) (fun r41 M41 p41 f41 => ?_)
    refine fm_then1 ?_
    refine fm_iast (k := 7) (n := 14) (pc := 44) (by decide) rfl rfl (vp_in_nI (by omega) (by decide)) (fm_dec dtX11_putsAll 27 rfl) ?_
    refine fm_iincc (pc := 45) 3 1 (by decide) rfl (by decide) rfl (fm_dec dtX11_putsAll 28 rfl) ?_
    dsimp only [List.set_cons_zero, List.set_cons_succ]
    refine fm_goto (pc := 48) 21 (by decide) (fm_dec dtX11_putsAll 29 rfl) ?_
    rw [show nI i + 1 = nI (i + 1) from nI_1 i]
    exact ih _ (i + 1) (by omega) (by simp [fmI]; rw [p41]; rfl) (fun M1 e1 e2 => hq M1 (by rw [e1]; simp [fmI]; exact f41 34 (by decide)) (by rw [e2]; simp [fmI]; exact f41 0 (by decide)))

set_option maxRecDepth 20000 in
theorem d_putsAll0 {l : Launch} {G : fmG} {M : fmM} {Q : fmR → fmM → Prop} (hst : l.stackTraces = false)  (hq : (∀ M', M'.1 0 34 = M.1 0 34 → M'.1 0 0 = M.1 0 0 → Q (.inl none) M')) : fmGood Tm l G 1 qX11_putsAll [.ref (G.1 0), .ref (G.1 519), .int 0] M Q := by
  refine fmGood_of hst (by decide +kernel) (Nat.le_of_ble_eq_true rfl) ?_
  show fmEv Tm l G 1 qX11_putsAll 0 [some (.ref (G.1 0)), some (.ref (G.1 519)), some (.int 0), none, none] [] M Q
  refine fm_aloadn (pc := 0) (n := 0) 0 rfl rfl (fm_dec dtX11_putsAll 0 rfl) ?_
  refine fm_iconst (pc := 1) (v := 0) (by decide) (fm_dec dtX11_putsAll 1 rfl) ?_
  refine fm_putI (k := 0) (j := 35) (ci := 11) (pc := 2) fl_X11_436 (by decide) rfl (by decide) rfl rfl (fm_dec dtX11_putsAll 2 rfl) ?_
  refine fm_aloadn (pc := 5) (n := 0) 0 rfl rfl (fm_dec dtX11_putsAll 3 rfl) ?_
  refine fm_aloadn (pc := 6) (n := 0) 0 rfl rfl (fm_dec dtX11_putsAll 4 rfl) ?_
  refine fm_aloadn (pc := 7) (n := 1) 1 rfl rfl (fm_dec dtX11_putsAll 5 rfl) ?_
  refine fm_aloadn (pc := 8) (n := 0) 0 rfl rfl (fm_dec dtX11_putsAll 6 rfl) ?_
  refine fm_getI (k := 0) (j := 32) (ci := 11) (pc := 9) fl_X11_200 (by decide) rfl (by decide) rfl (fm_dec dtX11_putsAll 7 rfl) ?_
  refine fm_iloadn (pc := 12) (n := 2) 2 rfl rfl (fm_dec dtX11_putsAll 8 rfl) ?_
  refine fm_invV3 (k := 0) (d' := 0) (pc := 13) cv_X11_439 (by decide) rfl (Nat.le_of_ble_eq_true rfl) (by decide) (fm_dec dtX11_putsAll 9 rfl) ?_
  refine d_puts0 hst _ 0 (by simp [fmI, upd]; decide) (by omega) (fun r13 M13 p13 f13 => ?_)
  refine fm_then1 ?_
  refine fm_putI (k := 0) (j := 32) (ci := 11) (pc := 16) fl_X11_200 (by decide) rfl (by decide) rfl rfl (fm_dec dtX11_putsAll 10 rfl) ?_
  refine fm_iconst (pc := 19) (v := 0) (by decide) (fm_dec dtX11_putsAll 11 rfl) ?_
  refine fm_istoren (pc := 20) (n := 3) 3 rfl (by decide) rfl (fm_dec dtX11_putsAll 12 rfl) ?_
  dsimp only [List.set_cons_zero, List.set_cons_succ]
  refine pa_now hst 14 _ 0 (by omega) (by simp [fmI, upd, p13]) (fun M1 e1 e2 => hq M1 (by rw [e1]; simp [fmI, upd, f13]) (by rw [e2]; simp [fmI, upd, f13]))

set_option maxRecDepth 20000 in
theorem m_image {l : Launch} {G : fmG} {M : fmM} {Q : fmR → fmM → Prop} (hst : l.stackTraces = false)  (h34 : M.1 0 34 = 0) (hq : ∀ M', Q (.inl (some (.int 1))) M') : fmGood Tm l G 2 qX11_image [.ref (G.1 0)] M Q := by
  refine fmGood_of hst (by decide +kernel) (Nat.le_of_ble_eq_true rfl) ?_
  show fmEv Tm l G 2 qX11_image 0 [some (.ref (G.1 0))] [] M Q
  refine fm_aloadn (pc := 0) (n := 0) 0 rfl rfl (fm_dec dtX11_image 0 rfl) ?_
  refine fm_iconst (pc := 1) (v := 0) (by decide) (fm_dec dtX11_image 1 rfl) ?_
  refine fm_putI (k := 0) (j := 0) (ci := 11) (pc := 2) fl_X11_101 (by decide) rfl (by decide) rfl rfl (fm_dec dtX11_image 2 rfl) ?_
  refine fm_aloadn (pc := 5) (n := 0) 0 rfl rfl (fm_dec dtX11_image 3 rfl) ?_
  refine fm_getI (k := 0) (j := 34) (ci := 11) (pc := 6) fl_X11_206 (by decide) rfl (by decide) rfl (fm_dec dtX11_image 4 rfl) ?_
  refine fm_iconst (pc := 9) (v := 3) (by decide) (fm_dec dtX11_image 5 rfl) ?_
  refine fm_icmp_ne (pc := 10) 15 (by decide) (fm_dec dtX11_image 6 rfl) (fun _ => ?_) (fun hc10 => by exfalso; simp [fmI, upd, h34] at hc10)
  refine fm_aloadn (pc := 15) (n := 0) 0 rfl rfl (fm_dec dtX11_image 9 rfl) ?_
  refine fm_aloadn (pc := 16) (n := 0) 0 rfl rfl (fm_dec dtX11_image 10 rfl) ?_
  refine fm_getR (k := 0) (j := 30) (ci := 11) (pc := 17) 26 rfl fl_X11_70 (by decide) rfl (by decide) (by decide) (fm_dec dtX11_image 11 rfl) ?_
  refine fm_aloadn (pc := 20) (n := 0) 0 rfl rfl (fm_dec dtX11_image 12 rfl) ?_
  refine fm_getI (k := 0) (j := 34) (ci := 11) (pc := 21) fl_X11_206 (by decide) rfl (by decide) rfl (fm_dec dtX11_image 13 rfl) ?_
  refine fm_aald (k := 26) (n := 3) (kd := 5) (r := 519) (pc := 24) (by decide) rfl (Or.inr (Or.inr ⟨rfl, rfl⟩)) rfl (by simp [fmI, upd, h34]; exact fm_inl (by decide)) (by simp [fmI, upd, h34]; rfl) (fm_dec dtX11_image 14 rfl) ?_
  refine fm_iconst (pc := 25) (v := 0) (by decide) (fm_dec dtX11_image 15 rfl) ?_
  refine fm_invV2 (k := 0) (d' := 1) (pc := 26) cv_X11_443 (by decide) rfl (Nat.le_of_ble_eq_true rfl) (by decide) (fm_dec dtX11_image 16 rfl) ?_
  refine d_putsAll0 hst (fun M26 e26 f26 => ?_)
  refine fm_then0 ?_
  refine fm_aloadn (pc := 29) (n := 0) 0 rfl rfl (fm_dec dtX11_image 17 rfl) ?_
  refine fm_dup (pc := 30) rfl (fm_dec dtX11_image 18 rfl) ?_
  refine fm_getI (k := 0) (j := 34) (ci := 11) (pc := 31) fl_X11_206 (by decide) rfl (by decide) rfl (fm_dec dtX11_image 19 rfl) ?_
  refine fm_iconst (pc := 34) (v := 1) (by decide) (fm_dec dtX11_image 20 rfl) ?_
  refine fm_iadd (pc := 35) (fm_dec dtX11_image 21 rfl) ?_
  refine fm_putI (k := 0) (j := 34) (ci := 11) (pc := 36) fl_X11_206 (by decide) rfl (by decide) rfl rfl (fm_dec dtX11_image 22 rfl) ?_
  refine fm_aloadn (pc := 39) (n := 0) 0 rfl rfl (fm_dec dtX11_image 23 rfl) ?_
  refine fm_getI (k := 0) (j := 34) (ci := 11) (pc := 40) fl_X11_206 (by decide) rfl (by decide) rfl (fm_dec dtX11_image 24 rfl) ?_
  exact fm_ireturn (pc := 43) rfl (fm_dec dtX11_image 25 rfl) (by have e : (fmI M26 0 34 (M26.1 0 34 + 1)).1 0 34 = 1 := (by simp [fmI, upd, e26, h34]); rw [e]; exact hq _)

set_option maxRecDepth 20000 in
theorem m_undo {l : Launch} {G : fmG} {M : fmM} {Q : fmR → fmM → Prop} (hst : l.stackTraces = false)  (h32 : M.1 0 32 = 0) (hq : ∀ M', Q (.inl (some (.int (-1)))) M') : fmGood Tm l G 1 qX11_undo [.ref (G.1 0)] M Q := by
  refine fmGood_of hst (by decide +kernel) (Nat.le_of_ble_eq_true rfl) ?_
  show fmEv Tm l G 1 qX11_undo 0 [some (.ref (G.1 0))] [] M Q
  refine fm_aloadn (pc := 0) (n := 0) 0 rfl rfl (fm_dec dtX11_undo 0 rfl) ?_
  refine fm_iconst (pc := 1) (v := 0) (by decide) (fm_dec dtX11_undo 1 rfl) ?_
  refine fm_putI (k := 0) (j := 0) (ci := 11) (pc := 2) fl_X11_101 (by decide) rfl (by decide) rfl rfl (fm_dec dtX11_undo 2 rfl) ?_
  refine fm_aloadn (pc := 5) (n := 0) 0 rfl rfl (fm_dec dtX11_undo 3 rfl) ?_
  refine fm_getI (k := 0) (j := 32) (ci := 11) (pc := 6) fl_X11_200 (by decide) rfl (by decide) rfl (fm_dec dtX11_undo 4 rfl) ?_
  refine fm_if_ne (pc := 9) 14 (by decide) (fm_dec dtX11_undo 5 rfl) (fun hc9 => by exfalso; exact hc9 (by simp [fmI, upd, h32])) (fun _ => ?_)
  refine fm_iconst (pc := 12) (v := (-1)) (by decide) (fm_dec dtX11_undo 6 rfl) ?_
  exact fm_ireturn (pc := 13) rfl (fm_dec dtX11_undo 7 rfl) (hq _)

set_option maxRecDepth 20000 in
theorem m_restore {l : Launch} {G : fmG} {M : fmM} {Q : fmR → fmM → Prop} (hst : l.stackTraces = false)  (h34 : M.1 0 34 = 0) (hq : ∀ M', Q (.inl (some (.int (-1)))) M') : fmGood Tm l G 2 qX11_restore [.ref (G.1 0)] M Q := by
  refine fmGood_of hst (by decide +kernel) (Nat.le_of_ble_eq_true rfl) ?_
  show fmEv Tm l G 2 qX11_restore 0 [some (.ref (G.1 0))] [] M Q
  refine fm_aloadn (pc := 0) (n := 0) 0 rfl rfl (fm_dec dtX11_restore 0 rfl) ?_
  refine fm_iconst (pc := 1) (v := 0) (by decide) (fm_dec dtX11_restore 1 rfl) ?_
  refine fm_putI (k := 0) (j := 0) (ci := 11) (pc := 2) fl_X11_101 (by decide) rfl (by decide) rfl rfl (fm_dec dtX11_restore 2 rfl) ?_
  refine fm_aloadn (pc := 5) (n := 0) 0 rfl rfl (fm_dec dtX11_restore 3 rfl) ?_
  refine fm_getI (k := 0) (j := 34) (ci := 11) (pc := 6) fl_X11_206 (by decide) rfl (by decide) rfl (fm_dec dtX11_restore 4 rfl) ?_
  refine fm_if_ne (pc := 9) 14 (by decide) (fm_dec dtX11_restore 5 rfl) (fun hc9 => by exfalso; exact hc9 (by simp [fmI, upd, h34])) (fun _ => ?_)
  refine fm_iconst (pc := 12) (v := (-1)) (by decide) (fm_dec dtX11_restore 6 rfl) ?_
  exact fm_ireturn (pc := 13) rfl (fm_dec dtX11_restore 7 rfl) (hq _)

set_option maxRecDepth 20000 in
theorem m_status {l : Launch} {G : fmG} {M : fmM} {Q : fmR → fmM → Prop} (hst : l.stackTraces = false) (w : Int32) (h1 : M.1 2 0 = 0) (h2 : M.1 2 1 = 0) (hq : ∀ M', Q (.inl (some (.int (if w = 0 ∨ w = 1 then 0 else -1)))) M') : fmGood Tm l G 1 qX11_status [.ref (G.1 0), .int w] M Q := by
  refine fmGood_of hst (by decide +kernel) (Nat.le_of_ble_eq_true rfl) ?_
  show fmEv Tm l G 1 qX11_status 0 [some (.ref (G.1 0)), some (.int w)] [] M Q
  refine fm_aloadn (pc := 0) (n := 0) 0 rfl rfl (fm_dec dtX11_status 0 rfl) ?_
  refine fm_iconst (pc := 1) (v := 0) (by decide) (fm_dec dtX11_status 1 rfl) ?_
  refine fm_putI (k := 0) (j := 0) (ci := 11) (pc := 2) fl_X11_101 (by decide) rfl (by decide) rfl rfl (fm_dec dtX11_status 2 rfl) ?_
  refine fm_iloadn (pc := 5) (n := 1) 1 rfl rfl (fm_dec dtX11_status 3 rfl) ?_
  refine fm_iconst (pc := 6) (v := 0) (by decide) (fm_dec dtX11_status 4 rfl) ?_
  refine fm_iconst (pc := 7) (v := 1) (by decide) (fm_dec dtX11_status 5 rfl) ?_
  refine fm_invS3 (d' := 0) (pc := 8) cs_X11_135 (Nat.le_of_ble_eq_true rfl) (by decide) (fm_dec dtX11_status 6 rfl) ?_
  refine d_in hst _ _ _ (fun hi8 => ?_) (fun hn8 => ?_)
  · refine fm_then1 ?_
    refine fm_if_eq (pc := 11) 23 (by decide) (fm_dec dtX11_status 7 rfl) (fun hc11 => by exfalso; revert hc11; decide) (fun _ => ?_)
    refine fm_aloadn (pc := 14) (n := 0) 0 rfl rfl (fm_dec dtX11_status 8 rfl) ?_
    refine fm_getR (k := 0) (j := 10) (ci := 11) (pc := 15) 2 rfl fl_X11_17 (by decide) rfl (by decide) (by decide) (fm_dec dtX11_status 9 rfl) ?_
    refine fm_iloadn (pc := 18) (n := 1) 1 rfl rfl (fm_dec dtX11_status 10 rfl) ?_
    refine fm_iald (k := 2) (n := 2) (pc := 19) (by decide) rfl rfl (vp_inR 1 hi8 (by decide)) (fm_dec dtX11_status 11 rfl) ?_
    refine fm_goto (pc := 20) 24 (by decide) (fm_dec dtX11_status 12 rfl) ?_
    exact fm_ireturn (pc := 24) rfl (fm_dec dtX11_status 14 rfl) (by first | (have hn : ¬ (w = 0 ∨ w = 1) := (fun h => hn8 (by rcases h with rfl | rfl <;> exact ⟨by decide, by decide⟩)); have hq := hq (fmI M 0 0 0); rw [if_neg hn] at hq; exact hq) | (rcases inR_01 hi8 with rfl | rfl <;> (have hq := hq (fmI M 0 0 0); simpa [fmI, h1, h2] using hq)))
  · refine fm_then1 ?_
    refine fm_if_eq (pc := 11) 23 (by decide) (fm_dec dtX11_status 7 rfl) (fun _ => ?_) (fun hc11 => by exfalso; revert hc11; decide)
    refine fm_iconst (pc := 23) (v := (-1)) (by decide) (fm_dec dtX11_status 13 rfl) ?_
    exact fm_ireturn (pc := 24) rfl (fm_dec dtX11_status 14 rfl) (by first | (have hn : ¬ (w = 0 ∨ w = 1) := (fun h => hn8 (by rcases h with rfl | rfl <;> exact ⟨by decide, by decide⟩)); have hq := hq (fmI M 0 0 0); rw [if_neg hn] at hq; exact hq) | (rcases inR_01 hi8 with rfl | rfl <;> (have hq := hq (fmI M 0 0 0); simpa [fmI, h1, h2] using hq)))

set_option maxRecDepth 20000 in
theorem m_count {l : Launch} {G : fmG} {M : fmM} {Q : fmR → fmM → Prop} (hst : l.stackTraces = false) (w : Int32) (h34 : M.1 0 34 = 0) (h1 : M.1 0 1 = 0) (h32 : M.1 0 32 = 0) (hq : ∀ M', Q (.inl (some (.int (if w = 0 ∨ w = 1 ∨ w = 2 then 0 else -1)))) M') : fmGood Tm l G 0 qX11_count [.ref (G.1 0), .int w] M Q := by
  refine fmGood_of hst (by decide +kernel) (Nat.le_of_ble_eq_true rfl) ?_
  show fmEv Tm l G 0 qX11_count 0 [some (.ref (G.1 0)), some (.int w)] [] M Q
  refine fm_aloadn (pc := 0) (n := 0) 0 rfl rfl (fm_dec dtX11_count 0 rfl) ?_
  refine fm_iconst (pc := 1) (v := 0) (by decide) (fm_dec dtX11_count 1 rfl) ?_
  refine fm_putI (k := 0) (j := 0) (ci := 11) (pc := 2) fl_X11_101 (by decide) rfl (by decide) rfl rfl (fm_dec dtX11_count 2 rfl) ?_
  refine fm_iloadn (pc := 5) (n := 1) 1 rfl rfl (fm_dec dtX11_count 3 rfl) ?_
  refine fm_if_ne (pc := 6) 16 (by decide) (fm_dec dtX11_count 4 rfl) (fun hc6 => ?_) (fun hc6 => ?_)
  · refine fm_iloadn (pc := 16) (n := 1) 1 rfl rfl (fm_dec dtX11_count 8 rfl) ?_
    refine fm_iconst (pc := 17) (v := 1) (by decide) (fm_dec dtX11_count 9 rfl) ?_
    refine fm_icmp_ne (pc := 18) 28 (by decide) (fm_dec dtX11_count 10 rfl) (fun hc18 => ?_) (fun hc18 => ?_)
    · refine fm_iloadn (pc := 28) (n := 1) 1 rfl rfl (fm_dec dtX11_count 14 rfl) ?_
      refine fm_iconst (pc := 29) (v := 2) (by decide) (fm_dec dtX11_count 15 rfl) ?_
      refine fm_icmp_ne (pc := 30) 40 (by decide) (fm_dec dtX11_count 16 rfl) (fun hc30 => ?_) (fun hc30 => ?_)
      · refine fm_iconst (pc := 40) (v := (-1)) (by decide) (fm_dec dtX11_count 20 rfl) ?_
        exact fm_ireturn (pc := 41) rfl (fm_dec dtX11_count 21 rfl) (by have hq := hq (fmI M 0 0 0); first | simpa [fmI, upd, h34, h1, h32, hc6] using hq | simpa [fmI, upd, h34, h1, h32, hc6, hc18] using hq | simpa [fmI, upd, h34, h1, h32, hc6, hc18, hc30] using hq)
      · refine fm_aloadn (pc := 33) (n := 0) 0 rfl rfl (fm_dec dtX11_count 17 rfl) ?_
        refine fm_getI (k := 0) (j := 32) (ci := 11) (pc := 34) fl_X11_200 (by decide) rfl (by decide) rfl (fm_dec dtX11_count 18 rfl) ?_
        refine fm_goto (pc := 37) 41 (by decide) (fm_dec dtX11_count 19 rfl) ?_
        exact fm_ireturn (pc := 41) rfl (fm_dec dtX11_count 21 rfl) (by have hq := hq (fmI M 0 0 0); first | simpa [fmI, upd, h34, h1, h32, hc6] using hq | simpa [fmI, upd, h34, h1, h32, hc6, hc18] using hq | simpa [fmI, upd, h34, h1, h32, hc6, hc18, hc30] using hq)
    · refine fm_aloadn (pc := 21) (n := 0) 0 rfl rfl (fm_dec dtX11_count 11 rfl) ?_
      refine fm_getI (k := 0) (j := 1) (ci := 11) (pc := 22) fl_X11_104 (by decide) rfl (by decide) rfl (fm_dec dtX11_count 12 rfl) ?_
      refine fm_goto (pc := 25) 41 (by decide) (fm_dec dtX11_count 13 rfl) ?_
      exact fm_ireturn (pc := 41) rfl (fm_dec dtX11_count 21 rfl) (by have hq := hq (fmI M 0 0 0); first | simpa [fmI, upd, h34, h1, h32, hc6] using hq | simpa [fmI, upd, h34, h1, h32, hc6, hc18] using hq | simpa [fmI, upd, h34, h1, h32, hc6, hc18, hc30] using hq)
  · refine fm_aloadn (pc := 9) (n := 0) 0 rfl rfl (fm_dec dtX11_count 5 rfl) ?_
    refine fm_getI (k := 0) (j := 34) (ci := 11) (pc := 10) fl_X11_206 (by decide) rfl (by decide) rfl (fm_dec dtX11_count 6 rfl) ?_
    refine fm_goto (pc := 13) 41 (by decide) (fm_dec dtX11_count 7 rfl) ?_
    exact fm_ireturn (pc := 41) rfl (fm_dec dtX11_count 21 rfl) (by have hq := hq (fmI M 0 0 0); first | simpa [fmI, upd, h34, h1, h32, hc6] using hq | simpa [fmI, upd, h34, h1, h32, hc6, hc18] using hq | simpa [fmI, upd, h34, h1, h32, hc6, hc18, hc30] using hq)
