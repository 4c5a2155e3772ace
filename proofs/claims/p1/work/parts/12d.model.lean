def uSt (M : fmM) : fmM := fmI (fmI (fmI (fmI (fmI (fmI (fmI M 0 1 0) 0 2 0) 0 4 0) 0 5 0) 0 6 (-1)) 0 7 0) 0 8 0
set_option maxRecDepth 20000 in
theorem d_byteAt0 {l : Launch} {G : fmG} {M : fmM} {Q : fmR → fmM → Prop} (hst : l.stackTraces = false) (k : Int32) (h2 : M.1 0 2 = 0) (hk : k = 0) (hq : Q (.inl (some (.int (-1)))) M) : fmGood Tm l G 0 qX11_byteAt [.ref (G.1 0), .int k] M Q := by
  refine fmGood_of hst (by decide +kernel) (Nat.le_of_ble_eq_true rfl) ?_
  show fmEv Tm l G 0 qX11_byteAt 0 [some (.ref (G.1 0)), some (.int k)] [] M Q
  refine fm_iloadn (pc := 0) (n := 1) 1 rfl rfl (fm_dec dtX11_byteAt 0 rfl) ?_
  refine fm_aloadn (pc := 1) (n := 0) 0 rfl rfl (fm_dec dtX11_byteAt 1 rfl) ?_
  refine fm_getI (k := 0) (j := 2) (ci := 11) (pc := 2) fl_X11_107 (by decide) rfl (by decide) rfl (fm_dec dtX11_byteAt 2 rfl) ?_
  refine fm_icmp_lt (pc := 5) 12 (by decide) (fm_dec dtX11_byteAt 3 rfl) (fun hc5 => by exfalso; rw [hk, h2] at hc5; revert hc5; decide) (fun _ => ?_)
  refine fm_iconst (pc := 8) (v := (-1)) (by decide) (fm_dec dtX11_byteAt 4 rfl) ?_
  refine fm_goto (pc := 9) 18 (by decide) (fm_dec dtX11_byteAt 5 rfl) ?_
  exact fm_ireturn (pc := 18) rfl (fm_dec dtX11_byteAt 10 rfl) hq

set_option maxRecDepth 20000 in
theorem d_blanks0 {l : Launch} {G : fmG} {M : fmM} {Q : fmR → fmM → Prop} (hst : l.stackTraces = false)  (h2 : M.1 0 2 = 0) (h4 : M.1 0 4 = 0) (hq : Q (.inl none) M) : fmGood Tm l G 1 qX11_blanks [.ref (G.1 0)] M Q := by
  refine fmGood_of hst (by decide +kernel) (Nat.le_of_ble_eq_true rfl) ?_
  show fmEv Tm l G 1 qX11_blanks 0 [some (.ref (G.1 0))] [] M Q
  refine fm_aloadn (pc := 0) (n := 0) 0 rfl rfl (fm_dec dtX11_blanks 0 rfl) ?_
  refine fm_aloadn (pc := 1) (n := 0) 0 rfl rfl (fm_dec dtX11_blanks 1 rfl) ?_
  refine fm_getI (k := 0) (j := 4) (ci := 11) (pc := 2) fl_X11_110 (by decide) rfl (by decide) rfl (fm_dec dtX11_blanks 2 rfl) ?_
  refine fm_invV1 (k := 0) (d' := 0) (pc := 5) cv_X11_113 (by decide) rfl (Nat.le_of_ble_eq_true rfl) (by decide) (fm_dec dtX11_blanks 3 rfl) ?_
  refine d_byteAt0 hst _ (by first | exact h2 | simp [fmI, upd, uSt, h2]) (by simp [fmI, upd, uSt, h4]) ?_
  refine fm_then1 ?_
  refine fm_bipush (pc := 8) (v := 32) (by decide) (fm_dec dtX11_blanks 4 rfl) ?_
  refine fm_icmp_ne (pc := 10) 26 (by decide) (fm_dec dtX11_blanks 5 rfl) (fun _ => ?_) (fun hc10 => by exfalso; revert hc10; decide)
  exact fm_return (pc := 26) rfl (fm_dec dtX11_blanks 13 rfl) hq

set_option maxRecDepth 20000 in
theorem d_starts0 {l : Launch} {G : fmG} {M : fmM} {Q : fmR → fmM → Prop} (hst : l.stackTraces = false)  (hq : Q (.inl none) (uSt M)) : fmGood Tm l G 2 qX11_starts [.ref (G.1 0), .int 0] M Q := by
  refine fmGood_of hst (by decide +kernel) (Nat.le_of_ble_eq_true rfl) ?_
  show fmEv Tm l G 2 qX11_starts 0 [some (.ref (G.1 0)), some (.int 0)] [] M Q
  refine fm_aloadn (pc := 0) (n := 0) 0 rfl rfl (fm_dec dtX11_starts 0 rfl) ?_
  refine fm_iconst (pc := 1) (v := 0) (by decide) (fm_dec dtX11_starts 1 rfl) ?_
  refine fm_putI (k := 0) (j := 1) (ci := 11) (pc := 2) fl_X11_104 (by decide) rfl (by decide) rfl rfl (fm_dec dtX11_starts 2 rfl) ?_
  refine fm_aloadn (pc := 5) (n := 0) 0 rfl rfl (fm_dec dtX11_starts 3 rfl) ?_
  refine fm_iloadn (pc := 6) (n := 1) 1 rfl rfl (fm_dec dtX11_starts 4 rfl) ?_
  refine fm_putI (k := 0) (j := 2) (ci := 11) (pc := 7) fl_X11_107 (by decide) rfl (by decide) rfl rfl (fm_dec dtX11_starts 5 rfl) ?_
  refine fm_aloadn (pc := 10) (n := 0) 0 rfl rfl (fm_dec dtX11_starts 6 rfl) ?_
  refine fm_iconst (pc := 11) (v := 0) (by decide) (fm_dec dtX11_starts 7 rfl) ?_
  refine fm_putI (k := 0) (j := 4) (ci := 11) (pc := 12) fl_X11_110 (by decide) rfl (by decide) rfl rfl (fm_dec dtX11_starts 8 rfl) ?_
  refine fm_aloadn (pc := 15) (n := 0) 0 rfl rfl (fm_dec dtX11_starts 9 rfl) ?_
  refine fm_iconst (pc := 16) (v := 0) (by decide) (fm_dec dtX11_starts 10 rfl) ?_
  refine fm_putI (k := 0) (j := 5) (ci := 11) (pc := 17) fl_X11_117 (by decide) rfl (by decide) rfl rfl (fm_dec dtX11_starts 11 rfl) ?_
  refine fm_aloadn (pc := 20) (n := 0) 0 rfl rfl (fm_dec dtX11_starts 12 rfl) ?_
  refine fm_iconst (pc := 21) (v := (-1)) (by decide) (fm_dec dtX11_starts 13 rfl) ?_
  refine fm_putI (k := 0) (j := 6) (ci := 11) (pc := 22) fl_X11_120 (by decide) rfl (by decide) rfl rfl (fm_dec dtX11_starts 14 rfl) ?_
  refine fm_aloadn (pc := 25) (n := 0) 0 rfl rfl (fm_dec dtX11_starts 15 rfl) ?_
  refine fm_iconst (pc := 26) (v := 0) (by decide) (fm_dec dtX11_starts 16 rfl) ?_
  refine fm_putI (k := 0) (j := 7) (ci := 11) (pc := 27) fl_X11_157 (by decide) rfl (by decide) rfl rfl (fm_dec dtX11_starts 17 rfl) ?_
  refine fm_aloadn (pc := 30) (n := 0) 0 rfl rfl (fm_dec dtX11_starts 18 rfl) ?_
  refine fm_iconst (pc := 31) (v := 0) (by decide) (fm_dec dtX11_starts 19 rfl) ?_
  refine fm_putI (k := 0) (j := 8) (ci := 11) (pc := 32) fl_X11_160 (by decide) rfl (by decide) rfl rfl (fm_dec dtX11_starts 20 rfl) ?_
  refine fm_aloadn (pc := 35) (n := 0) 0 rfl rfl (fm_dec dtX11_starts 21 rfl) ?_
  refine fm_invV0 (k := 0) (d' := 1) (pc := 36) cv_X11_123 (by decide) rfl (Nat.le_of_ble_eq_true rfl) (by decide) (fm_dec dtX11_starts 22 rfl) ?_
  refine d_blanks0 hst (by simp [fmI, upd]) (by simp [fmI, upd]) ?_
  refine fm_then0 ?_
  exact fm_return (pc := 39) rfl (fm_dec dtX11_starts 23 rfl) hq

set_option maxRecDepth 20000 in
theorem d_tells {l : Launch} {G : fmG} {M : fmM} {Q : fmR → fmM → Prop} (hst : l.stackTraces = false)  (hq : ∀ M', M'.1 3 0 = 0 → M'.1 3 1 = 0 → M'.1 3 2 = 8 → M'.1 3 3 = 5 → M'.1 3 4 = 3 → M'.1 3 5 = 2 → (∀ k, k ≠ 3 → M'.1 k = M.1 k) → M'.2 = M.2 → Q (.inl none) M') : fmGood Tm l G 0 qX11_tellsNothing [.ref (G.1 0)] M Q := by
  refine fmGood_of hst (by decide +kernel) (Nat.le_of_ble_eq_true rfl) ?_
  show fmEv Tm l G 0 qX11_tellsNothing 0 [some (.ref (G.1 0))] [] M Q
  refine fm_aloadn (pc := 0) (n := 0) 0 rfl rfl (fm_dec dtX11_tellsNothing 0 rfl) ?_
  refine fm_getR (k := 0) (j := 11) (ci := 11) (pc := 1) 3 rfl fl_X11_20 (by decide) rfl (by decide) (by decide) (fm_dec dtX11_tellsNothing 1 rfl) ?_
  refine fm_iconst (pc := 4) (v := 0) (by decide) (fm_dec dtX11_tellsNothing 2 rfl) ?_
  refine fm_iconst (pc := 5) (v := 0) (by decide) (fm_dec dtX11_tellsNothing 3 rfl) ?_
  refine fm_iast (k := 3) (n := 6) (pc := 6) (by decide) rfl rfl (fm_inl (by decide)) (fm_dec dtX11_tellsNothing 4 rfl) ?_
  refine fm_aloadn (pc := 7) (n := 0) 0 rfl rfl (fm_dec dtX11_tellsNothing 5 rfl) ?_
  refine fm_getR (k := 0) (j := 11) (ci := 11) (pc := 8) 3 rfl fl_X11_20 (by decide) rfl (by decide) (by decide) (fm_dec dtX11_tellsNothing 6 rfl) ?_
  refine fm_iconst (pc := 11) (v := 1) (by decide) (fm_dec dtX11_tellsNothing 7 rfl) ?_
  refine fm_iconst (pc := 12) (v := 0) (by decide) (fm_dec dtX11_tellsNothing 8 rfl) ?_
  refine fm_iast (k := 3) (n := 6) (pc := 13) (by decide) rfl rfl (fm_inl (by decide)) (fm_dec dtX11_tellsNothing 9 rfl) ?_
  refine fm_aloadn (pc := 14) (n := 0) 0 rfl rfl (fm_dec dtX11_tellsNothing 10 rfl) ?_
  refine fm_getR (k := 0) (j := 11) (ci := 11) (pc := 15) 3 rfl fl_X11_20 (by decide) rfl (by decide) (by decide) (fm_dec dtX11_tellsNothing 11 rfl) ?_
  refine fm_iconst (pc := 18) (v := 2) (by decide) (fm_dec dtX11_tellsNothing 12 rfl) ?_
  refine fm_bipush (pc := 19) (v := 8) (by decide) (fm_dec dtX11_tellsNothing 13 rfl) ?_
  refine fm_iast (k := 3) (n := 6) (pc := 21) (by decide) rfl rfl (fm_inl (by decide)) (fm_dec dtX11_tellsNothing 14 rfl) ?_
  refine fm_aloadn (pc := 22) (n := 0) 0 rfl rfl (fm_dec dtX11_tellsNothing 15 rfl) ?_
  refine fm_getR (k := 0) (j := 11) (ci := 11) (pc := 23) 3 rfl fl_X11_20 (by decide) rfl (by decide) (by decide) (fm_dec dtX11_tellsNothing 16 rfl) ?_
  refine fm_iconst (pc := 26) (v := 3) (by decide) (fm_dec dtX11_tellsNothing 17 rfl) ?_
  refine fm_iconst (pc := 27) (v := 5) (by decide) (fm_dec dtX11_tellsNothing 18 rfl) ?_
  refine fm_iast (k := 3) (n := 6) (pc := 28) (by decide) rfl rfl (fm_inl (by decide)) (fm_dec dtX11_tellsNothing 19 rfl) ?_
  refine fm_aloadn (pc := 29) (n := 0) 0 rfl rfl (fm_dec dtX11_tellsNothing 20 rfl) ?_
  refine fm_getR (k := 0) (j := 11) (ci := 11) (pc := 30) 3 rfl fl_X11_20 (by decide) rfl (by decide) (by decide) (fm_dec dtX11_tellsNothing 21 rfl) ?_
  refine fm_iconst (pc := 33) (v := 4) (by decide) (fm_dec dtX11_tellsNothing 22 rfl) ?_
  refine fm_iconst (pc := 34) (v := 3) (by decide) (fm_dec dtX11_tellsNothing 23 rfl) ?_
  refine fm_iast (k := 3) (n := 6) (pc := 35) (by decide) rfl rfl (fm_inl (by decide)) (fm_dec dtX11_tellsNothing 24 rfl) ?_
  refine fm_aloadn (pc := 36) (n := 0) 0 rfl rfl (fm_dec dtX11_tellsNothing 25 rfl) ?_
  refine fm_getR (k := 0) (j := 11) (ci := 11) (pc := 37) 3 rfl fl_X11_20 (by decide) rfl (by decide) (by decide) (fm_dec dtX11_tellsNothing 26 rfl) ?_
  refine fm_iconst (pc := 40) (v := 5) (by decide) (fm_dec dtX11_tellsNothing 27 rfl) ?_
  refine fm_iconst (pc := 41) (v := 2) (by decide) (fm_dec dtX11_tellsNothing 28 rfl) ?_
  refine fm_iast (k := 3) (n := 6) (pc := 42) (by decide) rfl rfl (fm_inl (by decide)) (fm_dec dtX11_tellsNothing 29 rfl) ?_
  exact fm_return (pc := 43) rfl (fm_dec dtX11_tellsNothing 30 rfl) (hq _ (by simp [fmI, upd]) (by simp [fmI, upd]) (by simp [fmI, upd]) (by simp [fmI, upd]) (by simp [fmI, upd]) (by simp [fmI, upd]) (by intro k h; simp [fmI, h]) rfl)

set_option maxRecDepth 20000 in
theorem d_lays0 {l : Launch} {G : fmG} {M : fmM} {Q : fmR → fmM → Prop} (hst : l.stackTraces = false) (a b : Nat) (n : Int32) (hn : n = 0) (hq : Q (.inl none) M) : fmGood Tm l G 0 qX11_lays [.ref (G.1 a), .ref (G.1 b), .int n] M Q := by
  refine fmGood_of hst (by decide +kernel) (Nat.le_of_ble_eq_true rfl) ?_
  show fmEv Tm l G 0 qX11_lays 0 [some (.ref (G.1 a)), some (.ref (G.1 b)), some (.int n), none, none] [] M Q
  refine fm_iconst (pc := 0) (v := 0) (by decide) (fm_dec dtX11_lays 0 rfl) ?_
  refine fm_istoren (pc := 1) (n := 3) 3 rfl (by decide) rfl (fm_dec dtX11_lays 1 rfl) ?_
  dsimp only [List.set_cons_zero, List.set_cons_succ]
  refine fm_iloadn (pc := 2) (n := 3) 3 rfl rfl (fm_dec dtX11_lays 2 rfl) ?_
  refine fm_iloadn (pc := 3) (n := 2) 2 rfl rfl (fm_dec dtX11_lays 3 rfl) ?_
  refine fm_icmp_ge (pc := 4) 43 (by decide) (fm_dec dtX11_lays 4 rfl) (fun _ => ?_) (fun hc4 => by exfalso; rw [hn] at hc4; revert hc4; decide)
  exact fm_return (pc := 43) rfl (fm_dec dtX11_lays 27 rfl) hq

def mFresh (M : fmM) : Prop := (M.1 4 0 = 0 ∧ M.1 4 1 = 0 ∧ M.1 4 2 = 8) ∧ (M.1 7 0 = 0 ∧ M.1 7 9 = 8 ∧ M.1 7 10 = 0 ∧ M.1 7 11 = 0 ∧ M.1 7 12 = 0 ∧ M.1 7 13 = 0) ∧ (M.1 0 17 = 0 ∧ M.1 0 31 = 0 ∧ M.1 0 32 = 0 ∧ M.1 0 33 = 0 ∧ M.1 0 34 = 0)

set_option maxRecDepth 20000 in
theorem st1 {l : Launch} {G : fmG} {Q : fmR → fmM → Prop} (hst : l.stackTraces = false)  : ∀ (n : Nat) (M : fmM) (i : Nat), i + n = 6 → (∀ j, j < i → M.1 4 j = M.1 3 j) → (∀ M', (∀ k, k ≠ 4 → M'.1 k = M.1 k) → (∀ j, j < 6 → M'.1 4 j = M.1 3 j) → M'.2 = M.2 → fmEv Tm l G 1 qX11_stands 26 [some (.ref (G.1 0)), some (.int (nI 6))] [] M' Q) → fmEv Tm l G 1 qX11_stands 2 [some (.ref (G.1 0)), some (.int (nI i))] [] M Q := by
  intro n
  induction n with
  | zero =>
    intro M i hi h0 hq
    have e : i = 6 := by omega
    subst e
    refine fm_iloadn (pc := 2) (n := 1) 1 rfl rfl (fm_dec dtX11_stands 2 rfl) ?_
    refine fm_bipush (pc := 3) (v := 6) (by decide) (fm_dec dtX11_stands 3 rfl) ?_
    refine fm_icmp_ge (pc := 5) 26 (by decide) (fm_dec dtX11_stands 4 rfl) (fun _ => ?_) (fun hc5 => by exfalso; revert hc5; decide)
    exact hq M (fun _ _ => rfl) h0 rfl
  | succ n ih =>
    intro M i hi h0 hq
    refine fm_iloadn (pc := 2) (n := 1) 1 rfl rfl (fm_dec dtX11_stands 2 rfl) ?_
    refine fm_bipush (pc := 3) (v := 6) (by decide) (fm_dec dtX11_stands 3 rfl) ?_
    refine fm_icmp_ge (pc := 5) 26 (by decide) (fm_dec dtX11_stands 4 rfl) (fun hc5 => by exfalso; rw [show (6 : Int32) = nI 6 by decide] at hc5; exact nI_ge (show i < 6 by omega) (by decide) hc5) (fun _ => ?_)
    refine fm_aloadn (pc := 8) (n := 0) 0 rfl rfl (fm_dec dtX11_stands 5 rfl) ?_
    refine fm_getR (k := 0) (j := 12) (ci := 11) (pc := 9) 4 rfl fl_X11_23 (by decide) rfl (by decide) (by decide) (fm_dec dtX11_stands 6 rfl) ?_
    refine fm_iloadn (pc := 12) (n := 1) 1 rfl rfl (fm_dec dtX11_stands 7 rfl) ?_
    refine fm_aloadn (pc := 13) (n := 0) 0 rfl rfl (fm_dec dtX11_stands 8 rfl) ?_
    refine fm_getR (k := 0) (j := 11) (ci := 11) (pc := 14) 3 rfl fl_X11_20 (by decide) rfl (by decide) (by decide) (fm_dec dtX11_stands 9 rfl) ?_
    refine fm_iloadn (pc := 17) (n := 1) 1 rfl rfl (fm_dec dtX11_stands 10 rfl) ?_
    refine fm_iald (k := 3) (n := 6) (pc := 18) (by decide) rfl rfl (vp_in_nI (by omega) (by decide)) (fm_dec dtX11_stands 11 rfl) ?_
    refine fm_iast (k := 4) (n := 6) (pc := 19) (by decide) rfl rfl (vp_in_nI (by omega) (by decide)) (fm_dec dtX11_stands 12 rfl) ?_
    refine fm_iincc (pc := 20) 1 1 (by decide) rfl (by decide) rfl (fm_dec dtX11_stands 13 rfl) ?_
    dsimp only [List.set_cons_zero, List.set_cons_succ]
    refine fm_goto (pc := 23) 2 (by decide) (fm_dec dtX11_stands 14 rfl) ?_
    rw [show nI i + 1 = nI (i + 1) from nI_1 i, nI_clamp (show i < 2 ^ 31 by omega)]
    refine ih _ (i + 1) (by omega) (fun j hj => ?_) (fun M1 e1 e2 e3 => hq M1 (fun k hk => by rw [e1 k hk]; simp [fmI, hk]) (fun j hj => by rw [e2 j hj]; simp [fmI]) (by rw [e3]; rfl))
    by_cases e : j = i
    · subst e; simp [fmI, upd]
    · rw [fmI_j _ _ e, h0 j (by omega)]; simp [fmI]

set_option maxRecDepth 20000 in
theorem st2 {l : Launch} {G : fmG} {Q : fmR → fmM → Prop} (hst : l.stackTraces = false)  : ∀ (n : Nat) (M : fmM) (i : Nat), i + n = 14 → (∀ j, j < i → M.1 7 j = 0) → (∀ M', (∀ k, k ≠ 7 → M'.1 k = M.1 k) → (∀ j, j < 14 → M'.1 7 j = 0) → M'.2 = M.2 → fmEv Tm l G 1 qX11_stands 81 [some (.ref (G.1 0)), some (.int (nI 14))] [] M' Q) → fmEv Tm l G 1 qX11_stands 62 [some (.ref (G.1 0)), some (.int (nI i))] [] M Q := by
  intro n
  induction n with
  | zero =>
    intro M i hi h0 hq
    have e : i = 14 := by omega
    subst e
    refine fm_iloadn (pc := 62) (n := 1) 1 rfl rfl (fm_dec dtX11_stands 35 rfl) ?_
    refine fm_bipush (pc := 63) (v := 14) (by decide) (fm_dec dtX11_stands 36 rfl) ?_
    refine fm_icmp_ge (pc := 65) 81 (by decide) (fm_dec dtX11_stands 37 rfl) (fun _ => ?_) (fun hc65 => by exfalso; revert hc65; decide)
    exact hq M (fun _ _ => rfl) h0 rfl
  | succ n ih =>
    intro M i hi h0 hq
    refine fm_iloadn (pc := 62) (n := 1) 1 rfl rfl (fm_dec dtX11_stands 35 rfl) ?_
    refine fm_bipush (pc := 63) (v := 14) (by decide) (fm_dec dtX11_stands 36 rfl) ?_
    refine fm_icmp_ge (pc := 65) 81 (by decide) (fm_dec dtX11_stands 37 rfl) (fun hc65 => by exfalso; rw [show (14 : Int32) = nI 14 by decide] at hc65; exact nI_ge (show i < 14 by omega) (by decide) hc65) (fun _ => ?_)
    refine fm_aloadn (pc := 68) (n := 0) 0 rfl rfl (fm_dec dtX11_stands 38 rfl) ?_
    refine fm_getR (k := 0) (j := 27) (ci := 11) (pc := 69) 7 rfl fl_X11_61 (by decide) rfl (by decide) (by decide) (fm_dec dtX11_stands 39 rfl) ?_
    refine fm_iloadn (pc := 72) (n := 1) 1 rfl rfl (fm_dec dtX11_stands 40 rfl) ?_
    refine fm_iconst (pc := 73) (v := 0) (by decide) (fm_dec dtX11_stands 41 rfl) ?_
    refine fm_iast (k := 7) (n := 14) (pc := 74) (by decide) rfl rfl (vp_in_nI (by omega) (by decide)) (fm_dec dtX11_stands 42 rfl) ?_
    refine fm_iincc (pc := 75) 1 1 (by decide) rfl (by decide) rfl (fm_dec dtX11_stands 43 rfl) ?_
    dsimp only [List.set_cons_zero, List.set_cons_succ]
    refine fm_goto (pc := 78) 62 (by decide) (fm_dec dtX11_stands 44 rfl) ?_
    rw [show nI i + 1 = nI (i + 1) from nI_1 i, nI_clamp (show i < 2 ^ 31 by omega)]
    refine ih _ (i + 1) (by omega) (fun j hj => ?_) (fun M1 e1 e2 e3 => hq M1 (fun k hk => by rw [e1 k hk]; simp [fmI, hk]) e2 (by rw [e3]; rfl))
    by_cases e : j = i
    · subst e; simp [fmI, upd]
    · rw [fmI_j _ _ e, h0 j (by omega)]

set_option maxRecDepth 20000 in
theorem st3 {l : Launch} {G : fmG} {Q : fmR → fmM → Prop} (hst : l.stackTraces = false)  : ∀ (n : Nat) (M : fmM) (i : Nat), i + n = 8 → M.1 4 0 = 0 → (∀ M', (∀ k, k ≠ 7 → M'.1 k = M.1 k) → (∀ j, j = 0 ∨ 9 ≤ j → M'.1 7 j = M.1 7 j) → M'.2 = M.2 → fmEv Tm l G 1 qX11_stands 140 [some (.ref (G.1 0)), some (.int (nI 8))] [] M' Q) → fmEv Tm l G 1 qX11_stands 83 [some (.ref (G.1 0)), some (.int (nI i))] [] M Q := by
  intro n
  induction n with
  | zero =>
    intro M i hi h0 hq
    have e : i = 8 := by omega
    subst e
    refine fm_iloadn (pc := 83) (n := 1) 1 rfl rfl (fm_dec dtX11_stands 47 rfl) ?_
    refine fm_bipush (pc := 84) (v := 8) (by decide) (fm_dec dtX11_stands 48 rfl) ?_
    refine fm_icmp_ge (pc := 86) 140 (by decide) (fm_dec dtX11_stands 49 rfl) (fun _ => ?_) (fun hc86 => by exfalso; revert hc86; decide)
    exact hq M (fun _ _ => rfl) (fun _ _ => rfl) rfl
  | succ n ih =>
    intro M i hi h0 hq
    refine fm_iloadn (pc := 83) (n := 1) 1 rfl rfl (fm_dec dtX11_stands 47 rfl) ?_
    refine fm_bipush (pc := 84) (v := 8) (by decide) (fm_dec dtX11_stands 48 rfl) ?_
    refine fm_icmp_ge (pc := 86) 140 (by decide) (fm_dec dtX11_stands 49 rfl) (fun hc86 => by exfalso; rw [show (8 : Int32) = nI 8 by decide] at hc86; exact nI_ge (show i < 8 by omega) (by decide) hc86) (fun _ => ?_)
    refine fm_aloadn (pc := 89) (n := 0) 0 rfl rfl (fm_dec dtX11_stands 50 rfl) ?_
    refine fm_getR (k := 0) (j := 27) (ci := 11) (pc := 90) 7 rfl fl_X11_61 (by decide) rfl (by decide) (by decide) (fm_dec dtX11_stands 51 rfl) ?_
    refine fm_iconst (pc := 93) (v := 1) (by decide) (fm_dec dtX11_stands 52 rfl) ?_
    refine fm_iloadn (pc := 94) (n := 1) 1 rfl rfl (fm_dec dtX11_stands 53 rfl) ?_
    refine fm_iadd (pc := 95) (fm_dec dtX11_stands 54 rfl) ?_
    refine fm_topE (v := nI (1 + i)) (by rw [Int32.add_comm, nI_1, Nat.add_comm]) ?_
    refine fm_iloadn (pc := 96) (n := 1) 1 rfl rfl (fm_dec dtX11_stands 55 rfl) ?_
    refine fm_aloadn (pc := 97) (n := 0) 0 rfl rfl (fm_dec dtX11_stands 56 rfl) ?_
    refine fm_getR (k := 0) (j := 12) (ci := 11) (pc := 98) 4 rfl fl_X11_23 (by decide) rfl (by decide) (by decide) (fm_dec dtX11_stands 57 rfl) ?_
    refine fm_iconst (pc := 101) (v := 0) (by decide) (fm_dec dtX11_stands 58 rfl) ?_
    refine fm_iald (k := 4) (n := 6) (pc := 102) (by decide) rfl rfl (fm_inl (by decide)) (fm_dec dtX11_stands 59 rfl) ?_
    refine fm_icmp_ge (pc := 103) 118 (by decide) (fm_dec dtX11_stands 60 rfl) (fun _ => ?_) (fun hc103 => by exfalso; rw [show M.1 4 (Int32.toNatClampNeg 0) = 0 from h0] at hc103; exact hc103 (by rw [show (0 : Int32) = nI 0 by decide]; exact i32_le_lt (fun q => nI_nlt (show 0 ≤ i by omega) (by omega) q)))
    refine fm_sipush (pc := 118) (v := (-1000)) (by decide) (fm_dec dtX11_stands 69 rfl) ?_
    refine fm_goto (pc := 121) 133 (by decide) (fm_dec dtX11_stands 70 rfl) ?_
    refine fm_iast (k := 7) (n := 14) (pc := 133) (by decide) rfl rfl (vp_in_nI (by omega) (by decide)) (fm_dec dtX11_stands 78 rfl) ?_
    refine fm_iincc (pc := 134) 1 1 (by decide) rfl (by decide) rfl (fm_dec dtX11_stands 79 rfl) ?_
    dsimp only [List.set_cons_zero, List.set_cons_succ]
    refine fm_goto (pc := 137) 83 (by decide) (fm_dec dtX11_stands 80 rfl) ?_
    rw [show nI i + 1 = nI (i + 1) from nI_1 i, nI_clamp (show 1 + i < 2 ^ 31 by omega)]
    exact ih _ (i + 1) (by omega) (by simp [fmI, h0]) (fun M1 e1 e2 e3 => hq M1 (fun k hk => by rw [e1 k hk]; simp [fmI, hk]) (fun j hj => by rw [e2 j hj, fmI_j _ _ (show j ≠ 1 + i by omega)]) (by rw [e3]; rfl))

set_option maxRecDepth 20000 in
theorem d_stands {l : Launch} {G : fmG} {M : fmM} {Q : fmR → fmM → Prop} (hst : l.stackTraces = false)  (a0 : M.1 3 0 = 0) (a1 : M.1 3 1 = 0) (a2 : M.1 3 2 = 8) (hq : ∀ M', mFresh M' → (∀ k, k ≠ 0 → k ≠ 4 → k ≠ 7 → M'.1 k = M.1 k) → (∀ j, j < 17 → M'.1 0 j = M.1 0 j) → M'.2 = M.2 → Q (.inl none) M') : fmGood Tm l G 1 qX11_stands [.ref (G.1 0)] M Q := by
  refine fmGood_of hst (by decide +kernel) (Nat.le_of_ble_eq_true rfl) ?_
  show fmEv Tm l G 1 qX11_stands 0 [some (.ref (G.1 0)), none] [] M Q
  refine fm_iconst (pc := 0) (v := 0) (by decide) (fm_dec dtX11_stands 0 rfl) ?_
  refine fm_istoren (pc := 1) (n := 1) 1 rfl (by decide) rfl (fm_dec dtX11_stands 1 rfl) ?_
  dsimp only [List.set_cons_zero, List.set_cons_succ]
  rw [show (0 : Int32) = nI 0 by decide]
  refine st1 hst 6 M 0 (by omega) (fun j hj => absurd hj (by omega)) (fun M1 f1 g1 s1 => ?_)
  refine fm_aloadn (pc := 26) (n := 0) 0 rfl rfl (fm_dec dtX11_stands 15 rfl) ?_
  refine fm_getR (k := 0) (j := 13) (ci := 11) (pc := 27) 16 rfl fl_X11_28 (by decide) rfl (by decide) (by decide) (fm_dec dtX11_stands 16 rfl) ?_
  refine fm_aloadn (pc := 30) (n := 0) 0 rfl rfl (fm_dec dtX11_stands 17 rfl) ?_
  refine fm_getR (k := 0) (j := 14) (ci := 11) (pc := 31) 17 rfl fl_X11_31 (by decide) rfl (by decide) (by decide) (fm_dec dtX11_stands 18 rfl) ?_
  refine fm_aloadn (pc := 34) (n := 0) 0 rfl rfl (fm_dec dtX11_stands 19 rfl) ?_
  refine fm_getR (k := 0) (j := 12) (ci := 11) (pc := 35) 4 rfl fl_X11_23 (by decide) rfl (by decide) (by decide) (fm_dec dtX11_stands 20 rfl) ?_
  refine fm_iconst (pc := 38) (v := 0) (by decide) (fm_dec dtX11_stands 21 rfl) ?_
  refine fm_iald (k := 4) (n := 6) (pc := 39) (by decide) rfl rfl (fm_inl (by decide)) (fm_dec dtX11_stands 22 rfl) ?_
  refine fm_invS3 (d' := 0) (pc := 40) cs_X11_190 (Nat.le_of_ble_eq_true rfl) (by decide) (fm_dec dtX11_stands 23 rfl) ?_
  refine d_lays0 hst _ _ _ ((g1 0 (by decide)).trans a0) ?_
  refine fm_then0 ?_
  refine fm_aloadn (pc := 43) (n := 0) 0 rfl rfl (fm_dec dtX11_stands 24 rfl) ?_
  refine fm_getR (k := 0) (j := 15) (ci := 11) (pc := 44) 18 rfl fl_X11_34 (by decide) rfl (by decide) (by decide) (fm_dec dtX11_stands 25 rfl) ?_
  refine fm_aloadn (pc := 47) (n := 0) 0 rfl rfl (fm_dec dtX11_stands 26 rfl) ?_
  refine fm_getR (k := 0) (j := 16) (ci := 11) (pc := 48) 19 rfl fl_X11_37 (by decide) rfl (by decide) (by decide) (fm_dec dtX11_stands 27 rfl) ?_
  refine fm_aloadn (pc := 51) (n := 0) 0 rfl rfl (fm_dec dtX11_stands 28 rfl) ?_
  refine fm_getR (k := 0) (j := 12) (ci := 11) (pc := 52) 4 rfl fl_X11_23 (by decide) rfl (by decide) (by decide) (fm_dec dtX11_stands 29 rfl) ?_
  refine fm_iconst (pc := 55) (v := 1) (by decide) (fm_dec dtX11_stands 30 rfl) ?_
  refine fm_iald (k := 4) (n := 6) (pc := 56) (by decide) rfl rfl (fm_inl (by decide)) (fm_dec dtX11_stands 31 rfl) ?_
  refine fm_invS3 (d' := 0) (pc := 57) cs_X11_190 (Nat.le_of_ble_eq_true rfl) (by decide) (fm_dec dtX11_stands 32 rfl) ?_
  refine d_lays0 hst _ _ _ ((g1 1 (by decide)).trans a1) ?_
  refine fm_then0 ?_
  refine fm_iconst (pc := 60) (v := 0) (by decide) (fm_dec dtX11_stands 33 rfl) ?_
  refine fm_istoren (pc := 61) (n := 1) 1 rfl (by decide) rfl (fm_dec dtX11_stands 34 rfl) ?_
  dsimp only [List.set_cons_zero, List.set_cons_succ]
  rw [show (0 : Int32) = nI 0 by decide]
  refine st2 hst 14 M1 0 (by omega) (fun j hj => absurd hj (by omega)) (fun M2 f2 g2 s2 => ?_)
  refine fm_iconst (pc := 81) (v := 0) (by decide) (fm_dec dtX11_stands 45 rfl) ?_
  refine fm_istoren (pc := 82) (n := 1) 1 rfl (by decide) rfl (fm_dec dtX11_stands 46 rfl) ?_
  dsimp only [List.set_cons_zero, List.set_cons_succ]
  rw [show (0 : Int32) = nI 0 by decide]
  refine st3 hst 8 M2 0 (by omega) (by rw [f2 4 (by decide), g1 0 (by decide), a0]) (fun M3 f3 g3 s3 => ?_)
  have T0 : M3.1 4 0 = 0 := by rw [f3 4 (by decide), f2 4 (by decide), g1 0 (by decide), a0]
  have T1 : M3.1 4 1 = 0 := by rw [f3 4 (by decide), f2 4 (by decide), g1 1 (by decide), a1]
  have T2 : M3.1 4 2 = 8 := by rw [f3 4 (by decide), f2 4 (by decide), g1 2 (by decide), a2]
  have Z0 : M3.1 7 0 = 0 := by rw [g3 0 (by decide), g2 0 (by decide)]
  have Z9 : M3.1 7 9 = 0 := by rw [g3 9 (by decide), g2 9 (by decide)]
  have Z10 : M3.1 7 10 = 0 := by rw [g3 10 (by decide), g2 10 (by decide)]
  have Z11 : M3.1 7 11 = 0 := by rw [g3 11 (by decide), g2 11 (by decide)]
  have Z12 : M3.1 7 12 = 0 := by rw [g3 12 (by decide), g2 12 (by decide)]
  have Z13 : M3.1 7 13 = 0 := by rw [g3 13 (by decide), g2 13 (by decide)]
  refine fm_aloadn (pc := 140) (n := 0) 0 rfl rfl (fm_dec dtX11_stands 81 rfl) ?_
  refine fm_getR (k := 0) (j := 27) (ci := 11) (pc := 141) 7 rfl fl_X11_61 (by decide) rfl (by decide) (by decide) (fm_dec dtX11_stands 82 rfl) ?_
  refine fm_bipush (pc := 144) (v := 9) (by decide) (fm_dec dtX11_stands 83 rfl) ?_
  refine fm_aloadn (pc := 146) (n := 0) 0 rfl rfl (fm_dec dtX11_stands 84 rfl) ?_
  refine fm_getR (k := 0) (j := 12) (ci := 11) (pc := 147) 4 rfl fl_X11_23 (by decide) rfl (by decide) (by decide) (fm_dec dtX11_stands 85 rfl) ?_
  refine fm_iconst (pc := 150) (v := 2) (by decide) (fm_dec dtX11_stands 86 rfl) ?_
  refine fm_iald (k := 4) (n := 6) (pc := 151) (by decide) rfl rfl (fm_inl (by decide)) (fm_dec dtX11_stands 87 rfl) ?_
  refine fm_iast (k := 7) (n := 14) (pc := 152) (by decide) rfl rfl (fm_inl (by decide)) (fm_dec dtX11_stands 88 rfl) ?_
  refine fm_aloadn (pc := 153) (n := 0) 0 rfl rfl (fm_dec dtX11_stands 89 rfl) ?_
  refine fm_iconst (pc := 154) (v := 0) (by decide) (fm_dec dtX11_stands 90 rfl) ?_
  refine fm_putI (k := 0) (j := 17) (ci := 11) (pc := 155) fl_X11_194 (by decide) rfl (by decide) rfl rfl (fm_dec dtX11_stands 91 rfl) ?_
  refine fm_aloadn (pc := 158) (n := 0) 0 rfl rfl (fm_dec dtX11_stands 92 rfl) ?_
  refine fm_iconst (pc := 159) (v := 0) (by decide) (fm_dec dtX11_stands 93 rfl) ?_
  refine fm_putI (k := 0) (j := 31) (ci := 11) (pc := 160) fl_X11_197 (by decide) rfl (by decide) rfl rfl (fm_dec dtX11_stands 94 rfl) ?_
  refine fm_aloadn (pc := 163) (n := 0) 0 rfl rfl (fm_dec dtX11_stands 95 rfl) ?_
  refine fm_iconst (pc := 164) (v := 0) (by decide) (fm_dec dtX11_stands 96 rfl) ?_
  refine fm_putI (k := 0) (j := 32) (ci := 11) (pc := 165) fl_X11_200 (by decide) rfl (by decide) rfl rfl (fm_dec dtX11_stands 97 rfl) ?_
  refine fm_aloadn (pc := 168) (n := 0) 0 rfl rfl (fm_dec dtX11_stands 98 rfl) ?_
  refine fm_iconst (pc := 169) (v := 0) (by decide) (fm_dec dtX11_stands 99 rfl) ?_
  refine fm_putI (k := 0) (j := 33) (ci := 11) (pc := 170) fl_X11_203 (by decide) rfl (by decide) rfl rfl (fm_dec dtX11_stands 100 rfl) ?_
  refine fm_aloadn (pc := 173) (n := 0) 0 rfl rfl (fm_dec dtX11_stands 101 rfl) ?_
  refine fm_iconst (pc := 174) (v := 0) (by decide) (fm_dec dtX11_stands 102 rfl) ?_
  refine fm_putI (k := 0) (j := 34) (ci := 11) (pc := 175) fl_X11_206 (by decide) rfl (by decide) rfl rfl (fm_dec dtX11_stands 103 rfl) ?_
  exact fm_return (pc := 178) rfl (fm_dec dtX11_stands 104 rfl) (hq _ (by refine ⟨⟨?_, ?_, ?_⟩, ⟨?_, ?_, ?_, ?_, ?_, ?_⟩, ⟨?_, ?_, ?_, ?_, ?_⟩⟩ <;> simp [fmI, upd, T0, T1, T2, Z0, Z9, Z10, Z11, Z12, Z13]) (by intro k h h2 h3; simp [fmI, h, h3, f3 k h3, f2 k h3, f1 k h2]) (by intro j h; simp [fmI, upd, show j ≠ 17 by omega, show j ≠ 31 by omega, show j ≠ 32 by omega, show j ≠ 33 by omega, show j ≠ 34 by omega, f3, f2, f1]) (by simp [fmI, s3, s2, s1]))

set_option maxRecDepth 20000 in
theorem m_drawer {l : Launch} {G : fmG} {M : fmM} {Q : fmR → fmM → Prop} (hst : l.stackTraces = false) (n : Int32) (h1 : M.1 0 1 = 0) (hq : ∀ M', M'.1 0 0 = 0 → (inR n 0 0) → Q (.inl (some (.int 0))) M') (hx : ∀ (r9 : Int32) M', M'.1 0 0 = 1 → ¬ (inR n 0 0) → Q (.inl (some (.int r9))) M') : fmGood Tm l G 6 qX11_drawer [.ref (G.1 0), .int n] M Q := by
  refine fmGood_of hst (by decide +kernel) (Nat.le_of_ble_eq_true rfl) ?_
  show fmEv Tm l G 6 qX11_drawer 0 [some (.ref (G.1 0)), some (.int n)] [] M Q
  refine fm_aloadn (pc := 0) (n := 0) 0 rfl rfl (fm_dec dtX11_drawer 0 rfl) ?_
  refine fm_iconst (pc := 1) (v := 0) (by decide) (fm_dec dtX11_drawer 1 rfl) ?_
  refine fm_putI (k := 0) (j := 0) (ci := 11) (pc := 2) fl_X11_101 (by decide) rfl (by decide) rfl rfl (fm_dec dtX11_drawer 2 rfl) ?_
  refine fm_aloadn (pc := 5) (n := 0) 0 rfl rfl (fm_dec dtX11_drawer 3 rfl) ?_
  refine fm_iloadn (pc := 6) (n := 1) 1 rfl rfl (fm_dec dtX11_drawer 4 rfl) ?_
  refine fm_iconst (pc := 7) (v := 0) (by decide) (fm_dec dtX11_drawer 5 rfl) ?_
  refine fm_aloadn (pc := 8) (n := 0) 0 rfl rfl (fm_dec dtX11_drawer 6 rfl) ?_
  refine fm_getI (k := 0) (j := 1) (ci := 11) (pc := 9) fl_X11_104 (by decide) rfl (by decide) rfl (fm_dec dtX11_drawer 7 rfl) ?_
  refine fm_invS3 (d' := 0) (pc := 12) cs_X11_135 (Nat.le_of_ble_eq_true rfl) (by decide) (fm_dec dtX11_drawer 8 rfl) ?_
  refine d_in hst _ _ _ (fun hi12 => ?_) (fun hn12 => ?_)
  · refine fm_then1 ?_
    refine fm_if_ne (pc := 15) 22 (by decide) (fm_dec dtX11_drawer 9 rfl) (fun _ => ?_) (fun hc15 => by exfalso; revert hc15; decide)
    refine fm_iconst (pc := 22) (v := 0) (by decide) (fm_dec dtX11_drawer 12 rfl) ?_
    refine fm_iconst (pc := 23) (v := 1) (by decide) (fm_dec dtX11_drawer 13 rfl) ?_
    refine fm_iconst (pc := 24) (v := 1) (by decide) (fm_dec dtX11_drawer 14 rfl) ?_
    refine fm_invV3 (k := 0) (d' := 0) (pc := 25) cv_X11_177 (by decide) rfl (Nat.le_of_ble_eq_true rfl) (by decide) (fm_dec dtX11_drawer 15 rfl) ?_
    refine d_bad0 hst _ _ (by first | exact h0 | simp [fmI, upd]) ?_
    refine fm_then1 ?_
    refine fm_if_eq (pc := 28) 33 (by decide) (fm_dec dtX11_drawer 16 rfl) (fun _ => ?_) (fun hc28 => by exfalso; revert hc28; decide)
    have hn0 : inR n 0 0 := (by have h9 := hi12; simpa [fmI, upd, h1] using h9)
    have e0 : n = 0 := inR_0 hn0
    subst e0
    refine fm_aloadn (pc := 33) (n := 0) 0 rfl rfl (fm_dec dtX11_drawer 19 rfl) ?_
    refine fm_iloadn (pc := 34) (n := 1) 1 rfl rfl (fm_dec dtX11_drawer 20 rfl) ?_
    refine fm_invV1 (k := 0) (d' := 2) (pc := 35) cv_X11_181 (by decide) rfl (Nat.le_of_ble_eq_true rfl) (by decide) (fm_dec dtX11_drawer 21 rfl) ?_
    refine d_starts0 hst ?_
    refine fm_then0 ?_
    refine fm_aloadn (pc := 38) (n := 0) 0 rfl rfl (fm_dec dtX11_drawer 22 rfl) ?_
    refine fm_invV0 (k := 0) (d' := 0) (pc := 39) cv_X11_95 (by decide) rfl (Nat.le_of_ble_eq_true rfl) (by decide) (fm_dec dtX11_drawer 23 rfl) ?_
    refine d_tells hst (fun M39 a39 b39 c39 d39 e39 g39 f39 s39 => ?_)
    refine fm_then0 ?_
    refine fm_aloadn (pc := 42) (n := 0) 0 rfl rfl (fm_dec dtX11_drawer 24 rfl) ?_
    refine fm_getI (k := 0) (j := 5) (ci := 11) (pc := 43) fl_X11_117 (by decide) rfl (by decide) rfl (fm_dec dtX11_drawer 25 rfl) ?_
    refine fm_if_ne (pc := 46) 71 (by decide) (fm_dec dtX11_drawer 26 rfl) (fun hc46 => by exfalso; revert hc46; simp [f39, uSt, fmI, upd]) (fun _ => ?_)
    refine fm_aloadn (pc := 49) (n := 0) 0 rfl rfl (fm_dec dtX11_drawer 27 rfl) ?_
    refine fm_getI (k := 0) (j := 4) (ci := 11) (pc := 50) fl_X11_110 (by decide) rfl (by decide) rfl (fm_dec dtX11_drawer 28 rfl) ?_
    refine fm_aloadn (pc := 53) (n := 0) 0 rfl rfl (fm_dec dtX11_drawer 29 rfl) ?_
    refine fm_getI (k := 0) (j := 2) (ci := 11) (pc := 54) fl_X11_107 (by decide) rfl (by decide) rfl (fm_dec dtX11_drawer 30 rfl) ?_
    refine fm_icmp_ge (pc := 57) 71 (by decide) (fm_dec dtX11_drawer 31 rfl) (fun _ => ?_) (fun hc57 => by exfalso; revert hc57; simp [f39, uSt, fmI, upd]; try decide)
    refine fm_aloadn (pc := 71) (n := 0) 0 rfl rfl (fm_dec dtX11_drawer 37 rfl) ?_
    refine fm_getI (k := 0) (j := 5) (ci := 11) (pc := 72) fl_X11_117 (by decide) rfl (by decide) rfl (fm_dec dtX11_drawer 38 rfl) ?_
    refine fm_if_eq (pc := 75) 83 (by decide) (fm_dec dtX11_drawer 39 rfl) (fun _ => ?_) (fun hc75 => by exfalso; revert hc75; simp [f39, uSt, fmI, upd])
    refine fm_aloadn (pc := 83) (n := 0) 0 rfl rfl (fm_dec dtX11_drawer 43 rfl) ?_
    refine fm_iconst (pc := 84) (v := (-1)) (by decide) (fm_dec dtX11_drawer 44 rfl) ?_
    refine fm_putI (k := 0) (j := 3) (ci := 11) (pc := 85) fl_X11_9 (by decide) rfl (by decide) rfl rfl (fm_dec dtX11_drawer 45 rfl) ?_
    refine fm_aloadn (pc := 88) (n := 0) 0 rfl rfl (fm_dec dtX11_drawer 46 rfl) ?_
    refine fm_invV0 (k := 0) (d' := 1) (pc := 89) cv_X11_98 (by decide) rfl (Nat.le_of_ble_eq_true rfl) (by decide) (fm_dec dtX11_drawer 47 rfl) ?_
    refine d_stands hst (by simp [fmI, a39]) (by simp [fmI, b39]) (by simp [fmI, c39]) (fun M89 w89 f89 g89 s89 => ?_)
    refine fm_then0 ?_
    refine fm_aloadn (pc := 92) (n := 0) 0 rfl rfl (fm_dec dtX11_drawer 48 rfl) ?_
    refine fm_getR (k := 0) (j := 12) (ci := 11) (pc := 93) 4 rfl fl_X11_23 (by decide) rfl (by decide) (by decide) (fm_dec dtX11_drawer 49 rfl) ?_
    refine fm_iconst (pc := 96) (v := 0) (by decide) (fm_dec dtX11_drawer 50 rfl) ?_
    refine fm_iald (k := 4) (n := 6) (pc := 97) (by decide) rfl rfl (fm_inl (by decide)) (fm_dec dtX11_drawer 51 rfl) ?_
    exact fm_ireturn (pc := 98) rfl (fm_dec dtX11_drawer 52 rfl) (by rw [show M89.1 4 (Int32.toNatClampNeg 0) = 0 from w89.1.1]; exact hq _ (by rw [g89 0 (by decide)]; simp [f39, uSt, fmI, upd]) hn0)
  · refine fm_then1 ?_
    refine fm_if_ne (pc := 15) 22 (by decide) (fm_dec dtX11_drawer 9 rfl) (fun hc15 => by exfalso; revert hc15; decide) (fun _ => ?_)
    refine fm_iconst (pc := 18) (v := 1) (by decide) (fm_dec dtX11_drawer 10 rfl) ?_
    refine fm_goto (pc := 19) 23 (by decide) (fm_dec dtX11_drawer 11 rfl) ?_
    refine fm_iconst (pc := 23) (v := 1) (by decide) (fm_dec dtX11_drawer 13 rfl) ?_
    refine fm_iconst (pc := 24) (v := 1) (by decide) (fm_dec dtX11_drawer 14 rfl) ?_
    refine fm_invV3 (k := 0) (d' := 0) (pc := 25) cv_X11_177 (by decide) rfl (Nat.le_of_ble_eq_true rfl) (by decide) (fm_dec dtX11_drawer 15 rfl) ?_
    refine d_bad1_1 hst _ (by first | exact h0 | simp [fmI, upd]) (by decide) (fun Mb hb => ?_)
    refine fm_then1 ?_
    refine fm_if_eq (pc := 28) 33 (by decide) (fm_dec dtX11_drawer 16 rfl) (fun hc28 => by exfalso; revert hc28; decide) (fun _ => ?_)
    refine fm_iconst (pc := 31) (v := 0) (by decide) (fm_dec dtX11_drawer 17 rfl) ?_
    exact fm_ireturn (pc := 32) rfl (fm_dec dtX11_drawer 18 rfl) (hx _ _ hb (fun h => hn12 (by simpa [fmI, upd, h1] using h)))

set_option maxRecDepth 20000 in
theorem m_page {l : Launch} {G : fmG} {M : fmM} {Q : fmR → fmM → Prop} (hst : l.stackTraces = false) (n : Int32) (h1 : M.1 0 1 = 0) (hq : ∀ M', M'.1 0 0 = 0 → (inR n 0 0) → Q (.inl (some (.int 0))) M') (hx : ∀ (r9 : Int32) M', M'.1 0 0 = 1 → ¬ (inR n 0 0) → Q (.inl (some (.int r9))) M') : fmGood Tm l G 3 qX11_page [.ref (G.1 0), .int n] M Q := by
  refine fmGood_of hst (by decide +kernel) (Nat.le_of_ble_eq_true rfl) ?_
  show fmEv Tm l G 3 qX11_page 0 [some (.ref (G.1 0)), some (.int n), none, none, none, none, none] [] M Q
  refine fm_aloadn (pc := 0) (n := 0) 0 rfl rfl (fm_dec dtX11_page 0 rfl) ?_
  refine fm_iconst (pc := 1) (v := 0) (by decide) (fm_dec dtX11_page 1 rfl) ?_
  refine fm_putI (k := 0) (j := 0) (ci := 11) (pc := 2) fl_X11_101 (by decide) rfl (by decide) rfl rfl (fm_dec dtX11_page 2 rfl) ?_
  refine fm_aloadn (pc := 5) (n := 0) 0 rfl rfl (fm_dec dtX11_page 3 rfl) ?_
  refine fm_iloadn (pc := 6) (n := 1) 1 rfl rfl (fm_dec dtX11_page 4 rfl) ?_
  refine fm_iconst (pc := 7) (v := 0) (by decide) (fm_dec dtX11_page 5 rfl) ?_
  refine fm_aloadn (pc := 8) (n := 0) 0 rfl rfl (fm_dec dtX11_page 6 rfl) ?_
  refine fm_getI (k := 0) (j := 1) (ci := 11) (pc := 9) fl_X11_104 (by decide) rfl (by decide) rfl (fm_dec dtX11_page 7 rfl) ?_
  refine fm_invS3 (d' := 0) (pc := 12) cs_X11_135 (Nat.le_of_ble_eq_true rfl) (by decide) (fm_dec dtX11_page 8 rfl) ?_
  refine d_in hst _ _ _ (fun hi12 => ?_) (fun hn12 => ?_)
  · refine fm_then1 ?_
    refine fm_if_eq (pc := 15) 24 (by decide) (fm_dec dtX11_page 9 rfl) (fun hc15 => by exfalso; revert hc15; decide) (fun _ => ?_)
    refine fm_iloadn (pc := 18) (n := 1) 1 rfl rfl (fm_dec dtX11_page 10 rfl) ?_
    refine fm_bipush (pc := 19) (v := 60) (by decide) (fm_dec dtX11_page 11 rfl) ?_
    refine fm_icmp_le (pc := 21) 28 (by decide) (fm_dec dtX11_page 12 rfl) (fun _ => ?_) (fun hc21 => by exfalso; have h9 := inR_0 (show inR n 0 0 by have h8 := hi12; simpa [fmI, upd, h1] using h8); subst h9; revert hc21; decide)
    refine fm_iconst (pc := 28) (v := 0) (by decide) (fm_dec dtX11_page 15 rfl) ?_
    refine fm_iconst (pc := 29) (v := 1) (by decide) (fm_dec dtX11_page 16 rfl) ?_
    refine fm_iconst (pc := 30) (v := 1) (by decide) (fm_dec dtX11_page 17 rfl) ?_
    refine fm_invV3 (k := 0) (d' := 0) (pc := 31) cv_X11_177 (by decide) rfl (Nat.le_of_ble_eq_true rfl) (by decide) (fm_dec dtX11_page 18 rfl) ?_
    refine d_bad0 hst _ _ (by first | exact h0 | simp [fmI, upd]) ?_
    refine fm_then1 ?_
    refine fm_if_eq (pc := 34) 39 (by decide) (fm_dec dtX11_page 19 rfl) (fun _ => ?_) (fun hc34 => by exfalso; revert hc34; decide)
    have hn0 : inR n 0 0 := (by have h9 := hi12; simpa [fmI, upd, h1] using h9)
    have e0 : n = 0 := inR_0 hn0
    subst e0
    refine fm_aloadn (pc := 39) (n := 0) 0 rfl rfl (fm_dec dtX11_page 22 rfl) ?_
    refine fm_iloadn (pc := 40) (n := 1) 1 rfl rfl (fm_dec dtX11_page 23 rfl) ?_
    refine fm_invV1 (k := 0) (d' := 2) (pc := 41) cv_X11_181 (by decide) rfl (Nat.le_of_ble_eq_true rfl) (by decide) (fm_dec dtX11_page 24 rfl) ?_
    refine d_starts0 hst ?_
    refine fm_then0 ?_
    refine fm_iconst (pc := 44) (v := 0) (by decide) (fm_dec dtX11_page 25 rfl) ?_
    refine fm_istoren (pc := 45) (n := 2) 2 rfl (by decide) rfl (fm_dec dtX11_page 26 rfl) ?_
    dsimp only [List.set_cons_zero, List.set_cons_succ]
    refine fm_iconst (pc := 46) (v := 0) (by decide) (fm_dec dtX11_page 27 rfl) ?_
    refine fm_istoren (pc := 47) (n := 3) 3 rfl (by decide) rfl (fm_dec dtX11_page 28 rfl) ?_
    dsimp only [List.set_cons_zero, List.set_cons_succ]
    refine fm_aloadn (pc := 48) (n := 0) 0 rfl rfl (fm_dec dtX11_page 29 rfl) ?_
    refine fm_getI (k := 0) (j := 5) (ci := 11) (pc := 49) fl_X11_117 (by decide) rfl (by decide) rfl (fm_dec dtX11_page 30 rfl) ?_
    refine fm_if_ne (pc := 52) 161 (by decide) (fm_dec dtX11_page 31 rfl) (fun hc52 => by exfalso; revert hc52; simp [uSt, fmI, upd]) (fun _ => ?_)
    refine fm_aloadn (pc := 55) (n := 0) 0 rfl rfl (fm_dec dtX11_page 32 rfl) ?_
    refine fm_getI (k := 0) (j := 4) (ci := 11) (pc := 56) fl_X11_110 (by decide) rfl (by decide) rfl (fm_dec dtX11_page 33 rfl) ?_
    refine fm_aloadn (pc := 59) (n := 0) 0 rfl rfl (fm_dec dtX11_page 34 rfl) ?_
    refine fm_getI (k := 0) (j := 2) (ci := 11) (pc := 60) fl_X11_107 (by decide) rfl (by decide) rfl (fm_dec dtX11_page 35 rfl) ?_
    refine fm_icmp_ge (pc := 63) 161 (by decide) (fm_dec dtX11_page 36 rfl) (fun _ => ?_) (fun hc63 => by exfalso; revert hc63; simp [uSt, fmI, upd]; try decide)
    refine fm_aloadn (pc := 161) (n := 0) 0 rfl rfl (fm_dec dtX11_page 91 rfl) ?_
    refine fm_getI (k := 0) (j := 5) (ci := 11) (pc := 162) fl_X11_117 (by decide) rfl (by decide) rfl (fm_dec dtX11_page 92 rfl) ?_
    refine fm_if_eq (pc := 165) 173 (by decide) (fm_dec dtX11_page 93 rfl) (fun _ => ?_) (fun hc165 => by exfalso; revert hc165; simp [uSt, fmI, upd])
    refine fm_aloadn (pc := 173) (n := 0) 0 rfl rfl (fm_dec dtX11_page 97 rfl) ?_
    refine fm_iconst (pc := 174) (v := (-1)) (by decide) (fm_dec dtX11_page 98 rfl) ?_
    refine fm_putI (k := 0) (j := 3) (ci := 11) (pc := 175) fl_X11_9 (by decide) rfl (by decide) rfl rfl (fm_dec dtX11_page 99 rfl) ?_
    refine fm_aloadn (pc := 178) (n := 0) 0 rfl rfl (fm_dec dtX11_page 100 rfl) ?_
    refine fm_iloadn (pc := 179) (n := 2) 2 rfl rfl (fm_dec dtX11_page 101 rfl) ?_
    refine fm_putI (k := 0) (j := 31) (ci := 11) (pc := 180) fl_X11_197 (by decide) rfl (by decide) rfl rfl (fm_dec dtX11_page 102 rfl) ?_
    refine fm_aloadn (pc := 183) (n := 0) 0 rfl rfl (fm_dec dtX11_page 103 rfl) ?_
    refine fm_getR (k := 0) (j := 22) (ci := 11) (pc := 184) 23 rfl fl_X11_49 (by decide) rfl (by decide) (by decide) (fm_dec dtX11_page 104 rfl) ?_
    refine fm_aloadn (pc := 187) (n := 0) 0 rfl rfl (fm_dec dtX11_page 105 rfl) ?_
    refine fm_getR (k := 0) (j := 21) (ci := 11) (pc := 188) 22 rfl fl_X11_46 (by decide) rfl (by decide) (by decide) (fm_dec dtX11_page 106 rfl) ?_
    refine fm_iloadn (pc := 191) (n := 2) 2 rfl rfl (fm_dec dtX11_page 107 rfl) ?_
    refine fm_invS3 (d' := 0) (pc := 192) cs_X11_190 (Nat.le_of_ble_eq_true rfl) (by decide) (fm_dec dtX11_page 108 rfl) ?_
    refine d_lays0 hst _ _ _ rfl ?_
    refine fm_then0 ?_
    refine fm_iloadn (pc := 195) (n := 2) 2 rfl rfl (fm_dec dtX11_page 109 rfl) ?_
    exact fm_ireturn (pc := 196) rfl (fm_dec dtX11_page 110 rfl) (hq _ (by simp [uSt, fmI, upd]) hn0)
  · refine fm_then1 ?_
    refine fm_if_eq (pc := 15) 24 (by decide) (fm_dec dtX11_page 9 rfl) (fun _ => ?_) (fun hc15 => by exfalso; revert hc15; decide)
    refine fm_iconst (pc := 24) (v := 1) (by decide) (fm_dec dtX11_page 13 rfl) ?_
    refine fm_goto (pc := 25) 29 (by decide) (fm_dec dtX11_page 14 rfl) ?_
    refine fm_iconst (pc := 29) (v := 1) (by decide) (fm_dec dtX11_page 16 rfl) ?_
    refine fm_iconst (pc := 30) (v := 1) (by decide) (fm_dec dtX11_page 17 rfl) ?_
    refine fm_invV3 (k := 0) (d' := 0) (pc := 31) cv_X11_177 (by decide) rfl (Nat.le_of_ble_eq_true rfl) (by decide) (fm_dec dtX11_page 18 rfl) ?_
    refine d_bad1_1 hst _ (by first | exact h0 | simp [fmI, upd]) (by decide) (fun Mb hb => ?_)
    refine fm_then1 ?_
    refine fm_if_eq (pc := 34) 39 (by decide) (fm_dec dtX11_page 19 rfl) (fun hc34 => by exfalso; revert hc34; decide) (fun _ => ?_)
    refine fm_iconst (pc := 37) (v := 0) (by decide) (fm_dec dtX11_page 20 rfl) ?_
    exact fm_ireturn (pc := 38) rfl (fm_dec dtX11_page 21 rfl) (hx _ _ hb (fun h => hn12 (by simpa [fmI, upd, h1] using h)))

set_option maxRecDepth 20000 in
theorem d_goes0 {l : Launch} {G : fmG} {M : fmM} {Q : fmR → fmM → Prop} (hst : l.stackTraces = false) (t : Int32) (ht : t = 0) (hq : Q (.inl none) M) : fmGood Tm l G 9 qX11_goes [.ref (G.1 0), .int 0, .int t] M Q := by
  refine fmGood_of hst (by decide +kernel) (Nat.le_of_ble_eq_true rfl) ?_
  show fmEv Tm l G 9 qX11_goes 0 [some (.ref (G.1 0)), some (.int 0), some (.int t), none, none] [] M Q
  refine fm_iloadn (pc := 0) (n := 1) 1 rfl rfl (fm_dec dtX11_goes 0 rfl) ?_
  refine fm_istoren (pc := 1) (n := 3) 3 rfl (by decide) rfl (fm_dec dtX11_goes 1 rfl) ?_
  dsimp only [List.set_cons_zero, List.set_cons_succ]
  refine fm_iloadn (pc := 2) (n := 3) 3 rfl rfl (fm_dec dtX11_goes 2 rfl) ?_
  refine fm_iloadn (pc := 3) (n := 2) 2 rfl rfl (fm_dec dtX11_goes 3 rfl) ?_
  refine fm_icmp_ge (pc := 4) 155 (by decide) (fm_dec dtX11_goes 4 rfl) (fun _ => ?_) (fun hc4 => by exfalso; rw [ht] at hc4; revert hc4; decide)
  exact fm_return (pc := 155) rfl (fm_dec dtX11_goes 88 rfl) hq

set_option maxRecDepth 20000 in
theorem m_work {l : Launch} {G : fmG} {M : fmM} {Q : fmR → fmM → Prop} (hst : l.stackTraces = false) (n : Int32) (h1 : M.1 0 1 = 0) (h32 : M.1 0 32 = 0) (hq : ∀ M', M'.1 0 0 = 0 → (inR n 0 0) → Q (.inl (some (.int 0))) M') (hx : ∀ (r9 : Int32) M', M'.1 0 0 = 1 → ¬ (inR n 0 0) → Q (.inl (some (.int r9))) M') : fmGood Tm l G 10 qX11_work [.ref (G.1 0), .int n] M Q := by
  refine fmGood_of hst (by decide +kernel) (Nat.le_of_ble_eq_true rfl) ?_
  show fmEv Tm l G 10 qX11_work 0 [some (.ref (G.1 0)), some (.int n)] [] M Q
  refine fm_aloadn (pc := 0) (n := 0) 0 rfl rfl (fm_dec dtX11_work 0 rfl) ?_
  refine fm_iconst (pc := 1) (v := 0) (by decide) (fm_dec dtX11_work 1 rfl) ?_
  refine fm_putI (k := 0) (j := 0) (ci := 11) (pc := 2) fl_X11_101 (by decide) rfl (by decide) rfl rfl (fm_dec dtX11_work 2 rfl) ?_
  refine fm_aloadn (pc := 5) (n := 0) 0 rfl rfl (fm_dec dtX11_work 3 rfl) ?_
  refine fm_iloadn (pc := 6) (n := 1) 1 rfl rfl (fm_dec dtX11_work 4 rfl) ?_
  refine fm_iconst (pc := 7) (v := 0) (by decide) (fm_dec dtX11_work 5 rfl) ?_
  refine fm_aloadn (pc := 8) (n := 0) 0 rfl rfl (fm_dec dtX11_work 6 rfl) ?_
  refine fm_getI (k := 0) (j := 1) (ci := 11) (pc := 9) fl_X11_104 (by decide) rfl (by decide) rfl (fm_dec dtX11_work 7 rfl) ?_
  refine fm_invS3 (d' := 0) (pc := 12) cs_X11_135 (Nat.le_of_ble_eq_true rfl) (by decide) (fm_dec dtX11_work 8 rfl) ?_
  refine d_in hst _ _ _ (fun hi12 => ?_) (fun hn12 => ?_)
  · refine fm_then1 ?_
    refine fm_if_eq (pc := 15) 25 (by decide) (fm_dec dtX11_work 9 rfl) (fun hc15 => by exfalso; revert hc15; decide) (fun _ => ?_)
    refine fm_iloadn (pc := 18) (n := 1) 1 rfl rfl (fm_dec dtX11_work 10 rfl) ?_
    refine fm_sipush (pc := 19) (v := 150) (by decide) (fm_dec dtX11_work 11 rfl) ?_
    refine fm_icmp_le (pc := 22) 29 (by decide) (fm_dec dtX11_work 12 rfl) (fun _ => ?_) (fun hc22 => by exfalso; have h9 := inR_0 (show inR n 0 0 by have h8 := hi12; simpa [fmI, upd, h1] using h8); subst h9; revert hc22; decide)
    refine fm_iconst (pc := 29) (v := 0) (by decide) (fm_dec dtX11_work 15 rfl) ?_
    refine fm_iconst (pc := 30) (v := 1) (by decide) (fm_dec dtX11_work 16 rfl) ?_
    refine fm_iconst (pc := 31) (v := 1) (by decide) (fm_dec dtX11_work 17 rfl) ?_
    refine fm_invV3 (k := 0) (d' := 0) (pc := 32) cv_X11_177 (by decide) rfl (Nat.le_of_ble_eq_true rfl) (by decide) (fm_dec dtX11_work 18 rfl) ?_
    refine d_bad0 hst _ _ (by first | exact h0 | simp [fmI, upd]) ?_
    refine fm_then1 ?_
    refine fm_if_eq (pc := 35) 40 (by decide) (fm_dec dtX11_work 19 rfl) (fun _ => ?_) (fun hc35 => by exfalso; revert hc35; decide)
    have hn0 : inR n 0 0 := (by have h9 := hi12; simpa [fmI, upd, h1] using h9)
    have e0 : n = 0 := inR_0 hn0
    subst e0
    refine fm_aloadn (pc := 40) (n := 0) 0 rfl rfl (fm_dec dtX11_work 22 rfl) ?_
    refine fm_getI (k := 0) (j := 32) (ci := 11) (pc := 41) fl_X11_200 (by decide) rfl (by decide) rfl (fm_dec dtX11_work 23 rfl) ?_
    refine fm_bipush (pc := 44) (v := 16) (by decide) (fm_dec dtX11_work 24 rfl) ?_
    refine fm_icmp_ne (pc := 46) 62 (by decide) (fm_dec dtX11_work 25 rfl) (fun _ => ?_) (fun hc46 => by exfalso; revert hc46; simp [fmI, upd, h32])
    refine fm_aloadn (pc := 62) (n := 0) 0 rfl rfl (fm_dec dtX11_work 34 rfl) ?_
    refine fm_iloadn (pc := 63) (n := 1) 1 rfl rfl (fm_dec dtX11_work 35 rfl) ?_
    refine fm_invV1 (k := 0) (d' := 2) (pc := 64) cv_X11_181 (by decide) rfl (Nat.le_of_ble_eq_true rfl) (by decide) (fm_dec dtX11_work 36 rfl) ?_
    refine d_starts0 hst ?_
    refine fm_then0 ?_
    refine fm_aloadn (pc := 67) (n := 0) 0 rfl rfl (fm_dec dtX11_work 37 rfl) ?_
    refine fm_iconst (pc := 68) (v := 0) (by decide) (fm_dec dtX11_work 38 rfl) ?_
    refine fm_putI (k := 0) (j := 26) (ci := 11) (pc := 69) fl_X11_250 (by decide) rfl (by decide) rfl rfl (fm_dec dtX11_work 39 rfl) ?_
    refine fm_aloadn (pc := 72) (n := 0) 0 rfl rfl (fm_dec dtX11_work 40 rfl) ?_
    refine fm_getI (k := 0) (j := 5) (ci := 11) (pc := 73) fl_X11_117 (by decide) rfl (by decide) rfl (fm_dec dtX11_work 41 rfl) ?_
    refine fm_if_ne (pc := 76) 101 (by decide) (fm_dec dtX11_work 42 rfl) (fun hc76 => by exfalso; revert hc76; simp [uSt, fmI, upd]) (fun _ => ?_)
    refine fm_aloadn (pc := 79) (n := 0) 0 rfl rfl (fm_dec dtX11_work 43 rfl) ?_
    refine fm_getI (k := 0) (j := 4) (ci := 11) (pc := 80) fl_X11_110 (by decide) rfl (by decide) rfl (fm_dec dtX11_work 44 rfl) ?_
    refine fm_aloadn (pc := 83) (n := 0) 0 rfl rfl (fm_dec dtX11_work 45 rfl) ?_
    refine fm_getI (k := 0) (j := 2) (ci := 11) (pc := 84) fl_X11_107 (by decide) rfl (by decide) rfl (fm_dec dtX11_work 46 rfl) ?_
    refine fm_icmp_ge (pc := 87) 101 (by decide) (fm_dec dtX11_work 47 rfl) (fun _ => ?_) (fun hc87 => by exfalso; revert hc87; simp [uSt, fmI, upd]; try decide)
    refine fm_aloadn (pc := 101) (n := 0) 0 rfl rfl (fm_dec dtX11_work 53 rfl) ?_
    refine fm_getI (k := 0) (j := 5) (ci := 11) (pc := 102) fl_X11_117 (by decide) rfl (by decide) rfl (fm_dec dtX11_work 54 rfl) ?_
    refine fm_if_eq (pc := 105) 113 (by decide) (fm_dec dtX11_work 55 rfl) (fun _ => ?_) (fun hc105 => by exfalso; revert hc105; simp [uSt, fmI, upd])
    refine fm_aloadn (pc := 113) (n := 0) 0 rfl rfl (fm_dec dtX11_work 59 rfl) ?_
    refine fm_iconst (pc := 114) (v := (-1)) (by decide) (fm_dec dtX11_work 60 rfl) ?_
    refine fm_putI (k := 0) (j := 3) (ci := 11) (pc := 115) fl_X11_9 (by decide) rfl (by decide) rfl rfl (fm_dec dtX11_work 61 rfl) ?_
    refine fm_aloadn (pc := 118) (n := 0) 0 rfl rfl (fm_dec dtX11_work 62 rfl) ?_
    refine fm_getR (k := 0) (j := 27) (ci := 11) (pc := 119) 7 rfl fl_X11_61 (by decide) rfl (by decide) (by decide) (fm_dec dtX11_work 63 rfl) ?_
    refine fm_aloadn (pc := 122) (n := 0) 0 rfl rfl (fm_dec dtX11_work 64 rfl) ?_
    refine fm_getR (k := 0) (j := 29) (ci := 11) (pc := 123) 25 rfl fl_X11_67 (by decide) rfl (by decide) (by decide) (fm_dec dtX11_work 65 rfl) ?_
    refine fm_aloadn (pc := 126) (n := 0) 0 rfl rfl (fm_dec dtX11_work 66 rfl) ?_
    refine fm_getI (k := 0) (j := 32) (ci := 11) (pc := 127) fl_X11_200 (by decide) rfl (by decide) rfl (fm_dec dtX11_work 67 rfl) ?_
    refine fm_aald (k := 25) (n := 16) (kd := 5) (r := 503) (pc := 130) (by decide) rfl (Or.inr (Or.inr ⟨rfl, rfl⟩)) rfl (by simp [uSt, fmI, upd, h32]; exact fm_inl (by decide)) (by simp [uSt, fmI, upd, h32]; rfl) (fm_dec dtX11_work 68 rfl) ?_
    refine fm_invS2 (d' := 0) (pc := 131) cs_X11_323 (Nat.le_of_ble_eq_true rfl) (by decide) (fm_dec dtX11_work 69 rfl) ?_
    refine d_copies_503_7 hst (fun M131 f131 g131 s131 => ?_)
    refine fm_then0 ?_
    refine fm_aloadn (pc := 134) (n := 0) 0 rfl rfl (fm_dec dtX11_work 70 rfl) ?_
    refine fm_dup (pc := 135) rfl (fm_dec dtX11_work 71 rfl) ?_
    refine fm_getI (k := 0) (j := 32) (ci := 11) (pc := 136) fl_X11_200 (by decide) rfl (by decide) rfl (fm_dec dtX11_work 72 rfl) ?_
    refine fm_iconst (pc := 139) (v := 1) (by decide) (fm_dec dtX11_work 73 rfl) ?_
    refine fm_iadd (pc := 140) (fm_dec dtX11_work 74 rfl) ?_
    refine fm_putI (k := 0) (j := 32) (ci := 11) (pc := 141) fl_X11_200 (by decide) rfl (by decide) rfl rfl (fm_dec dtX11_work 75 rfl) ?_
    refine fm_aloadn (pc := 144) (n := 0) 0 rfl rfl (fm_dec dtX11_work 76 rfl) ?_
    refine fm_iconst (pc := 145) (v := 0) (by decide) (fm_dec dtX11_work 77 rfl) ?_
    refine fm_putI (k := 0) (j := 36) (ci := 11) (pc := 146) fl_X11_310 (by decide) rfl (by decide) rfl rfl (fm_dec dtX11_work 78 rfl) ?_
    refine fm_aloadn (pc := 149) (n := 0) 0 rfl rfl (fm_dec dtX11_work 79 rfl) ?_
    refine fm_iconst (pc := 150) (v := 0) (by decide) (fm_dec dtX11_work 80 rfl) ?_
    refine fm_putI (k := 0) (j := 37) (ci := 11) (pc := 151) fl_X11_320 (by decide) rfl (by decide) rfl rfl (fm_dec dtX11_work 81 rfl) ?_
    refine fm_aloadn (pc := 154) (n := 0) 0 rfl rfl (fm_dec dtX11_work 82 rfl) ?_
    refine fm_iconst (pc := 155) (v := 0) (by decide) (fm_dec dtX11_work 83 rfl) ?_
    refine fm_putI (k := 0) (j := 33) (ci := 11) (pc := 156) fl_X11_203 (by decide) rfl (by decide) rfl rfl (fm_dec dtX11_work 84 rfl) ?_
    refine fm_aloadn (pc := 159) (n := 0) 0 rfl rfl (fm_dec dtX11_work 85 rfl) ?_
    refine fm_iconst (pc := 160) (v := 0) (by decide) (fm_dec dtX11_work 86 rfl) ?_
    refine fm_aloadn (pc := 161) (n := 0) 0 rfl rfl (fm_dec dtX11_work 87 rfl) ?_
    refine fm_getI (k := 0) (j := 26) (ci := 11) (pc := 162) fl_X11_250 (by decide) rfl (by decide) rfl (fm_dec dtX11_work 88 rfl) ?_
    refine fm_invV2 (k := 0) (d' := 9) (pc := 165) cv_X11_313 (by decide) rfl (Nat.le_of_ble_eq_true rfl) (by decide) (fm_dec dtX11_work 89 rfl) ?_
    refine d_goes0 hst _ (by simp [fmI, upd, f131]) ?_
    refine fm_then0 ?_
    refine fm_aloadn (pc := 168) (n := 0) 0 rfl rfl (fm_dec dtX11_work 90 rfl) ?_
    refine fm_getI (k := 0) (j := 37) (ci := 11) (pc := 169) fl_X11_320 (by decide) rfl (by decide) rfl (fm_dec dtX11_work 91 rfl) ?_
    exact fm_ireturn (pc := 172) rfl (fm_dec dtX11_work 92 rfl) (by have e : ∀ M9 : fmM, (fmI (fmI (fmI M9 0 36 0) 0 37 0) 0 33 0).1 0 37 = 0 := (fun M9 => by simp [fmI, upd]); rw [e]; exact hq _ (by simp [uSt, fmI, upd, f131]) hn0)
  · refine fm_then1 ?_
    refine fm_if_eq (pc := 15) 25 (by decide) (fm_dec dtX11_work 9 rfl) (fun _ => ?_) (fun hc15 => by exfalso; revert hc15; decide)
    refine fm_iconst (pc := 25) (v := 1) (by decide) (fm_dec dtX11_work 13 rfl) ?_
    refine fm_goto (pc := 26) 30 (by decide) (fm_dec dtX11_work 14 rfl) ?_
    refine fm_iconst (pc := 30) (v := 1) (by decide) (fm_dec dtX11_work 16 rfl) ?_
    refine fm_iconst (pc := 31) (v := 1) (by decide) (fm_dec dtX11_work 17 rfl) ?_
    refine fm_invV3 (k := 0) (d' := 0) (pc := 32) cv_X11_177 (by decide) rfl (Nat.le_of_ble_eq_true rfl) (by decide) (fm_dec dtX11_work 18 rfl) ?_
    refine d_bad1_1 hst _ (by first | exact h0 | simp [fmI, upd]) (by decide) (fun Mb hb => ?_)
    refine fm_then1 ?_
    refine fm_if_eq (pc := 35) 40 (by decide) (fm_dec dtX11_work 19 rfl) (fun hc35 => by exfalso; revert hc35; decide) (fun _ => ?_)
    refine fm_iconst (pc := 38) (v := 0) (by decide) (fm_dec dtX11_work 20 rfl) ?_
    exact fm_ireturn (pc := 39) rfl (fm_dec dtX11_work 21 rfl) (hx _ _ hb (fun h => hn12 (by simpa [fmI, upd, h1] using h)))

def fiveE (a b c d e : Int32) : Int32 :=
  let v := 27 * a + b
  let v := if c = 0 then v else 27 * v + c
  let v := if d = 0 then v else 27 * v + d
  if e = 0 then v else 27 * v + e

set_option maxRecDepth 20000 in
theorem d_five {l : Launch} {G : fmG} {M : fmM} {Q : fmR → fmM → Prop} (hst : l.stackTraces = false) (a b c d e : Int32) (hq : Q (.inl (some (.int (fiveE a b c d e)))) M) : fmGood Tm l G 0 qX11_five [.int a, .int b, .int c, .int d, .int e] M Q := by
  refine fmGood_of hst (by decide +kernel) (Nat.le_of_ble_eq_true rfl) ?_
  show fmEv Tm l G 0 qX11_five 0 [some (.int a), some (.int b), some (.int c), some (.int d), some (.int e), none] [] M Q
  refine fm_bipush (pc := 0) (v := 27) (by decide) (fm_dec dtX11_five 0 rfl) ?_
  refine fm_iloadn (pc := 2) (n := 0) 0 rfl rfl (fm_dec dtX11_five 1 rfl) ?_
  refine fm_imul (pc := 3) (fm_dec dtX11_five 2 rfl) ?_
  refine fm_iloadn (pc := 4) (n := 1) 1 rfl rfl (fm_dec dtX11_five 3 rfl) ?_
  refine fm_iadd (pc := 5) (fm_dec dtX11_five 4 rfl) ?_
  refine fm_istore (pc := 6) (i := 5) (by decide) rfl (fm_dec dtX11_five 5 rfl) ?_
  dsimp only [List.set_cons_zero, List.set_cons_succ]
  refine fm_iloadn (pc := 8) (n := 2) 2 rfl rfl (fm_dec dtX11_five 6 rfl) ?_
  refine fm_if_ne (pc := 9) 17 (by decide) (fm_dec dtX11_five 7 rfl) (fun hc9 => ?_) (fun hc9 => ?_)
  · refine fm_bipush (pc := 17) (v := 27) (by decide) (fm_dec dtX11_five 10 rfl) ?_
    refine fm_iload (pc := 19) (i := 5) rfl (fm_dec dtX11_five 11 rfl) ?_
    refine fm_imul (pc := 21) (fm_dec dtX11_five 12 rfl) ?_
    refine fm_iloadn (pc := 22) (n := 2) 2 rfl rfl (fm_dec dtX11_five 13 rfl) ?_
    refine fm_iadd (pc := 23) (fm_dec dtX11_five 14 rfl) ?_
    refine fm_istore (pc := 24) (i := 5) (by decide) rfl (fm_dec dtX11_five 15 rfl) ?_
    dsimp only [List.set_cons_zero, List.set_cons_succ]
    refine fm_iloadn (pc := 26) (n := 3) 3 rfl rfl (fm_dec dtX11_five 16 rfl) ?_
    refine fm_if_ne (pc := 27) 35 (by decide) (fm_dec dtX11_five 17 rfl) (fun hc27 => ?_) (fun hc27 => ?_)
    · refine fm_bipush (pc := 35) (v := 27) (by decide) (fm_dec dtX11_five 20 rfl) ?_
      refine fm_iload (pc := 37) (i := 5) rfl (fm_dec dtX11_five 21 rfl) ?_
      refine fm_imul (pc := 39) (fm_dec dtX11_five 22 rfl) ?_
      refine fm_iloadn (pc := 40) (n := 3) 3 rfl rfl (fm_dec dtX11_five 23 rfl) ?_
      refine fm_iadd (pc := 41) (fm_dec dtX11_five 24 rfl) ?_
      refine fm_istore (pc := 42) (i := 5) (by decide) rfl (fm_dec dtX11_five 25 rfl) ?_
      dsimp only [List.set_cons_zero, List.set_cons_succ]
      refine fm_iload (pc := 44) (i := 4) rfl (fm_dec dtX11_five 26 rfl) ?_
      refine fm_if_ne (pc := 46) 54 (by decide) (fm_dec dtX11_five 27 rfl) (fun hc46 => ?_) (fun hc46 => ?_)
      · refine fm_bipush (pc := 54) (v := 27) (by decide) (fm_dec dtX11_five 30 rfl) ?_
        refine fm_iload (pc := 56) (i := 5) rfl (fm_dec dtX11_five 31 rfl) ?_
        refine fm_imul (pc := 58) (fm_dec dtX11_five 32 rfl) ?_
        refine fm_iload (pc := 59) (i := 4) rfl (fm_dec dtX11_five 33 rfl) ?_
        refine fm_iadd (pc := 61) (fm_dec dtX11_five 34 rfl) ?_
        exact fm_ireturn (pc := 62) rfl (fm_dec dtX11_five 35 rfl) (by have h := hq; simp only [fiveE] at h; simpa [hc9, hc27, hc46] using h)
      · refine fm_iload (pc := 49) (i := 5) rfl (fm_dec dtX11_five 28 rfl) ?_
        refine fm_goto (pc := 51) 62 (by decide) (fm_dec dtX11_five 29 rfl) ?_
        exact fm_ireturn (pc := 62) rfl (fm_dec dtX11_five 35 rfl) (by have h := hq; simp only [fiveE] at h; simpa [hc9, hc27, hc46] using h)
    · refine fm_iload (pc := 30) (i := 5) rfl (fm_dec dtX11_five 18 rfl) ?_
      refine fm_goto (pc := 32) 42 (by decide) (fm_dec dtX11_five 19 rfl) ?_
      refine fm_istore (pc := 42) (i := 5) (by decide) rfl (fm_dec dtX11_five 25 rfl) ?_
      dsimp only [List.set_cons_zero, List.set_cons_succ]
      refine fm_iload (pc := 44) (i := 4) rfl (fm_dec dtX11_five 26 rfl) ?_
      refine fm_if_ne (pc := 46) 54 (by decide) (fm_dec dtX11_five 27 rfl) (fun hc46 => ?_) (fun hc46 => ?_)
      · refine fm_bipush (pc := 54) (v := 27) (by decide) (fm_dec dtX11_five 30 rfl) ?_
        refine fm_iload (pc := 56) (i := 5) rfl (fm_dec dtX11_five 31 rfl) ?_
        refine fm_imul (pc := 58) (fm_dec dtX11_five 32 rfl) ?_
        refine fm_iload (pc := 59) (i := 4) rfl (fm_dec dtX11_five 33 rfl) ?_
        refine fm_iadd (pc := 61) (fm_dec dtX11_five 34 rfl) ?_
        exact fm_ireturn (pc := 62) rfl (fm_dec dtX11_five 35 rfl) (by have h := hq; simp only [fiveE] at h; simpa [hc9, hc27, hc46] using h)
      · refine fm_iload (pc := 49) (i := 5) rfl (fm_dec dtX11_five 28 rfl) ?_
        refine fm_goto (pc := 51) 62 (by decide) (fm_dec dtX11_five 29 rfl) ?_
        exact fm_ireturn (pc := 62) rfl (fm_dec dtX11_five 35 rfl) (by have h := hq; simp only [fiveE] at h; simpa [hc9, hc27, hc46] using h)
  · refine fm_iload (pc := 12) (i := 5) rfl (fm_dec dtX11_five 8 rfl) ?_
    refine fm_goto (pc := 14) 24 (by decide) (fm_dec dtX11_five 9 rfl) ?_
    refine fm_istore (pc := 24) (i := 5) (by decide) rfl (fm_dec dtX11_five 15 rfl) ?_
    dsimp only [List.set_cons_zero, List.set_cons_succ]
    refine fm_iloadn (pc := 26) (n := 3) 3 rfl rfl (fm_dec dtX11_five 16 rfl) ?_
    refine fm_if_ne (pc := 27) 35 (by decide) (fm_dec dtX11_five 17 rfl) (fun hc27 => ?_) (fun hc27 => ?_)
    · refine fm_bipush (pc := 35) (v := 27) (by decide) (fm_dec dtX11_five 20 rfl) ?_
      refine fm_iload (pc := 37) (i := 5) rfl (fm_dec dtX11_five 21 rfl) ?_
      refine fm_imul (pc := 39) (fm_dec dtX11_five 22 rfl) ?_
      refine fm_iloadn (pc := 40) (n := 3) 3 rfl rfl (fm_dec dtX11_five 23 rfl) ?_
      refine fm_iadd (pc := 41) (fm_dec dtX11_five 24 rfl) ?_
      refine fm_istore (pc := 42) (i := 5) (by decide) rfl (fm_dec dtX11_five 25 rfl) ?_
      dsimp only [List.set_cons_zero, List.set_cons_succ]
      refine fm_iload (pc := 44) (i := 4) rfl (fm_dec dtX11_five 26 rfl) ?_
      refine fm_if_ne (pc := 46) 54 (by decide) (fm_dec dtX11_five 27 rfl) (fun hc46 => ?_) (fun hc46 => ?_)
      · refine fm_bipush (pc := 54) (v := 27) (by decide) (fm_dec dtX11_five 30 rfl) ?_
        refine fm_iload (pc := 56) (i := 5) rfl (fm_dec dtX11_five 31 rfl) ?_
        refine fm_imul (pc := 58) (fm_dec dtX11_five 32 rfl) ?_
        refine fm_iload (pc := 59) (i := 4) rfl (fm_dec dtX11_five 33 rfl) ?_
        refine fm_iadd (pc := 61) (fm_dec dtX11_five 34 rfl) ?_
        exact fm_ireturn (pc := 62) rfl (fm_dec dtX11_five 35 rfl) (by have h := hq; simp only [fiveE] at h; simpa [hc9, hc27, hc46] using h)
      · refine fm_iload (pc := 49) (i := 5) rfl (fm_dec dtX11_five 28 rfl) ?_
        refine fm_goto (pc := 51) 62 (by decide) (fm_dec dtX11_five 29 rfl) ?_
        exact fm_ireturn (pc := 62) rfl (fm_dec dtX11_five 35 rfl) (by have h := hq; simp only [fiveE] at h; simpa [hc9, hc27, hc46] using h)
    · refine fm_iload (pc := 30) (i := 5) rfl (fm_dec dtX11_five 18 rfl) ?_
      refine fm_goto (pc := 32) 42 (by decide) (fm_dec dtX11_five 19 rfl) ?_
      refine fm_istore (pc := 42) (i := 5) (by decide) rfl (fm_dec dtX11_five 25 rfl) ?_
      dsimp only [List.set_cons_zero, List.set_cons_succ]
      refine fm_iload (pc := 44) (i := 4) rfl (fm_dec dtX11_five 26 rfl) ?_
      refine fm_if_ne (pc := 46) 54 (by decide) (fm_dec dtX11_five 27 rfl) (fun hc46 => ?_) (fun hc46 => ?_)
      · refine fm_bipush (pc := 54) (v := 27) (by decide) (fm_dec dtX11_five 30 rfl) ?_
        refine fm_iload (pc := 56) (i := 5) rfl (fm_dec dtX11_five 31 rfl) ?_
        refine fm_imul (pc := 58) (fm_dec dtX11_five 32 rfl) ?_
        refine fm_iload (pc := 59) (i := 4) rfl (fm_dec dtX11_five 33 rfl) ?_
        refine fm_iadd (pc := 61) (fm_dec dtX11_five 34 rfl) ?_
        exact fm_ireturn (pc := 62) rfl (fm_dec dtX11_five 35 rfl) (by have h := hq; simp only [fiveE] at h; simpa [hc9, hc27, hc46] using h)
      · refine fm_iload (pc := 49) (i := 5) rfl (fm_dec dtX11_five 28 rfl) ?_
        refine fm_goto (pc := 51) 62 (by decide) (fm_dec dtX11_five 29 rfl) ?_
        exact fm_ireturn (pc := 62) rfl (fm_dec dtX11_five 35 rfl) (by have h := hq; simp only [fiveE] at h; simpa [hc9, hc27, hc46] using h)

set_option maxRecDepth 20000 in
theorem d_isSmall {l : Launch} {G : fmG} {M : fmM} {Q : fmR → fmM → Prop} (hst : l.stackTraces = false)  (hq : Q (.inl (some (.int 0))) M) : fmGood Tm l G 0 qX11_isSmall [.int (-1)] M Q := by
  refine fmGood_of hst (by decide +kernel) (Nat.le_of_ble_eq_true rfl) ?_
  show fmEv Tm l G 0 qX11_isSmall 0 [some (.int (-1))] [] M Q
  refine fm_iloadn (pc := 0) (n := 0) 0 rfl rfl (fm_dec dtX11_isSmall 0 rfl) ?_
  refine fm_bipush (pc := 1) (v := 97) (by decide) (fm_dec dtX11_isSmall 1 rfl) ?_
  refine fm_icmp_lt (pc := 3) 16 (by decide) (fm_dec dtX11_isSmall 2 rfl) (fun _ => ?_) (fun hc3 => by exfalso; revert hc3; decide)
  refine fm_iconst (pc := 16) (v := 0) (by decide) (fm_dec dtX11_isSmall 8 rfl) ?_
  exact fm_zreturn (pc := 17) rfl rfl (fm_dec dtX11_isSmall 9 rfl) hq

set_option maxRecDepth 20000 in
theorem d_isDigit {l : Launch} {G : fmG} {M : fmM} {Q : fmR → fmM → Prop} (hst : l.stackTraces = false)  (hq : Q (.inl (some (.int 0))) M) : fmGood Tm l G 0 qX11_isDigit [.int (-1)] M Q := by
  refine fmGood_of hst (by decide +kernel) (Nat.le_of_ble_eq_true rfl) ?_
  show fmEv Tm l G 0 qX11_isDigit 0 [some (.int (-1))] [] M Q
  refine fm_iloadn (pc := 0) (n := 0) 0 rfl rfl (fm_dec dtX11_isDigit 0 rfl) ?_
  refine fm_bipush (pc := 1) (v := 48) (by decide) (fm_dec dtX11_isDigit 1 rfl) ?_
  refine fm_icmp_lt (pc := 3) 16 (by decide) (fm_dec dtX11_isDigit 2 rfl) (fun _ => ?_) (fun hc3 => by exfalso; revert hc3; decide)
  refine fm_iconst (pc := 16) (v := 0) (by decide) (fm_dec dtX11_isDigit 8 rfl) ?_
  exact fm_zreturn (pc := 17) rfl rfl (fm_dec dtX11_isDigit 9 rfl) hq

set_option maxRecDepth 20000 in
theorem d_wordHere0 {l : Launch} {G : fmG} {M : fmM} {Q : fmR → fmM → Prop} (hst : l.stackTraces = false)  (h2 : M.1 0 2 = 0) (h4 : M.1 0 4 = 0) (hq : Q (.inl (some (.int 0))) M) : fmGood Tm l G 2 qX11_wordHere [.ref (G.1 0)] M Q := by
  refine fmGood_of hst (by decide +kernel) (Nat.le_of_ble_eq_true rfl) ?_
  show fmEv Tm l G 2 qX11_wordHere 0 [some (.ref (G.1 0)), none, none] [] M Q
  refine fm_aloadn (pc := 0) (n := 0) 0 rfl rfl (fm_dec dtX11_wordHere 0 rfl) ?_
  refine fm_invV0 (k := 0) (d' := 1) (pc := 1) cv_X11_123 (by decide) rfl (Nat.le_of_ble_eq_true rfl) (by decide) (fm_dec dtX11_wordHere 1 rfl) ?_
  refine d_blanks0 hst (by first | exact h2 | simp [fmI, upd, uSt, h2]) (by first | exact h4 | simp [fmI, upd, uSt, h4]) ?_
  refine fm_then0 ?_
  refine fm_iconst (pc := 4) (v := 0) (by decide) (fm_dec dtX11_wordHere 2 rfl) ?_
  refine fm_istoren (pc := 5) (n := 1) 1 rfl (by decide) rfl (fm_dec dtX11_wordHere 3 rfl) ?_
  dsimp only [List.set_cons_zero, List.set_cons_succ]
  refine fm_iconst (pc := 6) (v := 0) (by decide) (fm_dec dtX11_wordHere 4 rfl) ?_
  refine fm_istoren (pc := 7) (n := 2) 2 rfl (by decide) rfl (fm_dec dtX11_wordHere 5 rfl) ?_
  dsimp only [List.set_cons_zero, List.set_cons_succ]
  refine fm_aloadn (pc := 8) (n := 0) 0 rfl rfl (fm_dec dtX11_wordHere 6 rfl) ?_
  refine fm_aloadn (pc := 9) (n := 0) 0 rfl rfl (fm_dec dtX11_wordHere 7 rfl) ?_
  refine fm_getI (k := 0) (j := 4) (ci := 11) (pc := 10) fl_X11_110 (by decide) rfl (by decide) rfl (fm_dec dtX11_wordHere 8 rfl) ?_
  refine fm_iloadn (pc := 13) (n := 2) 2 rfl rfl (fm_dec dtX11_wordHere 9 rfl) ?_
  refine fm_iadd (pc := 14) (fm_dec dtX11_wordHere 10 rfl) ?_
  refine fm_invV1 (k := 0) (d' := 0) (pc := 15) cv_X11_113 (by decide) rfl (Nat.le_of_ble_eq_true rfl) (by decide) (fm_dec dtX11_wordHere 11 rfl) ?_
  refine d_byteAt0 hst _ (by first | exact h2 | simp [fmI, upd, uSt, h2]) (by simp [fmI, upd, uSt, h4]) ?_
  refine fm_then1 ?_
  refine fm_invS1 (d' := 0) (pc := 18) cs_X11_139 (Nat.le_of_ble_eq_true rfl) (by decide) (fm_dec dtX11_wordHere 12 rfl) ?_
  refine d_isSmall hst ?_
  refine fm_then1 ?_
  refine fm_if_eq (pc := 21) 60 (by decide) (fm_dec dtX11_wordHere 13 rfl) (fun _ => ?_) (fun hc21 => by exfalso; revert hc21; decide)
  refine fm_iloadn (pc := 60) (n := 2) 2 rfl rfl (fm_dec dtX11_wordHere 36 rfl) ?_
  refine fm_iconst (pc := 61) (v := 5) (by decide) (fm_dec dtX11_wordHere 37 rfl) ?_
  refine fm_icmp_le (pc := 62) 69 (by decide) (fm_dec dtX11_wordHere 38 rfl) (fun _ => ?_) (fun hc62 => by exfalso; revert hc62; decide)
  refine fm_iloadn (pc := 69) (n := 1) 1 rfl rfl (fm_dec dtX11_wordHere 41 rfl) ?_
  exact fm_ireturn (pc := 70) rfl (fm_dec dtX11_wordHere 42 rfl) hq

set_option maxRecDepth 20000 in
theorem d_isWord0 {l : Launch} {G : fmG} {M : fmM} {Q : fmR → fmM → Prop} (hst : l.stackTraces = false) (a b c d e : Int32) (h2 : M.1 0 2 = 0) (h4 : M.1 0 4 = 0) (h5 : M.1 0 5 = 0) (hf : fiveE a b c d e ≠ 0) (hq : Q (.inl (some (.int 0))) M) : fmGood Tm l G 3 qX11_isWord [.ref (G.1 0), .int a, .int b, .int c, .int d, .int e] M Q := by
  refine fmGood_of hst (by decide +kernel) (Nat.le_of_ble_eq_true rfl) ?_
  show fmEv Tm l G 3 qX11_isWord 0 [some (.ref (G.1 0)), some (.int a), some (.int b), some (.int c), some (.int d), some (.int e)] [] M Q
  refine fm_aloadn (pc := 0) (n := 0) 0 rfl rfl (fm_dec dtX11_isWord 0 rfl) ?_
  refine fm_getI (k := 0) (j := 5) (ci := 11) (pc := 1) fl_X11_117 (by decide) rfl (by decide) rfl (fm_dec dtX11_isWord 1 rfl) ?_
  refine fm_if_ne (pc := 4) 28 (by decide) (fm_dec dtX11_isWord 2 rfl) (fun hc4 => by exfalso; exact hc4 h5) (fun _ => ?_)
  refine fm_aloadn (pc := 7) (n := 0) 0 rfl rfl (fm_dec dtX11_isWord 3 rfl) ?_
  refine fm_invV0 (k := 0) (d' := 2) (pc := 8) cv_X11_142 (by decide) rfl (Nat.le_of_ble_eq_true rfl) (by decide) (fm_dec dtX11_isWord 4 rfl) ?_
  refine d_wordHere0 hst (by first | exact h2 | simp [fmI, upd, uSt, h2]) (by first | exact h4 | simp [fmI, upd, uSt, h4]) ?_
  refine fm_then1 ?_
  refine fm_iloadn (pc := 11) (n := 1) 1 rfl rfl (fm_dec dtX11_isWord 5 rfl) ?_
  refine fm_iloadn (pc := 12) (n := 2) 2 rfl rfl (fm_dec dtX11_isWord 6 rfl) ?_
  refine fm_iloadn (pc := 13) (n := 3) 3 rfl rfl (fm_dec dtX11_isWord 7 rfl) ?_
  refine fm_iload (pc := 14) (i := 4) rfl (fm_dec dtX11_isWord 8 rfl) ?_
  refine fm_iload (pc := 16) (i := 5) rfl (fm_dec dtX11_isWord 9 rfl) ?_
  refine fm_invS5 (d' := 0) (pc := 18) cs_X11_146 (Nat.le_of_ble_eq_true rfl) (by decide) (fm_dec dtX11_isWord 10 rfl) ?_
  refine d_five hst _ _ _ _ _ ?_
  refine fm_then1 ?_
  refine fm_icmp_ne (pc := 21) 28 (by decide) (fm_dec dtX11_isWord 11 rfl) (fun _ => ?_) (fun hc21 => by exfalso; exact hf hc21.symm)
  refine fm_iconst (pc := 28) (v := 0) (by decide) (fm_dec dtX11_isWord 14 rfl) ?_
  exact fm_zreturn (pc := 29) rfl rfl (fm_dec dtX11_isWord 15 rfl) hq

set_option maxRecDepth 20000 in
theorem d_takes0 {l : Launch} {G : fmG} {M : fmM} {Q : fmR → fmM → Prop} (hst : l.stackTraces = false) (a b c d e : Int32) (h2 : M.1 0 2 = 0) (h4 : M.1 0 4 = 0) (h5 : M.1 0 5 = 0) (hf : fiveE a b c d e ≠ 0) (hq : Q (.inl (some (.int 0))) M) : fmGood Tm l G 4 qX11_takes [.ref (G.1 0), .int a, .int b, .int c, .int d, .int e] M Q := by
  refine fmGood_of hst (by decide +kernel) (Nat.le_of_ble_eq_true rfl) ?_
  show fmEv Tm l G 4 qX11_takes 0 [some (.ref (G.1 0)), some (.int a), some (.int b), some (.int c), some (.int d), some (.int e), none] [] M Q
  refine fm_aloadn (pc := 0) (n := 0) 0 rfl rfl (fm_dec dtX11_takes 0 rfl) ?_
  refine fm_iloadn (pc := 1) (n := 1) 1 rfl rfl (fm_dec dtX11_takes 1 rfl) ?_
  refine fm_iloadn (pc := 2) (n := 2) 2 rfl rfl (fm_dec dtX11_takes 2 rfl) ?_
  refine fm_iloadn (pc := 3) (n := 3) 3 rfl rfl (fm_dec dtX11_takes 3 rfl) ?_
  refine fm_iload (pc := 4) (i := 4) rfl (fm_dec dtX11_takes 4 rfl) ?_
  refine fm_iload (pc := 6) (i := 5) rfl (fm_dec dtX11_takes 5 rfl) ?_
  refine fm_invV5 (k := 0) (d' := 3) (pc := 8) cv_X11_150 (by decide) rfl (Nat.le_of_ble_eq_true rfl) (by decide) (fm_dec dtX11_takes 6 rfl) ?_
  refine d_isWord0 hst _ _ _ _ _ (by first | exact h2 | simp [fmI, upd, uSt, h2]) (by first | exact h4 | simp [fmI, upd, uSt, h4]) (by first | exact h5 | simp [fmI, upd, h5]) (by first | exact hf | decide) ?_
  refine fm_then1 ?_
  refine fm_istore (pc := 11) (i := 6) (by decide) rfl (fm_dec dtX11_takes 7 rfl) ?_
  dsimp only [List.set_cons_zero, List.set_cons_succ]
  refine fm_iload (pc := 13) (i := 6) rfl (fm_dec dtX11_takes 8 rfl) ?_
  refine fm_if_eq (pc := 15) 22 (by decide) (fm_dec dtX11_takes 9 rfl) (fun _ => ?_) (fun hc15 => by exfalso; revert hc15; decide)
  refine fm_iload (pc := 22) (i := 6) rfl (fm_dec dtX11_takes 12 rfl) ?_
  exact fm_zreturn (pc := 24) rfl rfl (fm_dec dtX11_takes 13 rfl) hq

set_option maxRecDepth 20000 in
theorem d_known0 {l : Launch} {G : fmG} {M : fmM} {Q : fmR → fmM → Prop} (hst : l.stackTraces = false)  (h2 : M.1 0 2 = 0) (h4 : M.1 0 4 = 0) (h5 : M.1 0 5 = 0) (hq : Q (.inl (some (.int (-1)))) M) : fmGood Tm l G 5 qX11_knownHere [.ref (G.1 0)] M Q := by
  refine fmGood_of hst (by decide +kernel) (Nat.le_of_ble_eq_true rfl) ?_
  show fmEv Tm l G 5 qX11_knownHere 0 [some (.ref (G.1 0))] [] M Q
  refine fm_aloadn (pc := 0) (n := 0) 0 rfl rfl (fm_dec dtX11_knownHere 0 rfl) ?_
  refine fm_iconst (pc := 1) (v := 1) (by decide) (fm_dec dtX11_knownHere 1 rfl) ?_
  refine fm_bipush (pc := 2) (v := 7) (by decide) (fm_dec dtX11_knownHere 2 rfl) ?_
  refine fm_iconst (pc := 4) (v := 5) (by decide) (fm_dec dtX11_knownHere 3 rfl) ?_
  refine fm_iconst (pc := 5) (v := 0) (by decide) (fm_dec dtX11_knownHere 4 rfl) ?_
  refine fm_iconst (pc := 6) (v := 0) (by decide) (fm_dec dtX11_knownHere 5 rfl) ?_
  refine fm_invV5 (k := 0) (d' := 4) (pc := 7) cv_X11_224 (by decide) rfl (Nat.le_of_ble_eq_true rfl) (by decide) (fm_dec dtX11_knownHere 6 rfl) ?_
  refine d_takes0 hst _ _ _ _ _ h2 h4 h5 (by decide) ?_
  refine fm_then1 ?_
  refine fm_if_eq (pc := 10) 15 (by decide) (fm_dec dtX11_knownHere 7 rfl) (fun _ => ?_) (fun hc10 => by exfalso; revert hc10; decide)
  refine fm_aloadn (pc := 15) (n := 0) 0 rfl rfl (fm_dec dtX11_knownHere 10 rfl) ?_
  refine fm_bipush (pc := 16) (v := 25) (by decide) (fm_dec dtX11_knownHere 11 rfl) ?_
  refine fm_iconst (pc := 18) (v := 5) (by decide) (fm_dec dtX11_knownHere 12 rfl) ?_
  refine fm_iconst (pc := 19) (v := 1) (by decide) (fm_dec dtX11_knownHere 13 rfl) ?_
  refine fm_bipush (pc := 20) (v := 18) (by decide) (fm_dec dtX11_knownHere 14 rfl) ?_
  refine fm_bipush (pc := 22) (v := 19) (by decide) (fm_dec dtX11_knownHere 15 rfl) ?_
  refine fm_invV5 (k := 0) (d' := 4) (pc := 24) cv_X11_224 (by decide) rfl (Nat.le_of_ble_eq_true rfl) (by decide) (fm_dec dtX11_knownHere 16 rfl) ?_
  refine d_takes0 hst _ _ _ _ _ h2 h4 h5 (by decide) ?_
  refine fm_then1 ?_
  refine fm_if_eq (pc := 27) 32 (by decide) (fm_dec dtX11_knownHere 17 rfl) (fun _ => ?_) (fun hc27 => by exfalso; revert hc27; decide)
  refine fm_aloadn (pc := 32) (n := 0) 0 rfl rfl (fm_dec dtX11_knownHere 20 rfl) ?_
  refine fm_bipush (pc := 33) (v := 23) (by decide) (fm_dec dtX11_knownHere 21 rfl) ?_
  refine fm_bipush (pc := 35) (v := 15) (by decide) (fm_dec dtX11_knownHere 22 rfl) ?_
  refine fm_bipush (pc := 37) (v := 18) (by decide) (fm_dec dtX11_knownHere 23 rfl) ?_
  refine fm_bipush (pc := 39) (v := 20) (by decide) (fm_dec dtX11_knownHere 24 rfl) ?_
  refine fm_bipush (pc := 41) (v := 8) (by decide) (fm_dec dtX11_knownHere 25 rfl) ?_
  refine fm_invV5 (k := 0) (d' := 4) (pc := 43) cv_X11_224 (by decide) rfl (Nat.le_of_ble_eq_true rfl) (by decide) (fm_dec dtX11_knownHere 26 rfl) ?_
  refine d_takes0 hst _ _ _ _ _ h2 h4 h5 (by decide) ?_
  refine fm_then1 ?_
  refine fm_if_eq (pc := 46) 51 (by decide) (fm_dec dtX11_knownHere 27 rfl) (fun _ => ?_) (fun hc46 => by exfalso; revert hc46; decide)
  refine fm_aloadn (pc := 51) (n := 0) 0 rfl rfl (fm_dec dtX11_knownHere 30 rfl) ?_
  refine fm_iconst (pc := 52) (v := 4) (by decide) (fm_dec dtX11_knownHere 31 rfl) ?_
  refine fm_iconst (pc := 53) (v := 5) (by decide) (fm_dec dtX11_knownHere 32 rfl) ?_
  refine fm_iconst (pc := 54) (v := 1) (by decide) (fm_dec dtX11_knownHere 33 rfl) ?_
  refine fm_iconst (pc := 55) (v := 4) (by decide) (fm_dec dtX11_knownHere 34 rfl) ?_
  refine fm_iconst (pc := 56) (v := 0) (by decide) (fm_dec dtX11_knownHere 35 rfl) ?_
  refine fm_invV5 (k := 0) (d' := 4) (pc := 57) cv_X11_224 (by decide) rfl (Nat.le_of_ble_eq_true rfl) (by decide) (fm_dec dtX11_knownHere 36 rfl) ?_
  refine d_takes0 hst _ _ _ _ _ h2 h4 h5 (by decide) ?_
  refine fm_then1 ?_
  refine fm_if_eq (pc := 60) 65 (by decide) (fm_dec dtX11_knownHere 37 rfl) (fun _ => ?_) (fun hc60 => by exfalso; revert hc60; decide)
  refine fm_aloadn (pc := 65) (n := 0) 0 rfl rfl (fm_dec dtX11_knownHere 40 rfl) ?_
  refine fm_bipush (pc := 66) (v := 6) (by decide) (fm_dec dtX11_knownHere 41 rfl) ?_
  refine fm_iconst (pc := 68) (v := 1) (by decide) (fm_dec dtX11_knownHere 42 rfl) ?_
  refine fm_iconst (pc := 69) (v := 3) (by decide) (fm_dec dtX11_knownHere 43 rfl) ?_
  refine fm_bipush (pc := 70) (v := 20) (by decide) (fm_dec dtX11_knownHere 44 rfl) ?_
  refine fm_bipush (pc := 72) (v := 19) (by decide) (fm_dec dtX11_knownHere 45 rfl) ?_
  refine fm_invV5 (k := 0) (d' := 4) (pc := 74) cv_X11_224 (by decide) rfl (Nat.le_of_ble_eq_true rfl) (by decide) (fm_dec dtX11_knownHere 46 rfl) ?_
  refine d_takes0 hst _ _ _ _ _ h2 h4 h5 (by decide) ?_
  refine fm_then1 ?_
  refine fm_if_eq (pc := 77) 84 (by decide) (fm_dec dtX11_knownHere 47 rfl) (fun _ => ?_) (fun hc77 => by exfalso; revert hc77; decide)
  refine fm_iconst (pc := 84) (v := (-1)) (by decide) (fm_dec dtX11_knownHere 50 rfl) ?_
  exact fm_ireturn (pc := 85) rfl (fm_dec dtX11_knownHere 51 rfl) hq

set_option maxRecDepth 20000 in
theorem d_wrongAt0 {l : Launch} {G : fmG} {M : fmM} {Q : fmR → fmM → Prop} (hst : l.stackTraces = false) (w k : Int32) (h5 : M.1 0 5 = 0) (hq : Q (.inl none) (fmI (fmI M 0 5 w) 0 6 k)) : fmGood Tm l G 0 qX11_wrongAt [.ref (G.1 0), .int w, .int k] M Q := by
  refine fmGood_of hst (by decide +kernel) (Nat.le_of_ble_eq_true rfl) ?_
  show fmEv Tm l G 0 qX11_wrongAt 0 [some (.ref (G.1 0)), some (.int w), some (.int k)] [] M Q
  refine fm_aloadn (pc := 0) (n := 0) 0 rfl rfl (fm_dec dtX11_wrongAt 0 rfl) ?_
  refine fm_getI (k := 0) (j := 5) (ci := 11) (pc := 1) fl_X11_117 (by decide) rfl (by decide) rfl (fm_dec dtX11_wrongAt 1 rfl) ?_
  refine fm_if_ne (pc := 4) 17 (by decide) (fm_dec dtX11_wrongAt 2 rfl) (fun hc4 => by exfalso; exact hc4 h5) (fun _ => ?_)
  refine fm_aloadn (pc := 7) (n := 0) 0 rfl rfl (fm_dec dtX11_wrongAt 3 rfl) ?_
  refine fm_iloadn (pc := 8) (n := 1) 1 rfl rfl (fm_dec dtX11_wrongAt 4 rfl) ?_
  refine fm_putI (k := 0) (j := 5) (ci := 11) (pc := 9) fl_X11_117 (by decide) rfl (by decide) rfl rfl (fm_dec dtX11_wrongAt 5 rfl) ?_
  refine fm_aloadn (pc := 12) (n := 0) 0 rfl rfl (fm_dec dtX11_wrongAt 6 rfl) ?_
  refine fm_iloadn (pc := 13) (n := 2) 2 rfl rfl (fm_dec dtX11_wrongAt 7 rfl) ?_
  refine fm_putI (k := 0) (j := 6) (ci := 11) (pc := 14) fl_X11_120 (by decide) rfl (by decide) rfl rfl (fm_dec dtX11_wrongAt 8 rfl) ?_
  exact fm_return (pc := 17) rfl (fm_dec dtX11_wrongAt 9 rfl) hq

set_option maxRecDepth 20000 in
theorem d_number0 {l : Launch} {G : fmG} {M : fmM} {Q : fmR → fmM → Prop} (hst : l.stackTraces = false)  (h2 : M.1 0 2 = 0) (h4 : M.1 0 4 = 0) (h5 : M.1 0 5 = 0) (hq : Q (.inl (some (.int 0))) (fmI (fmI M 0 5 1) 0 6 (M.1 0 4))) : fmGood Tm l G 2 qX11_number [.ref (G.1 0), .int 0, .int 999] M Q := by
  refine fmGood_of hst (by decide +kernel) (Nat.le_of_ble_eq_true rfl) ?_
  show fmEv Tm l G 2 qX11_number 0 [some (.ref (G.1 0)), some (.int 0), some (.int 999), none, none] [] M Q
  refine fm_aloadn (pc := 0) (n := 0) 0 rfl rfl (fm_dec dtX11_number 0 rfl) ?_
  refine fm_getI (k := 0) (j := 5) (ci := 11) (pc := 1) fl_X11_117 (by decide) rfl (by decide) rfl (fm_dec dtX11_number 1 rfl) ?_
  refine fm_if_eq (pc := 4) 9 (by decide) (fm_dec dtX11_number 2 rfl) (fun _ => ?_) (fun hc4 => by exfalso; exact hc4 h5)
  refine fm_aloadn (pc := 9) (n := 0) 0 rfl rfl (fm_dec dtX11_number 5 rfl) ?_
  refine fm_invV0 (k := 0) (d' := 1) (pc := 10) cv_X11_123 (by decide) rfl (Nat.le_of_ble_eq_true rfl) (by decide) (fm_dec dtX11_number 6 rfl) ?_
  refine d_blanks0 hst (by first | exact h2 | simp [fmI, upd, uSt, h2]) (by first | exact h4 | simp [fmI, upd, uSt, h4]) ?_
  refine fm_then0 ?_
  refine fm_aloadn (pc := 13) (n := 0) 0 rfl rfl (fm_dec dtX11_number 7 rfl) ?_
  refine fm_getI (k := 0) (j := 4) (ci := 11) (pc := 14) fl_X11_110 (by decide) rfl (by decide) rfl (fm_dec dtX11_number 8 rfl) ?_
  refine fm_istoren (pc := 17) (n := 3) 3 rfl (by decide) rfl (fm_dec dtX11_number 9 rfl) ?_
  dsimp only [List.set_cons_zero, List.set_cons_succ]
  refine fm_iconst (pc := 18) (v := 0) (by decide) (fm_dec dtX11_number 10 rfl) ?_
  refine fm_istore (pc := 19) (i := 4) (by decide) rfl (fm_dec dtX11_number 11 rfl) ?_
  dsimp only [List.set_cons_zero, List.set_cons_succ]
  refine fm_aloadn (pc := 21) (n := 0) 0 rfl rfl (fm_dec dtX11_number 12 rfl) ?_
  refine fm_aloadn (pc := 22) (n := 0) 0 rfl rfl (fm_dec dtX11_number 13 rfl) ?_
  refine fm_getI (k := 0) (j := 4) (ci := 11) (pc := 23) fl_X11_110 (by decide) rfl (by decide) rfl (fm_dec dtX11_number 14 rfl) ?_
  refine fm_invV1 (k := 0) (d' := 0) (pc := 26) cv_X11_113 (by decide) rfl (Nat.le_of_ble_eq_true rfl) (by decide) (fm_dec dtX11_number 15 rfl) ?_
  refine d_byteAt0 hst _ (by first | exact h2 | simp [fmI, upd, uSt, h2]) (by simp [fmI, upd, uSt, h4]) ?_
  refine fm_then1 ?_
  refine fm_invS1 (d' := 0) (pc := 29) cs_X11_126 (Nat.le_of_ble_eq_true rfl) (by decide) (fm_dec dtX11_number 16 rfl) ?_
  refine d_isDigit hst ?_
  refine fm_then1 ?_
  refine fm_if_ne (pc := 32) 44 (by decide) (fm_dec dtX11_number 17 rfl) (fun hc32 => by exfalso; revert hc32; decide) (fun _ => ?_)
  refine fm_aloadn (pc := 35) (n := 0) 0 rfl rfl (fm_dec dtX11_number 18 rfl) ?_
  refine fm_iconst (pc := 36) (v := 1) (by decide) (fm_dec dtX11_number 19 rfl) ?_
  refine fm_aloadn (pc := 37) (n := 0) 0 rfl rfl (fm_dec dtX11_number 20 rfl) ?_
  refine fm_getI (k := 0) (j := 4) (ci := 11) (pc := 38) fl_X11_110 (by decide) rfl (by decide) rfl (fm_dec dtX11_number 21 rfl) ?_
  refine fm_invV2 (k := 0) (d' := 0) (pc := 41) cv_X11_130 (by decide) rfl (Nat.le_of_ble_eq_true rfl) (by decide) (fm_dec dtX11_number 22 rfl) ?_
  refine d_wrongAt0 hst _ _ h5 ?_
  refine fm_then0 ?_
  refine fm_aloadn (pc := 44) (n := 0) 0 rfl rfl (fm_dec dtX11_number 23 rfl) ?_
  refine fm_aloadn (pc := 45) (n := 0) 0 rfl rfl (fm_dec dtX11_number 24 rfl) ?_
  refine fm_getI (k := 0) (j := 4) (ci := 11) (pc := 46) fl_X11_110 (by decide) rfl (by decide) rfl (fm_dec dtX11_number 25 rfl) ?_
  refine fm_invV1 (k := 0) (d' := 0) (pc := 49) cv_X11_113 (by decide) rfl (Nat.le_of_ble_eq_true rfl) (by decide) (fm_dec dtX11_number 26 rfl) ?_
  refine d_byteAt0 hst _ (by first | exact h2 | simp [fmI, upd, uSt, h2]) (by simp [fmI, upd, uSt, h4]) ?_
  refine fm_then1 ?_
  refine fm_invS1 (d' := 0) (pc := 52) cs_X11_126 (Nat.le_of_ble_eq_true rfl) (by decide) (fm_dec dtX11_number 27 rfl) ?_
  refine d_isDigit hst ?_
  refine fm_then1 ?_
  refine fm_if_eq (pc := 55) 106 (by decide) (fm_dec dtX11_number 28 rfl) (fun _ => ?_) (fun hc55 => by exfalso; revert hc55; decide)
  refine fm_iload (pc := 106) (i := 4) rfl (fm_dec dtX11_number 54 rfl) ?_
  refine fm_iloadn (pc := 108) (n := 1) 1 rfl rfl (fm_dec dtX11_number 55 rfl) ?_
  refine fm_iloadn (pc := 109) (n := 2) 2 rfl rfl (fm_dec dtX11_number 56 rfl) ?_
  refine fm_invS3 (d' := 0) (pc := 110) cs_X11_135 (Nat.le_of_ble_eq_true rfl) (by decide) (fm_dec dtX11_number 57 rfl) ?_
  refine d_in hst _ _ _ (fun hi110 => ?_) (fun hn110 => (hn110 ⟨by decide, by decide⟩).elim)
  refine fm_then1 ?_
  refine fm_if_ne (pc := 113) 122 (by decide) (fm_dec dtX11_number 58 rfl) (fun _ => ?_) (fun hc113 => by exfalso; revert hc113; decide)
  refine fm_aloadn (pc := 122) (n := 0) 0 rfl rfl (fm_dec dtX11_number 63 rfl) ?_
  refine fm_getI (k := 0) (j := 5) (ci := 11) (pc := 123) fl_X11_117 (by decide) rfl (by decide) rfl (fm_dec dtX11_number 64 rfl) ?_
  refine fm_if_ne (pc := 126) 134 (by decide) (fm_dec dtX11_number 65 rfl) (fun _ => ?_) (fun hc126 => by exfalso; revert hc126; simp [fmI, upd])
  refine fm_iconst (pc := 134) (v := 0) (by decide) (fm_dec dtX11_number 68 rfl) ?_
  exact fm_ireturn (pc := 135) rfl (fm_dec dtX11_number 69 rfl) hq

set_option maxRecDepth 20000 in
theorem d_notes1 {l : Launch} {G : fmG} {M : fmM} {Q : fmR → fmM → Prop} (hst : l.stackTraces = false) (w k : Int32) (h5 : M.1 0 5 = 1) (hq : Q (.inl none) M) : fmGood Tm l G 0 qX11_notes [.ref (G.1 0), .int w, .int k] M Q := by
  refine fmGood_of hst (by decide +kernel) (Nat.le_of_ble_eq_true rfl) ?_
  show fmEv Tm l G 0 qX11_notes 0 [some (.ref (G.1 0)), some (.int w), some (.int k)] [] M Q
  refine fm_aloadn (pc := 0) (n := 0) 0 rfl rfl (fm_dec dtX11_notes 0 rfl) ?_
  refine fm_getI (k := 0) (j := 5) (ci := 11) (pc := 1) fl_X11_117 (by decide) rfl (by decide) rfl (fm_dec dtX11_notes 1 rfl) ?_
  refine fm_if_eq (pc := 4) 8 (by decide) (fm_dec dtX11_notes 2 rfl) (fun hc4 => by exfalso; rw [h5] at hc4; revert hc4; decide) (fun _ => ?_)
  exact fm_return (pc := 7) rfl (fm_dec dtX11_notes 3 rfl) hq

set_option maxRecDepth 20000 in
theorem d_one0 {l : Launch} {G : fmG} {M : fmM} {Q : fmR → fmM → Prop} (hst : l.stackTraces = false)  (h2 : M.1 0 2 = 0) (h4 : M.1 0 4 = 0) (h5 : M.1 0 5 = 0) (hq : Q (.inl none) (fmI (fmI M 0 5 1) 0 6 (M.1 0 4))) : fmGood Tm l G 6 qX11_one [.ref (G.1 0)] M Q := by
  refine fmGood_of hst (by decide +kernel) (Nat.le_of_ble_eq_true rfl) ?_
  show fmEv Tm l G 6 qX11_one 0 [some (.ref (G.1 0)), none, none] [] M Q
  refine fm_aloadn (pc := 0) (n := 0) 0 rfl rfl (fm_dec dtX11_one 0 rfl) ?_
  refine fm_getI (k := 0) (j := 5) (ci := 11) (pc := 1) fl_X11_117 (by decide) rfl (by decide) rfl (fm_dec dtX11_one 1 rfl) ?_
  refine fm_if_eq (pc := 4) 8 (by decide) (fm_dec dtX11_one 2 rfl) (fun _ => ?_) (fun hc4 => by exfalso; exact hc4 h5)
  refine fm_aloadn (pc := 8) (n := 0) 0 rfl rfl (fm_dec dtX11_one 4 rfl) ?_
  refine fm_invV0 (k := 0) (d' := 1) (pc := 9) cv_X11_123 (by decide) rfl (Nat.le_of_ble_eq_true rfl) (by decide) (fm_dec dtX11_one 5 rfl) ?_
  refine d_blanks0 hst (by first | exact h2 | simp [fmI, upd, uSt, h2]) (by first | exact h4 | simp [fmI, upd, uSt, h4]) ?_
  refine fm_then0 ?_
  refine fm_aloadn (pc := 12) (n := 0) 0 rfl rfl (fm_dec dtX11_one 6 rfl) ?_
  refine fm_bipush (pc := 13) (v := 12) (by decide) (fm_dec dtX11_one 7 rfl) ?_
  refine fm_iconst (pc := 15) (v := 5) (by decide) (fm_dec dtX11_one 8 rfl) ?_
  refine fm_iconst (pc := 16) (v := 1) (by decide) (fm_dec dtX11_one 9 rfl) ?_
  refine fm_bipush (pc := 17) (v := 19) (by decide) (fm_dec dtX11_one 10 rfl) ?_
  refine fm_bipush (pc := 19) (v := 20) (by decide) (fm_dec dtX11_one 11 rfl) ?_
  refine fm_invV5 (k := 0) (d' := 3) (pc := 21) cv_X11_150 (by decide) rfl (Nat.le_of_ble_eq_true rfl) (by decide) (fm_dec dtX11_one 12 rfl) ?_
  refine d_isWord0 hst _ _ _ _ _ (by first | exact h2 | simp [fmI, upd, uSt, h2]) (by first | exact h4 | simp [fmI, upd, uSt, h4]) (by first | exact h5 | simp [fmI, upd, h5]) (by first | exact hf | decide) ?_
  refine fm_then1 ?_
  refine fm_if_eq (pc := 24) 32 (by decide) (fm_dec dtX11_one 13 rfl) (fun _ => ?_) (fun hc24 => by exfalso; revert hc24; decide)
  refine fm_aloadn (pc := 32) (n := 0) 0 rfl rfl (fm_dec dtX11_one 16 rfl) ?_
  refine fm_bipush (pc := 33) (v := 13) (by decide) (fm_dec dtX11_one 17 rfl) ?_
  refine fm_bipush (pc := 35) (v := 15) (by decide) (fm_dec dtX11_one 18 rfl) ?_
  refine fm_bipush (pc := 37) (v := 19) (by decide) (fm_dec dtX11_one 19 rfl) ?_
  refine fm_bipush (pc := 39) (v := 20) (by decide) (fm_dec dtX11_one 20 rfl) ?_
  refine fm_iconst (pc := 41) (v := 0) (by decide) (fm_dec dtX11_one 21 rfl) ?_
  refine fm_invV5 (k := 0) (d' := 3) (pc := 42) cv_X11_150 (by decide) rfl (Nat.le_of_ble_eq_true rfl) (by decide) (fm_dec dtX11_one 22 rfl) ?_
  refine d_isWord0 hst _ _ _ _ _ (by first | exact h2 | simp [fmI, upd, uSt, h2]) (by first | exact h4 | simp [fmI, upd, uSt, h4]) (by first | exact h5 | simp [fmI, upd, h5]) (by first | exact hf | decide) ?_
  refine fm_then1 ?_
  refine fm_if_eq (pc := 45) 53 (by decide) (fm_dec dtX11_one 23 rfl) (fun _ => ?_) (fun hc45 => by exfalso; revert hc45; decide)
  refine fm_iconst (pc := 53) (v := (-1)) (by decide) (fm_dec dtX11_one 26 rfl) ?_
  refine fm_istoren (pc := 54) (n := 1) 1 rfl (by decide) rfl (fm_dec dtX11_one 27 rfl) ?_
  dsimp only [List.set_cons_zero, List.set_cons_succ]
  refine fm_iloadn (pc := 55) (n := 1) 1 rfl rfl (fm_dec dtX11_one 28 rfl) ?_
  refine fm_iconst (pc := 56) (v := (-1)) (by decide) (fm_dec dtX11_one 29 rfl) ?_
  refine fm_icmp_eq (pc := 57) 115 (by decide) (fm_dec dtX11_one 30 rfl) (fun _ => ?_) (fun hc57 => by exfalso; revert hc57; decide)
  refine fm_aloadn (pc := 115) (n := 0) 0 rfl rfl (fm_dec dtX11_one 61 rfl) ?_
  refine fm_aloadn (pc := 116) (n := 0) 0 rfl rfl (fm_dec dtX11_one 62 rfl) ?_
  refine fm_getI (k := 0) (j := 4) (ci := 11) (pc := 117) fl_X11_110 (by decide) rfl (by decide) rfl (fm_dec dtX11_one 63 rfl) ?_
  refine fm_invV1 (k := 0) (d' := 0) (pc := 120) cv_X11_113 (by decide) rfl (Nat.le_of_ble_eq_true rfl) (by decide) (fm_dec dtX11_one 64 rfl) ?_
  refine d_byteAt0 hst _ (by first | exact h2 | simp [fmI, upd, uSt, h2]) (by simp [fmI, upd, uSt, h4]) ?_
  refine fm_then1 ?_
  refine fm_bipush (pc := 123) (v := 40) (by decide) (fm_dec dtX11_one 65 rfl) ?_
  refine fm_icmp_ne (pc := 125) 167 (by decide) (fm_dec dtX11_one 66 rfl) (fun _ => ?_) (fun hc125 => by exfalso; revert hc125; decide)
  refine fm_aloadn (pc := 167) (n := 0) 0 rfl rfl (fm_dec dtX11_one 89 rfl) ?_
  refine fm_invV0 (k := 0) (d' := 5) (pc := 168) cv_X11_234 (by decide) rfl (Nat.le_of_ble_eq_true rfl) (by decide) (fm_dec dtX11_one 90 rfl) ?_
  refine d_known0 hst h2 h4 h5 ?_
  refine fm_then1 ?_
  refine fm_istoren (pc := 171) (n := 2) 2 rfl (by decide) rfl (fm_dec dtX11_one 91 rfl) ?_
  dsimp only [List.set_cons_zero, List.set_cons_succ]
  refine fm_iloadn (pc := 172) (n := 2) 2 rfl rfl (fm_dec dtX11_one 92 rfl) ?_
  refine fm_iconst (pc := 173) (v := (-1)) (by decide) (fm_dec dtX11_one 93 rfl) ?_
  refine fm_icmp_eq (pc := 174) 186 (by decide) (fm_dec dtX11_one 94 rfl) (fun _ => ?_) (fun hc174 => by exfalso; revert hc174; decide)
  refine fm_aloadn (pc := 186) (n := 0) 0 rfl rfl (fm_dec dtX11_one 100 rfl) ?_
  refine fm_iconst (pc := 187) (v := 0) (by decide) (fm_dec dtX11_one 101 rfl) ?_
  refine fm_aloadn (pc := 188) (n := 0) 0 rfl rfl (fm_dec dtX11_one 102 rfl) ?_
  refine fm_iconst (pc := 189) (v := 0) (by decide) (fm_dec dtX11_one 103 rfl) ?_
  refine fm_sipush (pc := 190) (v := 999) (by decide) (fm_dec dtX11_one 104 rfl) ?_
  refine fm_invV2 (k := 0) (d' := 2) (pc := 193) cv_X11_163 (by decide) rfl (Nat.le_of_ble_eq_true rfl) (by decide) (fm_dec dtX11_one 105 rfl) ?_
  refine d_number0 hst h2 h4 h5 ?_
  refine fm_then1 ?_
  refine fm_invV2 (k := 0) (d' := 0) (pc := 196) cv_X11_218 (by decide) rfl (Nat.le_of_ble_eq_true rfl) (by decide) (fm_dec dtX11_one 106 rfl) ?_
  refine d_notes1 hst _ _ (by simp [fmI, upd]) ?_
  refine fm_then0 ?_
  exact fm_return (pc := 199) rfl (fm_dec dtX11_one 107 rfl) hq

set_option maxRecDepth 20000 in
theorem d_product0 {l : Launch} {G : fmG} {M : fmM} {Q : fmR → fmM → Prop} (hst : l.stackTraces = false)  (h2 : M.1 0 2 = 0) (h4 : M.1 0 4 = 0) (h5 : M.1 0 5 = 0) (hq : Q (.inl none) (fmI (fmI M 0 5 1) 0 6 (M.1 0 4))) : fmGood Tm l G 7 qX11_product [.ref (G.1 0)] M Q := by
  refine fmGood_of hst (by decide +kernel) (Nat.le_of_ble_eq_true rfl) ?_
  show fmEv Tm l G 7 qX11_product 0 [some (.ref (G.1 0)), none] [] M Q
  refine fm_aloadn (pc := 0) (n := 0) 0 rfl rfl (fm_dec dtX11_product 0 rfl) ?_
  refine fm_invV0 (k := 0) (d' := 6) (pc := 1) cv_X11_221 (by decide) rfl (Nat.le_of_ble_eq_true rfl) (by decide) (fm_dec dtX11_product 1 rfl) ?_
  refine d_one0 hst h2 h4 h5 ?_
  refine fm_then0 ?_
  refine fm_aloadn (pc := 4) (n := 0) 0 rfl rfl (fm_dec dtX11_product 2 rfl) ?_
  refine fm_getI (k := 0) (j := 5) (ci := 11) (pc := 5) fl_X11_117 (by decide) rfl (by decide) rfl (fm_dec dtX11_product 3 rfl) ?_
  refine fm_if_ne (pc := 8) 58 (by decide) (fm_dec dtX11_product 4 rfl) (fun _ => ?_) (fun hc8 => by exfalso; revert hc8; simp [fmI, upd])
  exact fm_return (pc := 58) rfl (fm_dec dtX11_product 30 rfl) hq

set_option maxRecDepth 20000 in
theorem d_sum0 {l : Launch} {G : fmG} {M : fmM} {Q : fmR → fmM → Prop} (hst : l.stackTraces = false)  (h2 : M.1 0 2 = 0) (h4 : M.1 0 4 = 0) (h5 : M.1 0 5 = 0) (hq : Q (.inl none) (fmI (fmI M 0 5 1) 0 6 (M.1 0 4))) : fmGood Tm l G 8 qX11_sum [.ref (G.1 0)] M Q := by
  refine fmGood_of hst (by decide +kernel) (Nat.le_of_ble_eq_true rfl) ?_
  show fmEv Tm l G 8 qX11_sum 0 [some (.ref (G.1 0)), none] [] M Q
  refine fm_aloadn (pc := 0) (n := 0) 0 rfl rfl (fm_dec dtX11_sum 0 rfl) ?_
  refine fm_invV0 (k := 0) (d' := 7) (pc := 1) cv_X11_212 (by decide) rfl (Nat.le_of_ble_eq_true rfl) (by decide) (fm_dec dtX11_sum 1 rfl) ?_
  refine d_product0 hst h2 h4 h5 ?_
  refine fm_then0 ?_
  refine fm_aloadn (pc := 4) (n := 0) 0 rfl rfl (fm_dec dtX11_sum 2 rfl) ?_
  refine fm_getI (k := 0) (j := 5) (ci := 11) (pc := 5) fl_X11_117 (by decide) rfl (by decide) rfl (fm_dec dtX11_sum 3 rfl) ?_
  refine fm_if_ne (pc := 8) 58 (by decide) (fm_dec dtX11_sum 4 rfl) (fun _ => ?_) (fun hc8 => by exfalso; revert hc8; simp [fmI, upd])
  exact fm_return (pc := 58) rfl (fm_dec dtX11_sum 30 rfl) hq

set_option maxRecDepth 20000 in
theorem d_ends {l : Launch} {G : fmG} {M : fmM} {Q : fmR → fmM → Prop} (hst : l.stackTraces = false)  (hq : Q (.inl (some (.int (M.1 0 5 - 10)))) (fmI M 0 3 (M.1 0 6))) : fmGood Tm l G 0 qX11_ends [.ref (G.1 0)] M Q := by
  refine fmGood_of hst (by decide +kernel) (Nat.le_of_ble_eq_true rfl) ?_
  show fmEv Tm l G 0 qX11_ends 0 [some (.ref (G.1 0))] [] M Q
  refine fm_aloadn (pc := 0) (n := 0) 0 rfl rfl (fm_dec dtX11_ends 0 rfl) ?_
  refine fm_aloadn (pc := 1) (n := 0) 0 rfl rfl (fm_dec dtX11_ends 1 rfl) ?_
  refine fm_getI (k := 0) (j := 6) (ci := 11) (pc := 2) fl_X11_120 (by decide) rfl (by decide) rfl (fm_dec dtX11_ends 2 rfl) ?_
  refine fm_putI (k := 0) (j := 3) (ci := 11) (pc := 5) fl_X11_9 (by decide) rfl (by decide) rfl rfl (fm_dec dtX11_ends 3 rfl) ?_
  refine fm_aloadn (pc := 8) (n := 0) 0 rfl rfl (fm_dec dtX11_ends 4 rfl) ?_
  refine fm_getI (k := 0) (j := 5) (ci := 11) (pc := 9) fl_X11_117 (by decide) rfl (by decide) rfl (fm_dec dtX11_ends 5 rfl) ?_
  refine fm_bipush (pc := 12) (v := 10) (by decide) (fm_dec dtX11_ends 6 rfl) ?_
  refine fm_isub (pc := 14) (fm_dec dtX11_ends 7 rfl) ?_
  exact fm_ireturn (pc := 15) rfl (fm_dec dtX11_ends 8 rfl) (by simpa [fmI, upd] using hq)

set_option maxRecDepth 20000 in
theorem m_law {l : Launch} {G : fmG} {M : fmM} {Q : fmR → fmM → Prop} (hst : l.stackTraces = false) (n : Int32) (h1 : M.1 0 1 = 0) (hq : ∀ M', M'.1 0 0 = 0 → (inR n 0 0) → Q (.inl (some (.int (-9)))) M') (hx : ∀ (r9 : Int32) M', M'.1 0 0 = 1 → ¬ (inR n 0 0) → Q (.inl (some (.int r9))) M') : fmGood Tm l G 9 qX11_law [.ref (G.1 0), .int n] M Q := by
  refine fmGood_of hst (by decide +kernel) (Nat.le_of_ble_eq_true rfl) ?_
  show fmEv Tm l G 9 qX11_law 0 [some (.ref (G.1 0)), some (.int n)] [] M Q
  refine fm_aloadn (pc := 0) (n := 0) 0 rfl rfl (fm_dec dtX11_law 0 rfl) ?_
  refine fm_iconst (pc := 1) (v := 0) (by decide) (fm_dec dtX11_law 1 rfl) ?_
  refine fm_putI (k := 0) (j := 0) (ci := 11) (pc := 2) fl_X11_101 (by decide) rfl (by decide) rfl rfl (fm_dec dtX11_law 2 rfl) ?_
  refine fm_aloadn (pc := 5) (n := 0) 0 rfl rfl (fm_dec dtX11_law 3 rfl) ?_
  refine fm_iloadn (pc := 6) (n := 1) 1 rfl rfl (fm_dec dtX11_law 4 rfl) ?_
  refine fm_iconst (pc := 7) (v := 0) (by decide) (fm_dec dtX11_law 5 rfl) ?_
  refine fm_aloadn (pc := 8) (n := 0) 0 rfl rfl (fm_dec dtX11_law 6 rfl) ?_
  refine fm_getI (k := 0) (j := 1) (ci := 11) (pc := 9) fl_X11_104 (by decide) rfl (by decide) rfl (fm_dec dtX11_law 7 rfl) ?_
  refine fm_invS3 (d' := 0) (pc := 12) cs_X11_135 (Nat.le_of_ble_eq_true rfl) (by decide) (fm_dec dtX11_law 8 rfl) ?_
  refine d_in hst _ _ _ (fun hi12 => ?_) (fun hn12 => ?_)
  · refine fm_then1 ?_
    refine fm_if_eq (pc := 15) 25 (by decide) (fm_dec dtX11_law 9 rfl) (fun hc15 => by exfalso; revert hc15; decide) (fun _ => ?_)
    refine fm_iloadn (pc := 18) (n := 1) 1 rfl rfl (fm_dec dtX11_law 10 rfl) ?_
    refine fm_sipush (pc := 19) (v := 150) (by decide) (fm_dec dtX11_law 11 rfl) ?_
    refine fm_icmp_le (pc := 22) 29 (by decide) (fm_dec dtX11_law 12 rfl) (fun _ => ?_) (fun hc22 => by exfalso; have h9 := inR_0 (show inR n 0 0 by have h8 := hi12; simpa [fmI, upd, h1] using h8); subst h9; revert hc22; decide)
    refine fm_iconst (pc := 29) (v := 0) (by decide) (fm_dec dtX11_law 15 rfl) ?_
    refine fm_iconst (pc := 30) (v := 1) (by decide) (fm_dec dtX11_law 16 rfl) ?_
    refine fm_iconst (pc := 31) (v := 1) (by decide) (fm_dec dtX11_law 17 rfl) ?_
    refine fm_invV3 (k := 0) (d' := 0) (pc := 32) cv_X11_177 (by decide) rfl (Nat.le_of_ble_eq_true rfl) (by decide) (fm_dec dtX11_law 18 rfl) ?_
    refine d_bad0 hst _ _ (by first | exact h0 | simp [fmI, upd]) ?_
    refine fm_then1 ?_
    refine fm_if_eq (pc := 35) 40 (by decide) (fm_dec dtX11_law 19 rfl) (fun _ => ?_) (fun hc35 => by exfalso; revert hc35; decide)
    have hn0 : inR n 0 0 := (by have h9 := hi12; simpa [fmI, upd, h1] using h9)
    have e0 : n = 0 := inR_0 hn0
    subst e0
    refine fm_aloadn (pc := 40) (n := 0) 0 rfl rfl (fm_dec dtX11_law 22 rfl) ?_
    refine fm_iloadn (pc := 41) (n := 1) 1 rfl rfl (fm_dec dtX11_law 23 rfl) ?_
    refine fm_invV1 (k := 0) (d' := 2) (pc := 42) cv_X11_181 (by decide) rfl (Nat.le_of_ble_eq_true rfl) (by decide) (fm_dec dtX11_law 24 rfl) ?_
    refine d_starts0 hst ?_
    refine fm_then0 ?_
    refine fm_aloadn (pc := 45) (n := 0) 0 rfl rfl (fm_dec dtX11_law 25 rfl) ?_
    refine fm_iconst (pc := 46) (v := 0) (by decide) (fm_dec dtX11_law 26 rfl) ?_
    refine fm_putI (k := 0) (j := 18) (ci := 11) (pc := 47) fl_X11_209 (by decide) rfl (by decide) rfl rfl (fm_dec dtX11_law 27 rfl) ?_
    refine fm_aloadn (pc := 50) (n := 0) 0 rfl rfl (fm_dec dtX11_law 28 rfl) ?_
    refine fm_invV0 (k := 0) (d' := 8) (pc := 51) cv_X11_231 (by decide) rfl (Nat.le_of_ble_eq_true rfl) (by decide) (fm_dec dtX11_law 29 rfl) ?_
    refine d_sum0 hst (by simp [uSt, fmI, upd]) (by simp [uSt, fmI, upd]) (by simp [uSt, fmI, upd]) ?_
    refine fm_then0 ?_
    refine fm_aloadn (pc := 54) (n := 0) 0 rfl rfl (fm_dec dtX11_law 30 rfl) ?_
    refine fm_invV0 (k := 0) (d' := 1) (pc := 55) cv_X11_123 (by decide) rfl (Nat.le_of_ble_eq_true rfl) (by decide) (fm_dec dtX11_law 31 rfl) ?_
    refine d_blanks0 hst (by simp [uSt, fmI, upd]) (by simp [uSt, fmI, upd]) ?_
    refine fm_then0 ?_
    refine fm_aloadn (pc := 58) (n := 0) 0 rfl rfl (fm_dec dtX11_law 32 rfl) ?_
    refine fm_getI (k := 0) (j := 5) (ci := 11) (pc := 59) fl_X11_117 (by decide) rfl (by decide) rfl (fm_dec dtX11_law 33 rfl) ?_
    refine fm_if_ne (pc := 62) 85 (by decide) (fm_dec dtX11_law 34 rfl) (fun _ => ?_) (fun hc62 => by exfalso; revert hc62; simp [uSt, fmI, upd])
    refine fm_aloadn (pc := 85) (n := 0) 0 rfl rfl (fm_dec dtX11_law 45 rfl) ?_
    refine fm_getI (k := 0) (j := 5) (ci := 11) (pc := 86) fl_X11_117 (by decide) rfl (by decide) rfl (fm_dec dtX11_law 46 rfl) ?_
    refine fm_if_eq (pc := 89) 97 (by decide) (fm_dec dtX11_law 47 rfl) (fun hc89 => by exfalso; revert hc89; simp [uSt, fmI, upd]) (fun _ => ?_)
    refine fm_aloadn (pc := 92) (n := 0) 0 rfl rfl (fm_dec dtX11_law 48 rfl) ?_
    refine fm_invV0 (k := 0) (d' := 0) (pc := 93) cv_X11_187 (by decide) rfl (Nat.le_of_ble_eq_true rfl) (by decide) (fm_dec dtX11_law 49 rfl) ?_
    refine d_ends hst ?_
    refine fm_then1 ?_
    exact fm_ireturn (pc := 96) rfl (fm_dec dtX11_law 50 rfl) (by have e : ∀ (M9 : fmM) (k : Int32), (fmI (fmI M9 0 5 1) 0 6 k).1 0 5 - 10 = -9 := (fun M9 k => by simp [fmI, upd]; try decide); rw [e]; exact hq _ (by simp [uSt, fmI, upd]) hn0)
  · refine fm_then1 ?_
    refine fm_if_eq (pc := 15) 25 (by decide) (fm_dec dtX11_law 9 rfl) (fun _ => ?_) (fun hc15 => by exfalso; revert hc15; decide)
    refine fm_iconst (pc := 25) (v := 1) (by decide) (fm_dec dtX11_law 13 rfl) ?_
    refine fm_goto (pc := 26) 30 (by decide) (fm_dec dtX11_law 14 rfl) ?_
    refine fm_iconst (pc := 30) (v := 1) (by decide) (fm_dec dtX11_law 16 rfl) ?_
    refine fm_iconst (pc := 31) (v := 1) (by decide) (fm_dec dtX11_law 17 rfl) ?_
    refine fm_invV3 (k := 0) (d' := 0) (pc := 32) cv_X11_177 (by decide) rfl (Nat.le_of_ble_eq_true rfl) (by decide) (fm_dec dtX11_law 18 rfl) ?_
    refine d_bad1_1 hst _ (by first | exact h0 | simp [fmI, upd]) (by decide) (fun Mb hb => ?_)
    refine fm_then1 ?_
    refine fm_if_eq (pc := 35) 40 (by decide) (fm_dec dtX11_law 19 rfl) (fun hc35 => by exfalso; revert hc35; decide) (fun _ => ?_)
    refine fm_iconst (pc := 38) (v := 0) (by decide) (fm_dec dtX11_law 20 rfl) ?_
    exact fm_ireturn (pc := 39) rfl (fm_dec dtX11_law 21 rfl) (hx _ _ hb (fun h => hn12 (by simpa [fmI, upd, h1] using h)))
