set_option maxRecDepth 20000 in
theorem c_draw0 {l : Launch} {G : fmG} {M : fmM} {Q : fmR → fmM → Prop} (hst : l.stackTraces = false)  (hl : M.1 3 9 = 0) (hq : Q (.inl none) M) : fmGood Tx l G 5 qX4_drawDeaths [.ref (G.1 39)] M Q := by
  refine fmGood_of hst (by decide +kernel) (Nat.le_of_ble_eq_true rfl) ?_
  show fmEv Tx l G 5 qX4_drawDeaths 0 [some (.ref (G.1 39)), none] [] M Q
  refine fm_iconst (pc := 0) (v := 0) (by decide) (fm_dec dtX4_drawDeaths 0 rfl) ?_
  refine fm_istoren (pc := 1) (n := 1) 1 rfl (by decide) rfl (fm_dec dtX4_drawDeaths 1 rfl) ?_
  dsimp only [List.set_cons_zero, List.set_cons_succ]
  refine fm_iloadn (pc := 2) (n := 1) 1 rfl rfl (fm_dec dtX4_drawDeaths 2 rfl) ?_
  refine fm_aloadn (pc := 3) (n := 0) 0 rfl rfl (fm_dec dtX4_drawDeaths 3 rfl) ?_
  refine fm_getR (k := 39) (j := 2) (ci := 4) (pc := 4) 32 rfl fl_X4_22 (by decide) rfl (by decide) (by decide) (fm_dec dtX4_drawDeaths 4 rfl) ?_
  refine fm_getR (k := 32) (j := 0) (ci := 0) (pc := 7) 3 rfl fl_X4_60 (by decide) rfl (by decide) (by decide) (fm_dec dtX4_drawDeaths 5 rfl) ?_
  refine fm_getI (k := 3) (j := 9) (ci := 8) (pc := 10) fl_X4_64 (by decide) rfl (by decide) rfl (fm_dec dtX4_drawDeaths 6 rfl) ?_
  refine fm_icmp_ge (pc := 13) 65 (by decide) (fm_dec dtX4_drawDeaths 7 rfl) (fun _ => ?_) (fun hc13 => by exfalso; exact hc13 (by simp [hl]))
  exact fm_return (pc := 65) rfl (fm_dec dtX4_drawDeaths 31 rfl) hq

set_option maxRecDepth 20000 in
theorem c_putf0 {l : Launch} {G : fmG} {M : fmM} {Q : fmR → fmM → Prop} (hst : l.stackTraces = false)  (hl : M.1 3 9 = 0) (hq : Q (.inl none) M) : fmGood Tx l G 5 qX4_putFirsts [.ref (G.1 39)] M Q := by
  refine fmGood_of hst (by decide +kernel) (Nat.le_of_ble_eq_true rfl) ?_
  show fmEv Tx l G 5 qX4_putFirsts 0 [some (.ref (G.1 39)), none, none] [] M Q
  refine fm_iconst (pc := 0) (v := 0) (by decide) (fm_dec dtX4_putFirsts 0 rfl) ?_
  refine fm_istoren (pc := 1) (n := 1) 1 rfl (by decide) rfl (fm_dec dtX4_putFirsts 1 rfl) ?_
  dsimp only [List.set_cons_zero, List.set_cons_succ]
  refine fm_iloadn (pc := 2) (n := 1) 1 rfl rfl (fm_dec dtX4_putFirsts 2 rfl) ?_
  refine fm_aloadn (pc := 3) (n := 0) 0 rfl rfl (fm_dec dtX4_putFirsts 3 rfl) ?_
  refine fm_getR (k := 39) (j := 2) (ci := 4) (pc := 4) 32 rfl fl_X4_22 (by decide) rfl (by decide) (by decide) (fm_dec dtX4_putFirsts 4 rfl) ?_
  refine fm_getR (k := 32) (j := 0) (ci := 0) (pc := 7) 3 rfl fl_X4_60 (by decide) rfl (by decide) (by decide) (fm_dec dtX4_putFirsts 5 rfl) ?_
  refine fm_getI (k := 3) (j := 9) (ci := 8) (pc := 10) fl_X4_64 (by decide) rfl (by decide) rfl (fm_dec dtX4_putFirsts 6 rfl) ?_
  refine fm_icmp_ge (pc := 13) 40 (by decide) (fm_dec dtX4_putFirsts 7 rfl) (fun _ => ?_) (fun hc13 => by exfalso; exact hc13 (by simp [hl]))
  refine fm_iconst (pc := 40) (v := 0) (by decide) (fm_dec dtX4_putFirsts 20 rfl) ?_
  refine fm_istoren (pc := 41) (n := 1) 1 rfl (by decide) rfl (fm_dec dtX4_putFirsts 21 rfl) ?_
  dsimp only [List.set_cons_zero, List.set_cons_succ]
  refine fm_iloadn (pc := 42) (n := 1) 1 rfl rfl (fm_dec dtX4_putFirsts 22 rfl) ?_
  refine fm_aloadn (pc := 43) (n := 0) 0 rfl rfl (fm_dec dtX4_putFirsts 23 rfl) ?_
  refine fm_getR (k := 39) (j := 2) (ci := 4) (pc := 44) 32 rfl fl_X4_22 (by decide) rfl (by decide) (by decide) (fm_dec dtX4_putFirsts 24 rfl) ?_
  refine fm_getR (k := 32) (j := 0) (ci := 0) (pc := 47) 3 rfl fl_X4_60 (by decide) rfl (by decide) (by decide) (fm_dec dtX4_putFirsts 25 rfl) ?_
  refine fm_getI (k := 3) (j := 9) (ci := 8) (pc := 50) fl_X4_64 (by decide) rfl (by decide) rfl (fm_dec dtX4_putFirsts 26 rfl) ?_
  refine fm_icmp_ge (pc := 53) 123 (by decide) (fm_dec dtX4_putFirsts 27 rfl) (fun _ => ?_) (fun hc53 => by exfalso; exact hc53 (by simp [hl]))
  exact fm_return (pc := 123) rfl (fm_dec dtX4_putFirsts 63 rfl) hq

set_option maxRecDepth 20000 in
theorem c_pass0 {l : Launch} {G : fmG} {M : fmM} {Q : fmR → fmM → Prop} (hst : l.stackTraces = false)  (hl : M.1 3 9 = 0) (hq : ∀ (r : Int32) M', (∀ k, k ≠ 41 → M'.1 k = M.1 k) → (∀ j, j ≠ 2 → j ≠ 3 → M'.1 41 j = M.1 41 j) → M'.2 = M.2 → Q (.inl (some (.int r))) M') : fmGood Tx l G 0 qX0_passWeek [.ref (G.1 32), .ref (G.1 41)] M Q := by
  refine fmGood_of hst (by decide +kernel) (Nat.le_of_ble_eq_true rfl) ?_
  show fmEv Tx l G 0 qX0_passWeek 0 [some (.ref (G.1 32)), some (.ref (G.1 41)), none] [] M Q
  refine fm_aloadn (pc := 0) (n := 1) 1 rfl rfl (fm_dec dtX0_passWeek 0 rfl) ?_
  refine fm_getI (k := 41) (j := 2) (ci := 6) (pc := 1) fl_X0_29 (by decide) rfl (by decide) rfl (fm_dec dtX0_passWeek 1 rfl) ?_
  refine fm_sipush (pc := 4) (v := 200) (by decide) (fm_dec dtX0_passWeek 2 rfl) ?_
  refine fm_icmp_lt (pc := 7) 12 (by decide) (fm_dec dtX0_passWeek 3 rfl) (fun hc7 => ?_) (fun hc7 => ?_)
  · refine fm_aloadn (pc := 12) (n := 1) 1 rfl rfl (fm_dec dtX0_passWeek 6 rfl) ?_
    refine fm_dup (pc := 13) rfl (fm_dec dtX0_passWeek 7 rfl) ?_
    refine fm_getI (k := 41) (j := 2) (ci := 6) (pc := 14) fl_X0_29 (by decide) rfl (by decide) rfl (fm_dec dtX0_passWeek 8 rfl) ?_
    refine fm_iconst (pc := 17) (v := 1) (by decide) (fm_dec dtX0_passWeek 9 rfl) ?_
    refine fm_iadd (pc := 18) (fm_dec dtX0_passWeek 10 rfl) ?_
    refine fm_putI (k := 41) (j := 2) (ci := 6) (pc := 19) fl_X0_29 (by decide) rfl (by decide) rfl rfl (fm_dec dtX0_passWeek 11 rfl) ?_
    refine fm_aloadn (pc := 22) (n := 1) 1 rfl rfl (fm_dec dtX0_passWeek 12 rfl) ?_
    refine fm_aloadn (pc := 23) (n := 0) 0 rfl rfl (fm_dec dtX0_passWeek 13 rfl) ?_
    refine fm_getR (k := 32) (j := 0) (ci := 0) (pc := 24) 3 rfl fl_X0_15 (by decide) rfl (by decide) (by decide) (fm_dec dtX0_passWeek 14 rfl) ?_
    refine fm_getI (k := 3) (j := 11) (ci := 8) (pc := 27) fl_X0_134 (by decide) rfl (by decide) rfl (fm_dec dtX0_passWeek 15 rfl) ?_
    refine fm_putI (k := 41) (j := 3) (ci := 6) (pc := 30) fl_X0_116 (by decide) rfl (by decide) rfl rfl (fm_dec dtX0_passWeek 16 rfl) ?_
    refine fm_iconst (pc := 33) (v := 0) (by decide) (fm_dec dtX0_passWeek 17 rfl) ?_
    refine fm_istoren (pc := 34) (n := 2) 2 rfl (by decide) rfl (fm_dec dtX0_passWeek 18 rfl) ?_
    dsimp only [List.set_cons_zero, List.set_cons_succ]
    refine fm_iloadn (pc := 35) (n := 2) 2 rfl rfl (fm_dec dtX0_passWeek 19 rfl) ?_
    refine fm_aloadn (pc := 36) (n := 0) 0 rfl rfl (fm_dec dtX0_passWeek 20 rfl) ?_
    refine fm_getR (k := 32) (j := 0) (ci := 0) (pc := 37) 3 rfl fl_X0_15 (by decide) rfl (by decide) (by decide) (fm_dec dtX0_passWeek 21 rfl) ?_
    refine fm_getI (k := 3) (j := 9) (ci := 8) (pc := 40) fl_X0_75 (by decide) rfl (by decide) rfl (fm_dec dtX0_passWeek 22 rfl) ?_
    refine fm_icmp_ge (pc := 43) 72 (by decide) (fm_dec dtX0_passWeek 23 rfl) (fun _ => ?_) (fun hc43 => by exfalso; exact hc43 (by simp [fmI, hl]))
    refine fm_iconst (pc := 72) (v := 1) (by decide) (fm_dec dtX0_passWeek 40 rfl) ?_
    exact fm_zreturn (pc := 73) rfl rfl (fm_dec dtX0_passWeek 41 rfl) (hq _ _ (by intro k h1; simp [fmI, h1]) (by intro j h1 h2; simp [fmI, upd, h1, h2]) rfl)
  · refine fm_iconst (pc := 10) (v := 0) (by decide) (fm_dec dtX0_passWeek 4 rfl) ?_
    exact fm_zreturn (pc := 11) rfl rfl (fm_dec dtX0_passWeek 5 rfl) (hq _ _ (by intro k h1; simp [fmI, h1]) (by intro j h1 h2; simp [fmI, upd, h1, h2]) rfl)

set_option maxRecDepth 20000 in
theorem play_loop {l : Launch} {G : fmG} {Q : fmR → fmM → Prop} (hst : l.stackTraces = false) (s : Int32) (w : Nat) (hw : w ≤ 60) : ∀ (n : Nat) (M : fmM) (i : Nat), i + n = w → M.1 3 9 = 0 → (∀ M', (∀ k, k ≠ 41 → M'.1 k = M.1 k) → (∀ j, j ≠ 2 → j ≠ 3 → M'.1 41 j = M.1 41 j) → M'.2 = M.2 → Q (.inl none) M') → fmEv Tx l G 6 qX4_play 45 [some (.ref (G.1 39)), some (.ref (G.1 47)), some (.int s), some (.int (nI w)), some (.int (nI i))] [] M Q := by
  intro n
  induction n with
  | zero =>
    intro M i hi hl hq
    have e : i = w := by omega
    subst e
    refine fm_iload (pc := 45) (i := 4) rfl (fm_dec dtX4_play 24 rfl) ?_
    refine fm_iloadn (pc := 47) (n := 3) 3 rfl rfl (fm_dec dtX4_play 25 rfl) ?_
    refine fm_icmp_ge (pc := 48) 77 (by decide) (fm_dec dtX4_play 26 rfl) (fun _ => ?_) (fun hc48 => by exfalso; exact hc48 (Int32.le_refl _))
    exact fm_return (pc := 77) rfl (fm_dec dtX4_play 39 rfl) (hq M (fun _ _ => rfl) (fun _ _ _ => rfl) rfl)
  | succ n ih =>
    intro M i hi hl hq
    refine fm_iload (pc := 45) (i := 4) rfl (fm_dec dtX4_play 24 rfl) ?_
    refine fm_iloadn (pc := 47) (n := 3) 3 rfl rfl (fm_dec dtX4_play 25 rfl) ?_
    refine fm_icmp_ge (pc := 48) 77 (by decide) (fm_dec dtX4_play 26 rfl) (fun hc48 => by exfalso; exact nI_ge (show i < w by omega) (by omega) hc48) (fun _ => ?_)
    refine fm_aloadn (pc := 51) (n := 0) 0 rfl rfl (fm_dec dtX4_play 27 rfl) ?_
    refine fm_invV0 (k := 39) (d' := 5) (pc := 52) cv_X4_47 (by decide) rfl (Nat.le_of_ble_eq_true rfl) (by decide) (fm_dec dtX4_play 28 rfl) ?_
    refine c_draw0 hst hl ?_
    refine fm_then0 ?_
    refine fm_aloadn (pc := 55) (n := 0) 0 rfl rfl (fm_dec dtX4_play 29 rfl) ?_
    refine fm_invV0 (k := 39) (d' := 5) (pc := 56) cv_X4_50 (by decide) rfl (Nat.le_of_ble_eq_true rfl) (by decide) (fm_dec dtX4_play 30 rfl) ?_
    refine c_putf0 hst hl ?_
    refine fm_then0 ?_
    refine fm_aloadn (pc := 59) (n := 0) 0 rfl rfl (fm_dec dtX4_play 31 rfl) ?_
    refine fm_getR (k := 39) (j := 2) (ci := 4) (pc := 60) 32 rfl fl_X4_22 (by decide) rfl (by decide) (by decide) (fm_dec dtX4_play 32 rfl) ?_
    refine fm_aloadn (pc := 63) (n := 0) 0 rfl rfl (fm_dec dtX4_play 33 rfl) ?_
    refine fm_getR (k := 39) (j := 0) (ci := 4) (pc := 64) 41 rfl fl_X4_12 (by decide) rfl (by decide) (by decide) (fm_dec dtX4_play 34 rfl) ?_
    refine fm_invV1 (k := 32) (d' := 0) (pc := 67) cv_X4_53 (by decide) rfl (Nat.le_of_ble_eq_true rfl) (by decide) (fm_dec dtX4_play 35 rfl) ?_
    refine c_pass0 hst hl (fun r67 M67 f67 g67 e67 => ?_)
    refine fm_then1 ?_
    refine fm_pop (pc := 70) rfl (fm_dec dtX4_play 36 rfl) ?_
    refine fm_iincc (pc := 71) 4 1 (by decide) rfl (by decide) rfl (fm_dec dtX4_play 37 rfl) ?_
    dsimp only [List.set_cons_zero, List.set_cons_succ]
    refine fm_goto (pc := 74) 45 (by decide) (fm_dec dtX4_play 38 rfl) ?_
    rw [show nI i + 1 = nI (i + 1) from nI_1 i]
    exact ih _ (i + 1) (by omega) (by rw [f67 3 (by decide)]; exact hl) (fun M1 f1 g1 e1 => hq M1 (fun k h => by rw [f1 k h, f67 k h]) (fun j h1 h2 => by rw [g1 j h1 h2, g67 j h1 h2]) (by rw [e1, e67]))

set_option maxRecDepth 20000 in
theorem c_play0 {l : Launch} {G : fmG} {M : fmM} {Q : fmR → fmM → Prop} (hst : l.stackTraces = false) (s : Int32) (w : Nat) (hl : M.1 3 9 = 0) (hw : w ≤ 60) (h1 : M.1 47 1 = 0) (hq : ∀ M', M'.1 3 9 = 0 → M'.1 41 1 = 0 → M'.1 41 4 = 0 → M'.1 41 5 = 0 → M'.2 41 6 = 0 → M'.1 39 1 = 0 → Q (.inl none) M') : fmGood Tx l G 6 qX4_play [.ref (G.1 39), .ref (G.1 47), .int s, .int (nI w)] M Q := by
  refine fmGood_of hst (by decide +kernel) (Nat.le_of_ble_eq_true rfl) ?_
  show fmEv Tx l G 6 qX4_play 0 [some (.ref (G.1 39)), some (.ref (G.1 47)), some (.int s), some (.int (nI w)), none] [] M Q
  refine fm_aloadn (pc := 0) (n := 0) 0 rfl rfl (fm_dec dtX4_play 0 rfl) ?_
  refine fm_getR (k := 39) (j := 0) (ci := 4) (pc := 1) 41 rfl fl_X4_12 (by decide) rfl (by decide) (by decide) (fm_dec dtX4_play 1 rfl) ?_
  refine fm_aloadn (pc := 4) (n := 1) 1 rfl rfl (fm_dec dtX4_play 2 rfl) ?_
  refine fm_invV1 (k := 41) (d' := 0) (pc := 5) cv_X4_26 (by decide) rfl (Nat.le_of_ble_eq_true rfl) (by decide) (fm_dec dtX4_play 3 rfl) ?_
  refine c_cps_41_47 hst (fun M5 hf5 hg5 e15 e25 e35 e45 e55 e65 => ?_)
  refine fm_then0 ?_
  refine fm_aloadn (pc := 8) (n := 0) 0 rfl rfl (fm_dec dtX4_play 4 rfl) ?_
  refine fm_getR (k := 39) (j := 0) (ci := 4) (pc := 9) 41 rfl fl_X4_12 (by decide) rfl (by decide) (by decide) (fm_dec dtX4_play 5 rfl) ?_
  refine fm_iconst (pc := 12) (v := 0) (by decide) (fm_dec dtX4_play 6 rfl) ?_
  refine fm_putI (k := 41) (j := 4) (ci := 6) (pc := 13) fl_X4_30 (by decide) rfl (by decide) rfl rfl (fm_dec dtX4_play 7 rfl) ?_
  refine fm_aloadn (pc := 16) (n := 0) 0 rfl rfl (fm_dec dtX4_play 8 rfl) ?_
  refine fm_getR (k := 39) (j := 0) (ci := 4) (pc := 17) 41 rfl fl_X4_12 (by decide) rfl (by decide) (by decide) (fm_dec dtX4_play 9 rfl) ?_
  refine fm_iconst (pc := 20) (v := 0) (by decide) (fm_dec dtX4_play 10 rfl) ?_
  refine fm_putI (k := 41) (j := 5) (ci := 6) (pc := 21) fl_X4_34 (by decide) rfl (by decide) rfl rfl (fm_dec dtX4_play 11 rfl) ?_
  refine fm_aloadn (pc := 24) (n := 0) 0 rfl rfl (fm_dec dtX4_play 12 rfl) ?_
  refine fm_getR (k := 39) (j := 0) (ci := 4) (pc := 25) 41 rfl fl_X4_12 (by decide) rfl (by decide) (by decide) (fm_dec dtX4_play 13 rfl) ?_
  refine fm_lconst (pc := 28) (v := 0) (by decide) (fm_dec dtX4_play 14 rfl) ?_
  refine fm_putJ (k := 41) (j := 6) (ci := 6) (pc := 29) fl_X4_37 (by decide) rfl (by decide) rfl rfl (fm_dec dtX4_play 15 rfl) ?_
  refine fm_aloadn (pc := 32) (n := 0) 0 rfl rfl (fm_dec dtX4_play 16 rfl) ?_
  refine fm_iconst (pc := 33) (v := 0) (by decide) (fm_dec dtX4_play 17 rfl) ?_
  refine fm_putI (k := 39) (j := 1) (ci := 4) (pc := 34) fl_X4_41 (by decide) rfl (by decide) rfl rfl (fm_dec dtX4_play 18 rfl) ?_
  refine fm_aloadn (pc := 37) (n := 0) 0 rfl rfl (fm_dec dtX4_play 19 rfl) ?_
  refine fm_iloadn (pc := 38) (n := 2) 2 rfl rfl (fm_dec dtX4_play 20 rfl) ?_
  refine fm_putI (k := 39) (j := 4) (ci := 4) (pc := 39) fl_X4_44 (by decide) rfl (by decide) rfl rfl (fm_dec dtX4_play 21 rfl) ?_
  refine fm_iconst (pc := 42) (v := 0) (by decide) (fm_dec dtX4_play 22 rfl) ?_
  refine fm_istore (pc := 43) (i := 4) (by decide) rfl (fm_dec dtX4_play 23 rfl) ?_
  dsimp only [List.set_cons_zero, List.set_cons_succ]
  refine play_loop hst s w hw w _ 0 (by omega) (by simp [fmI, fmJ, hf5, hl]) (fun M1 f1 g1 e1 => hq M1 ?_ ?_ ?_ ?_ ?_ ?_)
  · rw [f1 3 (by decide)]; simp [fmI, fmJ, hf5, hl]
  · rw [g1 1 (by decide) (by decide)]; simp [fmI, fmJ, upd, e15, h1]
  · rw [g1 4 (by decide) (by decide)]; simp [fmI, fmJ, upd]
  · rw [g1 5 (by decide) (by decide)]; simp [fmI, fmJ, upd]
  · rw [e1]; simp [fmI, fmJ, vp_updL]
  · rw [f1 39 (by decide)]; simp [fmI, fmJ, upd]

theorem inR_nI {v hi : Int32} {lo : Int32} (n : Nat) (hn : hi.toInt = n) (hl : 0 ≤ lo.toInt) (h : inR v lo hi) : ∃ w : Nat, w ≤ n ∧ v = nI w := by
  have h9 := inR_toInt h
  refine ⟨v.toInt.toNat, by omega, i32_ext ?_⟩
  have hb : v.toInt.toNat < 2 ^ 31 := by
    have := Int32.toInt_lt v
    omega
  rw [nI_toInt hb]
  omega

set_option maxRecDepth 20000 in
theorem x_years {l : Launch} {G : fmG} {M : fmM} {Q : fmR → fmM → Prop} (hst : l.stackTraces = false) (s v q : Int32) (hl : M.1 3 9 = 0) (h1 : M.1 47 1 = 0) (hq : ∀ M', inR v 1 60 → inR q 0 4 → Q (.inl (some (.int 0))) M') (hx : ∀ M', ¬ (inR v 1 60 ∧ inR q 0 4) → Q (.inr fmIAE) M') : fmGood Tx l G 7 qX10_years [.ref (G.1 0), .int s, .int v, .int q] M Q := by
  refine fmGood_of hst (by decide +kernel) (Nat.le_of_ble_eq_true rfl) ?_
  show fmEv Tx l G 7 qX10_years 0 [some (.ref (G.1 0)), some (.int s), some (.int v), some (.int q)] [] M Q
  refine fm_aloadn (pc := 0) (n := 0) 0 rfl rfl (fm_dec dtX10_years 0 rfl) ?_
  refine fm_iloadn (pc := 1) (n := 2) 2 rfl rfl (fm_dec dtX10_years 1 rfl) ?_
  refine fm_iconst (pc := 2) (v := 1) (by decide) (fm_dec dtX10_years 2 rfl) ?_
  refine fm_bipush (pc := 3) (v := 60) (by decide) (fm_dec dtX10_years 3 rfl) ?_
  refine fm_invV3 (k := 0) (d' := 0) (pc := 5) cv_X10_169 (by decide) rfl (Nat.le_of_ble_eq_true rfl) (by decide) (fm_dec dtX10_years 4 rfl) ?_
  refine c_needWithin hst _ _ _ (fun hi5 => ?_) (fun hx5 => ?_)
  · refine fm_then0 ?_
    refine fm_aloadn (pc := 8) (n := 0) 0 rfl rfl (fm_dec dtX10_years 5 rfl) ?_
    refine fm_iloadn (pc := 9) (n := 3) 3 rfl rfl (fm_dec dtX10_years 6 rfl) ?_
    refine fm_iconst (pc := 10) (v := 0) (by decide) (fm_dec dtX10_years 7 rfl) ?_
    refine fm_iconst (pc := 11) (v := 4) (by decide) (fm_dec dtX10_years 8 rfl) ?_
    refine fm_invV3 (k := 0) (d' := 0) (pc := 12) cv_X10_169 (by decide) rfl (Nat.le_of_ble_eq_true rfl) (by decide) (fm_dec dtX10_years 9 rfl) ?_
    refine c_needWithin hst _ _ _ (fun hi12 => ?_) (fun hx12 => ?_)
    · refine fm_then0 ?_
      refine fm_aloadn (pc := 15) (n := 0) 0 rfl rfl (fm_dec dtX10_years 10 rfl) ?_
      refine fm_getR (k := 0) (j := 8) (ci := 10) (pc := 16) 39 rfl fl_X10_68 (by decide) rfl (by decide) (by decide) (fm_dec dtX10_years 11 rfl) ?_
      refine fm_aloadn (pc := 19) (n := 0) 0 rfl rfl (fm_dec dtX10_years 12 rfl) ?_
      refine fm_getR (k := 0) (j := 9) (ci := 10) (pc := 20) 46 rfl fl_X10_75 (by decide) rfl (by decide) (by decide) (fm_dec dtX10_years 13 rfl) ?_
      refine fm_getR (k := 46) (j := 0) (ci := 5) (pc := 23) 47 rfl fl_X10_90 (by decide) rfl (by decide) (by decide) (fm_dec dtX10_years 14 rfl) ?_
      refine fm_iloadn (pc := 26) (n := 1) 1 rfl rfl (fm_dec dtX10_years 15 rfl) ?_
      refine fm_iloadn (pc := 27) (n := 2) 2 rfl rfl (fm_dec dtX10_years 16 rfl) ?_
      obtain ⟨w, hw, rfl⟩ := inR_nI 60 (by decide) (by decide) hi5
      refine fm_invV3 (k := 39) (d' := 6) (pc := 28) cv_X10_342 (by decide) rfl (Nat.le_of_ble_eq_true rfl) (by decide) (fm_dec dtX10_years 17 rfl) ?_
      refine c_play0 hst _ w hl (by omega) h1 (fun M28 a28 b28 c28 d28 e28 f28 => ?_)
      refine fm_then0 ?_
      refine fm_iloadn (pc := 31) (n := 3) 3 rfl rfl (fm_dec dtX10_years 18 rfl) ?_
      rcases inR_04 hi12 with rfl | rfl | rfl | rfl | rfl
      · refine fm_table (pc := 32) 64 (by decide) rfl (fm_dec dtX10_years 19 rfl) ?_
        refine fm_aloadn (pc := 64) (n := 0) 0 rfl rfl (fm_dec dtX10_years 20 rfl) ?_
        refine fm_getR (k := 0) (j := 1) (ci := 10) (pc := 65) 3 rfl fl_X10_19 (by decide) rfl (by decide) (by decide) (fm_dec dtX10_years 21 rfl) ?_
        refine fm_getI (k := 3) (j := 9) (ci := 8) (pc := 68) fl_X10_138 (by decide) rfl (by decide) rfl (fm_dec dtX10_years 22 rfl) ?_
        refine fm_aloadn (pc := 71) (n := 0) 0 rfl rfl (fm_dec dtX10_years 23 rfl) ?_
        refine fm_getR (k := 0) (j := 8) (ci := 10) (pc := 72) 39 rfl fl_X10_68 (by decide) rfl (by decide) (by decide) (fm_dec dtX10_years 24 rfl) ?_
        refine fm_getR (k := 39) (j := 0) (ci := 4) (pc := 75) 41 rfl fl_X10_346 (by decide) rfl (by decide) (by decide) (fm_dec dtX10_years 25 rfl) ?_
        refine fm_getI (k := 41) (j := 1) (ci := 6) (pc := 78) fl_X10_179 (by decide) rfl (by decide) rfl (fm_dec dtX10_years 26 rfl) ?_
        refine fm_invS1 (d' := 0) (pc := 81) cs_X10_182 (Nat.le_of_ble_eq_true rfl) (by decide) (fm_dec dtX10_years 27 rfl) ?_
        refine c_bitCount hst _ ?_
        refine fm_then1 ?_
        refine fm_isub (pc := 84) (fm_dec dtX10_years 28 rfl) ?_
        exact fm_ireturn (pc := 85) rfl (fm_dec dtX10_years 29 rfl) (by rw [a28, b28]; exact hq _ hi5 hi12)
      · refine fm_table (pc := 32) 86 (by decide) rfl (fm_dec dtX10_years 19 rfl) ?_
        refine fm_aloadn (pc := 86) (n := 0) 0 rfl rfl (fm_dec dtX10_years 30 rfl) ?_
        refine fm_getR (k := 0) (j := 8) (ci := 10) (pc := 87) 39 rfl fl_X10_68 (by decide) rfl (by decide) (by decide) (fm_dec dtX10_years 31 rfl) ?_
        refine fm_getR (k := 39) (j := 0) (ci := 4) (pc := 90) 41 rfl fl_X10_346 (by decide) rfl (by decide) (by decide) (fm_dec dtX10_years 32 rfl) ?_
        refine fm_getI (k := 41) (j := 4) (ci := 6) (pc := 93) fl_X10_191 (by decide) rfl (by decide) rfl (fm_dec dtX10_years 33 rfl) ?_
        exact fm_ireturn (pc := 96) rfl (fm_dec dtX10_years 34 rfl) (by rw [c28]; exact hq _ hi5 hi12)
      · refine fm_table (pc := 32) 97 (by decide) rfl (fm_dec dtX10_years 19 rfl) ?_
        refine fm_aloadn (pc := 97) (n := 0) 0 rfl rfl (fm_dec dtX10_years 35 rfl) ?_
        refine fm_getR (k := 0) (j := 8) (ci := 10) (pc := 98) 39 rfl fl_X10_68 (by decide) rfl (by decide) (by decide) (fm_dec dtX10_years 36 rfl) ?_
        refine fm_getR (k := 39) (j := 0) (ci := 4) (pc := 101) 41 rfl fl_X10_346 (by decide) rfl (by decide) (by decide) (fm_dec dtX10_years 37 rfl) ?_
        refine fm_getI (k := 41) (j := 5) (ci := 6) (pc := 104) fl_X10_194 (by decide) rfl (by decide) rfl (fm_dec dtX10_years 38 rfl) ?_
        exact fm_ireturn (pc := 107) rfl (fm_dec dtX10_years 39 rfl) (by rw [d28]; exact hq _ hi5 hi12)
      · refine fm_table (pc := 32) 108 (by decide) rfl (fm_dec dtX10_years 19 rfl) ?_
        refine fm_aloadn (pc := 108) (n := 0) 0 rfl rfl (fm_dec dtX10_years 40 rfl) ?_
        refine fm_getR (k := 0) (j := 8) (ci := 10) (pc := 109) 39 rfl fl_X10_68 (by decide) rfl (by decide) (by decide) (fm_dec dtX10_years 41 rfl) ?_
        refine fm_getI (k := 39) (j := 1) (ci := 4) (pc := 112) fl_X10_349 (by decide) rfl (by decide) rfl (fm_dec dtX10_years 42 rfl) ?_
        exact fm_ireturn (pc := 115) rfl (fm_dec dtX10_years 43 rfl) (by rw [f28]; exact hq _ hi5 hi12)
      · refine fm_table (pc := 32) 116 (by decide) rfl (fm_dec dtX10_years 19 rfl) ?_
        refine fm_aloadn (pc := 116) (n := 0) 0 rfl rfl (fm_dec dtX10_years 44 rfl) ?_
        refine fm_getR (k := 0) (j := 8) (ci := 10) (pc := 117) 39 rfl fl_X10_68 (by decide) rfl (by decide) (by decide) (fm_dec dtX10_years 45 rfl) ?_
        refine fm_getR (k := 39) (j := 0) (ci := 4) (pc := 120) 41 rfl fl_X10_346 (by decide) rfl (by decide) (by decide) (fm_dec dtX10_years 46 rfl) ?_
        refine fm_getJ (k := 41) (j := 6) (ci := 6) (pc := 123) fl_X10_247 (by decide) rfl (by decide) rfl (fm_dec dtX10_years 47 rfl) ?_
        refine fm_ldc2 (pc := 126) kc_X10_251 (fm_dec dtX10_years 48 rfl) ?_
        refine fm_ldiv (pc := 129) (by decide) (fm_dec dtX10_years 49 rfl) ?_
        refine fm_l2i (pc := 130) (fm_dec dtX10_years 50 rfl) ?_
        exact fm_ireturn (pc := 131) rfl (fm_dec dtX10_years 51 rfl) (by rw [e28]; exact hq _ hi5 hi12)
    · refine fm_thenX ?_
      exact hx _ (fun h => by first | exact hx12 h.1 | exact hx12 h.2)
  · refine fm_thenX ?_
    exact hx _ (fun h => by first | exact hx5 h.1 | exact hx5 h.2)

set_option maxRecDepth 20000 in
theorem c_cellOf {l : Launch} {G : fmG} {M : fmM} {Q : fmR → fmM → Prop} (hst : l.stackTraces = false) (a b c : Int32) (hq : Q (.inl (some (.int ((a * 13 + b) * 13 + c)))) M) : fmGood Tx l G 0 qX3_cellOf [.int a, .int b, .int c] M Q := by
  refine fmGood_of hst (by decide +kernel) (Nat.le_of_ble_eq_true rfl) ?_
  show fmEv Tx l G 0 qX3_cellOf 0 [some (.int a), some (.int b), some (.int c)] [] M Q
  refine fm_iloadn (pc := 0) (n := 0) 0 rfl rfl (fm_dec dtX3_cellOf 0 rfl) ?_
  refine fm_bipush (pc := 1) (v := 13) (by decide) (fm_dec dtX3_cellOf 1 rfl) ?_
  refine fm_imul (pc := 3) (fm_dec dtX3_cellOf 2 rfl) ?_
  refine fm_iloadn (pc := 4) (n := 1) 1 rfl rfl (fm_dec dtX3_cellOf 3 rfl) ?_
  refine fm_iadd (pc := 5) (fm_dec dtX3_cellOf 4 rfl) ?_
  refine fm_bipush (pc := 6) (v := 13) (by decide) (fm_dec dtX3_cellOf 5 rfl) ?_
  refine fm_imul (pc := 8) (fm_dec dtX3_cellOf 6 rfl) ?_
  refine fm_iloadn (pc := 9) (n := 2) 2 rfl rfl (fm_dec dtX3_cellOf 7 rfl) ?_
  refine fm_iadd (pc := 10) (fm_dec dtX3_cellOf 8 rfl) ?_
  exact fm_ireturn (pc := 11) rfl (fm_dec dtX3_cellOf 9 rfl) hq

set_option maxRecDepth 20000 in
theorem c_prep1 {l : Launch} {G : fmG} {M : fmM} {Q : fmR → fmM → Prop} (hst : l.stackTraces = false)  (hl : M.1 3 9 = 0) (h5 : M.1 34 5 = 0) (h3 : M.1 47 3 = 8) (h11 : M.1 3 11 = 8) (hq : ∀ M', M'.2 34 6 = 0 → Q (.inl none) M') : fmGood Tx l G 6 qX3_prepare [.ref (G.1 34), .ref (G.1 47), .int 1] M Q := by
  refine fmGood_of hst (by decide +kernel) (Nat.le_of_ble_eq_true rfl) ?_
  show fmEv Tx l G 6 qX3_prepare 0 [some (.ref (G.1 34)), some (.ref (G.1 47)), some (.int 1), none, none] [] M Q
  refine fm_aloadn (pc := 0) (n := 0) 0 rfl rfl (fm_dec dtX3_prepare 0 rfl) ?_
  refine fm_getI (k := 34) (j := 5) (ci := 3) (pc := 1) fl_X3_29 (by decide) rfl (by decide) rfl (fm_dec dtX3_prepare 1 rfl) ?_
  refine fm_iloadn (pc := 4) (n := 2) 2 rfl rfl (fm_dec dtX3_prepare 2 rfl) ?_
  refine fm_icmp_ne (pc := 5) 9 (by decide) (fm_dec dtX3_prepare 3 rfl) (fun _ => ?_) (fun hc5 => by exfalso; rw [h5] at hc5; exact absurd hc5 (by decide))
  refine fm_aloadn (pc := 9) (n := 0) 0 rfl rfl (fm_dec dtX3_prepare 5 rfl) ?_
  refine fm_getR (k := 34) (j := 1) (ci := 3) (pc := 10) 35 rfl fl_X3_11 (by decide) rfl (by decide) (by decide) (fm_dec dtX3_prepare 6 rfl) ?_
  refine fm_lconst (pc := 13) (v := 0) (by decide) (fm_dec dtX3_prepare 7 rfl) ?_
  refine fm_invS2 (d' := 0) (pc := 14) cs_X3_41 (Nat.le_of_ble_eq_true rfl) (by decide) (fm_dec dtX3_prepare 8 rfl) ?_
  refine c_fillJ hst (fun M14 z14 e14 f14 => ?_)
  refine fm_then0 ?_
  refine fm_iconst (pc := 17) (v := 0) (by decide) (fm_dec dtX3_prepare 9 rfl) ?_
  refine fm_istoren (pc := 18) (n := 3) 3 rfl (by decide) rfl (fm_dec dtX3_prepare 10 rfl) ?_
  dsimp only [List.set_cons_zero, List.set_cons_succ]
  refine fm_iloadn (pc := 19) (n := 3) 3 rfl rfl (fm_dec dtX3_prepare 11 rfl) ?_
  refine fm_iconst (pc := 20) (v := 3) (by decide) (fm_dec dtX3_prepare 12 rfl) ?_
  refine fm_icmp_ge (pc := 21) 79 (by decide) (fm_dec dtX3_prepare 13 rfl) (fun hc21 => by exfalso; exact absurd hc21 (by decide)) (fun _ => ?_)
  refine fm_iloadn (pc := 24) (n := 3) 3 rfl rfl (fm_dec dtX3_prepare 14 rfl) ?_
  refine fm_if_ne (pc := 25) 35 (by decide) (fm_dec dtX3_prepare 15 rfl) (fun hc25 => by exfalso; exact absurd hc25 (by decide)) (fun _ => ?_)
  refine fm_aloadn (pc := 28) (n := 1) 1 rfl rfl (fm_dec dtX3_prepare 16 rfl) ?_
  refine fm_getI (k := 47) (j := 3) (ci := 6) (pc := 29) fl_X3_47 (by decide) rfl (by decide) rfl (fm_dec dtX3_prepare 17 rfl) ?_
  refine fm_goto (pc := 32) 45 (by decide) (fm_dec dtX3_prepare 18 rfl) ?_
  refine fm_topE (v := 8) (by simp [fmI, e14, h3]) ?_
  refine fm_istore (pc := 45) (i := 4) (by decide) rfl (fm_dec dtX3_prepare 23 rfl) ?_
  dsimp only [List.set_cons_zero, List.set_cons_succ]
  refine fm_aloadn (pc := 47) (n := 0) 0 rfl rfl (fm_dec dtX3_prepare 24 rfl) ?_
  refine fm_getR (k := 34) (j := 4) (ci := 3) (pc := 48) 38 rfl fl_X3_22 (by decide) rfl (by decide) (by decide) (fm_dec dtX3_prepare 25 rfl) ?_
  refine fm_iloadn (pc := 51) (n := 3) 3 rfl rfl (fm_dec dtX3_prepare 26 rfl) ?_
  refine fm_iloadn (pc := 52) (n := 3) 3 rfl rfl (fm_dec dtX3_prepare 27 rfl) ?_
  refine fm_iloadn (pc := 53) (n := 2) 2 rfl rfl (fm_dec dtX3_prepare 28 rfl) ?_
  refine fm_icmp_ge (pc := 54) 71 (by decide) (fm_dec dtX3_prepare 29 rfl) (fun hc54 => by exfalso; exact absurd hc54 (by decide)) (fun _ => ?_)
  refine fm_iconst (pc := 57) (v := 0) (by decide) (fm_dec dtX3_prepare 30 rfl) ?_
  refine fm_bipush (pc := 58) (v := 12) (by decide) (fm_dec dtX3_prepare 31 rfl) ?_
  refine fm_iload (pc := 60) (i := 4) rfl (fm_dec dtX3_prepare 32 rfl) ?_
  refine fm_mmin (pc := 62) cs_X3_63 (Nat.le_of_ble_eq_true rfl) (fm_dec dtX3_prepare 33 rfl) ?_
  refine fm_mmax (pc := 65) cs_X3_69 (Nat.le_of_ble_eq_true rfl) (fm_dec dtX3_prepare 34 rfl) ?_
  refine fm_goto (pc := 68) 72 (by decide) (fm_dec dtX3_prepare 35 rfl) ?_
  refine fm_topE (v := 8) (by decide) ?_
  refine fm_iast (k := 38) (n := 3) (pc := 72) (by decide) rfl rfl (fm_inl (by decide)) (fm_dec dtX3_prepare 37 rfl) ?_
  refine fm_iincc (pc := 73) 3 1 (by decide) rfl (by decide) rfl (fm_dec dtX3_prepare 38 rfl) ?_
  dsimp only [List.set_cons_zero, List.set_cons_succ]
  refine fm_goto (pc := 76) 19 (by decide) (fm_dec dtX3_prepare 39 rfl) ?_
  refine fm_iloadn (pc := 19) (n := 3) 3 rfl rfl (fm_dec dtX3_prepare 11 rfl) ?_
  refine fm_iconst (pc := 20) (v := 3) (by decide) (fm_dec dtX3_prepare 12 rfl) ?_
  refine fm_icmp_ge (pc := 21) 79 (by decide) (fm_dec dtX3_prepare 13 rfl) (fun hc21 => by exfalso; exact absurd hc21 (by decide)) (fun _ => ?_)
  refine fm_iloadn (pc := 24) (n := 3) 3 rfl rfl (fm_dec dtX3_prepare 14 rfl) ?_
  refine fm_if_ne (pc := 25) 35 (by decide) (fm_dec dtX3_prepare 15 rfl) (fun _ => ?_) (fun hc25 => by exfalso; exact absurd hc25 (by decide))
  refine fm_aloadn (pc := 35) (n := 0) 0 rfl rfl (fm_dec dtX3_prepare 19 rfl) ?_
  refine fm_getR (k := 34) (j := 0) (ci := 3) (pc := 36) 32 rfl fl_X3_25 (by decide) rfl (by decide) (by decide) (fm_dec dtX3_prepare 20 rfl) ?_
  refine fm_getR (k := 32) (j := 0) (ci := 0) (pc := 39) 3 rfl fl_X3_52 (by decide) rfl (by decide) (by decide) (fm_dec dtX3_prepare 21 rfl) ?_
  refine fm_getI (k := 3) (j := 11) (ci := 8) (pc := 42) fl_X3_58 (by decide) rfl (by decide) rfl (fm_dec dtX3_prepare 22 rfl) ?_
  refine fm_topE (v := 8) (by simp [fmI, e14, h11]) ?_
  refine fm_istore (pc := 45) (i := 4) (by decide) rfl (fm_dec dtX3_prepare 23 rfl) ?_
  dsimp only [List.set_cons_zero, List.set_cons_succ]
  refine fm_aloadn (pc := 47) (n := 0) 0 rfl rfl (fm_dec dtX3_prepare 24 rfl) ?_
  refine fm_getR (k := 34) (j := 4) (ci := 3) (pc := 48) 38 rfl fl_X3_22 (by decide) rfl (by decide) (by decide) (fm_dec dtX3_prepare 25 rfl) ?_
  refine fm_iloadn (pc := 51) (n := 3) 3 rfl rfl (fm_dec dtX3_prepare 26 rfl) ?_
  refine fm_iloadn (pc := 52) (n := 3) 3 rfl rfl (fm_dec dtX3_prepare 27 rfl) ?_
  refine fm_iloadn (pc := 53) (n := 2) 2 rfl rfl (fm_dec dtX3_prepare 28 rfl) ?_
  refine fm_icmp_ge (pc := 54) 71 (by decide) (fm_dec dtX3_prepare 29 rfl) (fun _ => ?_) (fun hc54 => by exfalso; exact hc54 (by decide))
  refine fm_iconst (pc := 71) (v := 0) (by decide) (fm_dec dtX3_prepare 36 rfl) ?_
  refine fm_topE (v := 0) (by decide) ?_
  refine fm_iast (k := 38) (n := 3) (pc := 72) (by decide) rfl rfl (fm_inl (by decide)) (fm_dec dtX3_prepare 37 rfl) ?_
  refine fm_iincc (pc := 73) 3 1 (by decide) rfl (by decide) rfl (fm_dec dtX3_prepare 38 rfl) ?_
  dsimp only [List.set_cons_zero, List.set_cons_succ]
  refine fm_goto (pc := 76) 19 (by decide) (fm_dec dtX3_prepare 39 rfl) ?_
  refine fm_iloadn (pc := 19) (n := 3) 3 rfl rfl (fm_dec dtX3_prepare 11 rfl) ?_
  refine fm_iconst (pc := 20) (v := 3) (by decide) (fm_dec dtX3_prepare 12 rfl) ?_
  refine fm_icmp_ge (pc := 21) 79 (by decide) (fm_dec dtX3_prepare 13 rfl) (fun hc21 => by exfalso; exact absurd hc21 (by decide)) (fun _ => ?_)
  refine fm_iloadn (pc := 24) (n := 3) 3 rfl rfl (fm_dec dtX3_prepare 14 rfl) ?_
  refine fm_if_ne (pc := 25) 35 (by decide) (fm_dec dtX3_prepare 15 rfl) (fun _ => ?_) (fun hc25 => by exfalso; exact absurd hc25 (by decide))
  refine fm_aloadn (pc := 35) (n := 0) 0 rfl rfl (fm_dec dtX3_prepare 19 rfl) ?_
  refine fm_getR (k := 34) (j := 0) (ci := 3) (pc := 36) 32 rfl fl_X3_25 (by decide) rfl (by decide) (by decide) (fm_dec dtX3_prepare 20 rfl) ?_
  refine fm_getR (k := 32) (j := 0) (ci := 0) (pc := 39) 3 rfl fl_X3_52 (by decide) rfl (by decide) (by decide) (fm_dec dtX3_prepare 21 rfl) ?_
  refine fm_getI (k := 3) (j := 11) (ci := 8) (pc := 42) fl_X3_58 (by decide) rfl (by decide) rfl (fm_dec dtX3_prepare 22 rfl) ?_
  refine fm_topE (v := 8) (by simp [fmI, e14, h11]) ?_
  refine fm_istore (pc := 45) (i := 4) (by decide) rfl (fm_dec dtX3_prepare 23 rfl) ?_
  dsimp only [List.set_cons_zero, List.set_cons_succ]
  refine fm_aloadn (pc := 47) (n := 0) 0 rfl rfl (fm_dec dtX3_prepare 24 rfl) ?_
  refine fm_getR (k := 34) (j := 4) (ci := 3) (pc := 48) 38 rfl fl_X3_22 (by decide) rfl (by decide) (by decide) (fm_dec dtX3_prepare 25 rfl) ?_
  refine fm_iloadn (pc := 51) (n := 3) 3 rfl rfl (fm_dec dtX3_prepare 26 rfl) ?_
  refine fm_iloadn (pc := 52) (n := 3) 3 rfl rfl (fm_dec dtX3_prepare 27 rfl) ?_
  refine fm_iloadn (pc := 53) (n := 2) 2 rfl rfl (fm_dec dtX3_prepare 28 rfl) ?_
  refine fm_icmp_ge (pc := 54) 71 (by decide) (fm_dec dtX3_prepare 29 rfl) (fun _ => ?_) (fun hc54 => by exfalso; exact hc54 (by decide))
  refine fm_iconst (pc := 71) (v := 0) (by decide) (fm_dec dtX3_prepare 36 rfl) ?_
  refine fm_topE (v := 0) (by decide) ?_
  refine fm_iast (k := 38) (n := 3) (pc := 72) (by decide) rfl rfl (fm_inl (by decide)) (fm_dec dtX3_prepare 37 rfl) ?_
  refine fm_iincc (pc := 73) 3 1 (by decide) rfl (by decide) rfl (fm_dec dtX3_prepare 38 rfl) ?_
  dsimp only [List.set_cons_zero, List.set_cons_succ]
  refine fm_goto (pc := 76) 19 (by decide) (fm_dec dtX3_prepare 39 rfl) ?_
  refine fm_iloadn (pc := 19) (n := 3) 3 rfl rfl (fm_dec dtX3_prepare 11 rfl) ?_
  refine fm_iconst (pc := 20) (v := 3) (by decide) (fm_dec dtX3_prepare 12 rfl) ?_
  refine fm_icmp_ge (pc := 21) 79 (by decide) (fm_dec dtX3_prepare 13 rfl) (fun _ => ?_) (fun hc21 => by exfalso; exact hc21 (by decide))
  refine fm_iconst (pc := 79) (v := 0) (by decide) (fm_dec dtX3_prepare 40 rfl) ?_
  refine fm_istoren (pc := 80) (n := 3) 3 rfl (by decide) rfl (fm_dec dtX3_prepare 41 rfl) ?_
  dsimp only [List.set_cons_zero, List.set_cons_succ]
  refine fm_iloadn (pc := 81) (n := 3) 3 rfl rfl (fm_dec dtX3_prepare 42 rfl) ?_
  refine fm_aloadn (pc := 82) (n := 0) 0 rfl rfl (fm_dec dtX3_prepare 43 rfl) ?_
  refine fm_getR (k := 34) (j := 0) (ci := 3) (pc := 83) 32 rfl fl_X3_25 (by decide) rfl (by decide) (by decide) (fm_dec dtX3_prepare 44 rfl) ?_
  refine fm_getR (k := 32) (j := 0) (ci := 0) (pc := 86) 3 rfl fl_X3_52 (by decide) rfl (by decide) (by decide) (fm_dec dtX3_prepare 45 rfl) ?_
  refine fm_getI (k := 3) (j := 9) (ci := 8) (pc := 89) fl_X3_72 (by decide) rfl (by decide) rfl (fm_dec dtX3_prepare 46 rfl) ?_
  refine fm_icmp_ge (pc := 92) 138 (by decide) (fm_dec dtX3_prepare 47 rfl) (fun _ => ?_) (fun hc92 => by exfalso; exact hc92 (by simp [fmI, e14, hl]))
  refine fm_aloadn (pc := 138) (n := 0) 0 rfl rfl (fm_dec dtX3_prepare 71 rfl) ?_
  refine fm_aloadn (pc := 139) (n := 0) 0 rfl rfl (fm_dec dtX3_prepare 72 rfl) ?_
  refine fm_getR (k := 34) (j := 1) (ci := 3) (pc := 140) 35 rfl fl_X3_11 (by decide) rfl (by decide) (by decide) (fm_dec dtX3_prepare 73 rfl) ?_
  refine fm_aloadn (pc := 143) (n := 0) 0 rfl rfl (fm_dec dtX3_prepare 74 rfl) ?_
  refine fm_getR (k := 34) (j := 4) (ci := 3) (pc := 144) 38 rfl fl_X3_22 (by decide) rfl (by decide) (by decide) (fm_dec dtX3_prepare 75 rfl) ?_
  refine fm_iconst (pc := 147) (v := 0) (by decide) (fm_dec dtX3_prepare 76 rfl) ?_
  refine fm_iald (k := 38) (n := 3) (pc := 148) (by decide) rfl rfl (fm_inl (by decide)) (fm_dec dtX3_prepare 77 rfl) ?_
  refine fm_topE (v := 8) (by simp [fmI, upd]) ?_
  refine fm_aloadn (pc := 149) (n := 0) 0 rfl rfl (fm_dec dtX3_prepare 78 rfl) ?_
  refine fm_getR (k := 34) (j := 4) (ci := 3) (pc := 150) 38 rfl fl_X3_22 (by decide) rfl (by decide) (by decide) (fm_dec dtX3_prepare 79 rfl) ?_
  refine fm_iconst (pc := 153) (v := 1) (by decide) (fm_dec dtX3_prepare 80 rfl) ?_
  refine fm_iald (k := 38) (n := 3) (pc := 154) (by decide) rfl rfl (fm_inl (by decide)) (fm_dec dtX3_prepare 81 rfl) ?_
  refine fm_topE (v := 0) (by simp [fmI, upd]) ?_
  refine fm_aloadn (pc := 155) (n := 0) 0 rfl rfl (fm_dec dtX3_prepare 82 rfl) ?_
  refine fm_getR (k := 34) (j := 4) (ci := 3) (pc := 156) 38 rfl fl_X3_22 (by decide) rfl (by decide) (by decide) (fm_dec dtX3_prepare 83 rfl) ?_
  refine fm_iconst (pc := 159) (v := 2) (by decide) (fm_dec dtX3_prepare 84 rfl) ?_
  refine fm_iald (k := 38) (n := 3) (pc := 160) (by decide) rfl rfl (fm_inl (by decide)) (fm_dec dtX3_prepare 85 rfl) ?_
  refine fm_topE (v := 0) (by simp [fmI, upd]) ?_
  refine fm_invS3 (d' := 0) (pc := 161) cs_X3_90 (Nat.le_of_ble_eq_true rfl) (by decide) (fm_dec dtX3_prepare 86 rfl) ?_
  refine c_cellOf hst _ _ _ ?_
  refine fm_then1 ?_
  refine fm_topE (v := 1352) (by decide) ?_
  refine fm_lald (k := 35) (n := 2197) (pc := 164) (by decide) rfl rfl (fm_inl (by decide)) (fm_dec dtX3_prepare 87 rfl) ?_
  refine fm_topJ (v := 0) (by first | exact z14 _ (by decide) | (simp only [fmI_2]; exact z14 _ (by decide))) ?_
  refine fm_putJ (k := 34) (j := 6) (ci := 3) (pc := 165) fl_X3_33 (by decide) rfl (by decide) rfl rfl (fm_dec dtX3_prepare 88 rfl) ?_
  refine fm_aloadn (pc := 168) (n := 0) 0 rfl rfl (fm_dec dtX3_prepare 89 rfl) ?_
  refine fm_iloadn (pc := 169) (n := 2) 2 rfl rfl (fm_dec dtX3_prepare 90 rfl) ?_
  refine fm_putI (k := 34) (j := 5) (ci := 3) (pc := 170) fl_X3_29 (by decide) rfl (by decide) rfl rfl (fm_dec dtX3_prepare 91 rfl) ?_
  exact fm_return (pc := 173) rfl (fm_dec dtX3_prepare 92 rfl) (hq _ (by simp [fmI, fmJ, vp_updL]))

set_option maxRecDepth 20000 in
theorem c_prep2 {l : Launch} {G : fmG} {M : fmM} {Q : fmR → fmM → Prop} (hst : l.stackTraces = false)  (hl : M.1 3 9 = 0) (h5 : M.1 34 5 = 0) (h3 : M.1 47 3 = 8) (h11 : M.1 3 11 = 8) (hq : ∀ M', M'.2 34 6 = 0 → Q (.inl none) M') : fmGood Tx l G 6 qX3_prepare [.ref (G.1 34), .ref (G.1 47), .int 2] M Q := by
  refine fmGood_of hst (by decide +kernel) (Nat.le_of_ble_eq_true rfl) ?_
  show fmEv Tx l G 6 qX3_prepare 0 [some (.ref (G.1 34)), some (.ref (G.1 47)), some (.int 2), none, none] [] M Q
  refine fm_aloadn (pc := 0) (n := 0) 0 rfl rfl (fm_dec dtX3_prepare 0 rfl) ?_
  refine fm_getI (k := 34) (j := 5) (ci := 3) (pc := 1) fl_X3_29 (by decide) rfl (by decide) rfl (fm_dec dtX3_prepare 1 rfl) ?_
  refine fm_iloadn (pc := 4) (n := 2) 2 rfl rfl (fm_dec dtX3_prepare 2 rfl) ?_
  refine fm_icmp_ne (pc := 5) 9 (by decide) (fm_dec dtX3_prepare 3 rfl) (fun _ => ?_) (fun hc5 => by exfalso; rw [h5] at hc5; exact absurd hc5 (by decide))
  refine fm_aloadn (pc := 9) (n := 0) 0 rfl rfl (fm_dec dtX3_prepare 5 rfl) ?_
  refine fm_getR (k := 34) (j := 1) (ci := 3) (pc := 10) 35 rfl fl_X3_11 (by decide) rfl (by decide) (by decide) (fm_dec dtX3_prepare 6 rfl) ?_
  refine fm_lconst (pc := 13) (v := 0) (by decide) (fm_dec dtX3_prepare 7 rfl) ?_
  refine fm_invS2 (d' := 0) (pc := 14) cs_X3_41 (Nat.le_of_ble_eq_true rfl) (by decide) (fm_dec dtX3_prepare 8 rfl) ?_
  refine c_fillJ hst (fun M14 z14 e14 f14 => ?_)
  refine fm_then0 ?_
  refine fm_iconst (pc := 17) (v := 0) (by decide) (fm_dec dtX3_prepare 9 rfl) ?_
  refine fm_istoren (pc := 18) (n := 3) 3 rfl (by decide) rfl (fm_dec dtX3_prepare 10 rfl) ?_
  dsimp only [List.set_cons_zero, List.set_cons_succ]
  refine fm_iloadn (pc := 19) (n := 3) 3 rfl rfl (fm_dec dtX3_prepare 11 rfl) ?_
  refine fm_iconst (pc := 20) (v := 3) (by decide) (fm_dec dtX3_prepare 12 rfl) ?_
  refine fm_icmp_ge (pc := 21) 79 (by decide) (fm_dec dtX3_prepare 13 rfl) (fun hc21 => by exfalso; exact absurd hc21 (by decide)) (fun _ => ?_)
  refine fm_iloadn (pc := 24) (n := 3) 3 rfl rfl (fm_dec dtX3_prepare 14 rfl) ?_
  refine fm_if_ne (pc := 25) 35 (by decide) (fm_dec dtX3_prepare 15 rfl) (fun hc25 => by exfalso; exact absurd hc25 (by decide)) (fun _ => ?_)
  refine fm_aloadn (pc := 28) (n := 1) 1 rfl rfl (fm_dec dtX3_prepare 16 rfl) ?_
  refine fm_getI (k := 47) (j := 3) (ci := 6) (pc := 29) fl_X3_47 (by decide) rfl (by decide) rfl (fm_dec dtX3_prepare 17 rfl) ?_
  refine fm_goto (pc := 32) 45 (by decide) (fm_dec dtX3_prepare 18 rfl) ?_
  refine fm_topE (v := 8) (by simp [fmI, e14, h3]) ?_
  refine fm_istore (pc := 45) (i := 4) (by decide) rfl (fm_dec dtX3_prepare 23 rfl) ?_
  dsimp only [List.set_cons_zero, List.set_cons_succ]
  refine fm_aloadn (pc := 47) (n := 0) 0 rfl rfl (fm_dec dtX3_prepare 24 rfl) ?_
  refine fm_getR (k := 34) (j := 4) (ci := 3) (pc := 48) 38 rfl fl_X3_22 (by decide) rfl (by decide) (by decide) (fm_dec dtX3_prepare 25 rfl) ?_
  refine fm_iloadn (pc := 51) (n := 3) 3 rfl rfl (fm_dec dtX3_prepare 26 rfl) ?_
  refine fm_iloadn (pc := 52) (n := 3) 3 rfl rfl (fm_dec dtX3_prepare 27 rfl) ?_
  refine fm_iloadn (pc := 53) (n := 2) 2 rfl rfl (fm_dec dtX3_prepare 28 rfl) ?_
  refine fm_icmp_ge (pc := 54) 71 (by decide) (fm_dec dtX3_prepare 29 rfl) (fun hc54 => by exfalso; exact absurd hc54 (by decide)) (fun _ => ?_)
  refine fm_iconst (pc := 57) (v := 0) (by decide) (fm_dec dtX3_prepare 30 rfl) ?_
  refine fm_bipush (pc := 58) (v := 12) (by decide) (fm_dec dtX3_prepare 31 rfl) ?_
  refine fm_iload (pc := 60) (i := 4) rfl (fm_dec dtX3_prepare 32 rfl) ?_
  refine fm_mmin (pc := 62) cs_X3_63 (Nat.le_of_ble_eq_true rfl) (fm_dec dtX3_prepare 33 rfl) ?_
  refine fm_mmax (pc := 65) cs_X3_69 (Nat.le_of_ble_eq_true rfl) (fm_dec dtX3_prepare 34 rfl) ?_
  refine fm_goto (pc := 68) 72 (by decide) (fm_dec dtX3_prepare 35 rfl) ?_
  refine fm_topE (v := 8) (by decide) ?_
  refine fm_iast (k := 38) (n := 3) (pc := 72) (by decide) rfl rfl (fm_inl (by decide)) (fm_dec dtX3_prepare 37 rfl) ?_
  refine fm_iincc (pc := 73) 3 1 (by decide) rfl (by decide) rfl (fm_dec dtX3_prepare 38 rfl) ?_
  dsimp only [List.set_cons_zero, List.set_cons_succ]
  refine fm_goto (pc := 76) 19 (by decide) (fm_dec dtX3_prepare 39 rfl) ?_
  refine fm_iloadn (pc := 19) (n := 3) 3 rfl rfl (fm_dec dtX3_prepare 11 rfl) ?_
  refine fm_iconst (pc := 20) (v := 3) (by decide) (fm_dec dtX3_prepare 12 rfl) ?_
  refine fm_icmp_ge (pc := 21) 79 (by decide) (fm_dec dtX3_prepare 13 rfl) (fun hc21 => by exfalso; exact absurd hc21 (by decide)) (fun _ => ?_)
  refine fm_iloadn (pc := 24) (n := 3) 3 rfl rfl (fm_dec dtX3_prepare 14 rfl) ?_
  refine fm_if_ne (pc := 25) 35 (by decide) (fm_dec dtX3_prepare 15 rfl) (fun _ => ?_) (fun hc25 => by exfalso; exact absurd hc25 (by decide))
  refine fm_aloadn (pc := 35) (n := 0) 0 rfl rfl (fm_dec dtX3_prepare 19 rfl) ?_
  refine fm_getR (k := 34) (j := 0) (ci := 3) (pc := 36) 32 rfl fl_X3_25 (by decide) rfl (by decide) (by decide) (fm_dec dtX3_prepare 20 rfl) ?_
  refine fm_getR (k := 32) (j := 0) (ci := 0) (pc := 39) 3 rfl fl_X3_52 (by decide) rfl (by decide) (by decide) (fm_dec dtX3_prepare 21 rfl) ?_
  refine fm_getI (k := 3) (j := 11) (ci := 8) (pc := 42) fl_X3_58 (by decide) rfl (by decide) rfl (fm_dec dtX3_prepare 22 rfl) ?_
  refine fm_topE (v := 8) (by simp [fmI, e14, h11]) ?_
  refine fm_istore (pc := 45) (i := 4) (by decide) rfl (fm_dec dtX3_prepare 23 rfl) ?_
  dsimp only [List.set_cons_zero, List.set_cons_succ]
  refine fm_aloadn (pc := 47) (n := 0) 0 rfl rfl (fm_dec dtX3_prepare 24 rfl) ?_
  refine fm_getR (k := 34) (j := 4) (ci := 3) (pc := 48) 38 rfl fl_X3_22 (by decide) rfl (by decide) (by decide) (fm_dec dtX3_prepare 25 rfl) ?_
  refine fm_iloadn (pc := 51) (n := 3) 3 rfl rfl (fm_dec dtX3_prepare 26 rfl) ?_
  refine fm_iloadn (pc := 52) (n := 3) 3 rfl rfl (fm_dec dtX3_prepare 27 rfl) ?_
  refine fm_iloadn (pc := 53) (n := 2) 2 rfl rfl (fm_dec dtX3_prepare 28 rfl) ?_
  refine fm_icmp_ge (pc := 54) 71 (by decide) (fm_dec dtX3_prepare 29 rfl) (fun hc54 => by exfalso; exact absurd hc54 (by decide)) (fun _ => ?_)
  refine fm_iconst (pc := 57) (v := 0) (by decide) (fm_dec dtX3_prepare 30 rfl) ?_
  refine fm_bipush (pc := 58) (v := 12) (by decide) (fm_dec dtX3_prepare 31 rfl) ?_
  refine fm_iload (pc := 60) (i := 4) rfl (fm_dec dtX3_prepare 32 rfl) ?_
  refine fm_mmin (pc := 62) cs_X3_63 (Nat.le_of_ble_eq_true rfl) (fm_dec dtX3_prepare 33 rfl) ?_
  refine fm_mmax (pc := 65) cs_X3_69 (Nat.le_of_ble_eq_true rfl) (fm_dec dtX3_prepare 34 rfl) ?_
  refine fm_goto (pc := 68) 72 (by decide) (fm_dec dtX3_prepare 35 rfl) ?_
  refine fm_topE (v := 8) (by decide) ?_
  refine fm_iast (k := 38) (n := 3) (pc := 72) (by decide) rfl rfl (fm_inl (by decide)) (fm_dec dtX3_prepare 37 rfl) ?_
  refine fm_iincc (pc := 73) 3 1 (by decide) rfl (by decide) rfl (fm_dec dtX3_prepare 38 rfl) ?_
  dsimp only [List.set_cons_zero, List.set_cons_succ]
  refine fm_goto (pc := 76) 19 (by decide) (fm_dec dtX3_prepare 39 rfl) ?_
  refine fm_iloadn (pc := 19) (n := 3) 3 rfl rfl (fm_dec dtX3_prepare 11 rfl) ?_
  refine fm_iconst (pc := 20) (v := 3) (by decide) (fm_dec dtX3_prepare 12 rfl) ?_
  refine fm_icmp_ge (pc := 21) 79 (by decide) (fm_dec dtX3_prepare 13 rfl) (fun hc21 => by exfalso; exact absurd hc21 (by decide)) (fun _ => ?_)
  refine fm_iloadn (pc := 24) (n := 3) 3 rfl rfl (fm_dec dtX3_prepare 14 rfl) ?_
  refine fm_if_ne (pc := 25) 35 (by decide) (fm_dec dtX3_prepare 15 rfl) (fun _ => ?_) (fun hc25 => by exfalso; exact absurd hc25 (by decide))
  refine fm_aloadn (pc := 35) (n := 0) 0 rfl rfl (fm_dec dtX3_prepare 19 rfl) ?_
  refine fm_getR (k := 34) (j := 0) (ci := 3) (pc := 36) 32 rfl fl_X3_25 (by decide) rfl (by decide) (by decide) (fm_dec dtX3_prepare 20 rfl) ?_
  refine fm_getR (k := 32) (j := 0) (ci := 0) (pc := 39) 3 rfl fl_X3_52 (by decide) rfl (by decide) (by decide) (fm_dec dtX3_prepare 21 rfl) ?_
  refine fm_getI (k := 3) (j := 11) (ci := 8) (pc := 42) fl_X3_58 (by decide) rfl (by decide) rfl (fm_dec dtX3_prepare 22 rfl) ?_
  refine fm_topE (v := 8) (by simp [fmI, e14, h11]) ?_
  refine fm_istore (pc := 45) (i := 4) (by decide) rfl (fm_dec dtX3_prepare 23 rfl) ?_
  dsimp only [List.set_cons_zero, List.set_cons_succ]
  refine fm_aloadn (pc := 47) (n := 0) 0 rfl rfl (fm_dec dtX3_prepare 24 rfl) ?_
  refine fm_getR (k := 34) (j := 4) (ci := 3) (pc := 48) 38 rfl fl_X3_22 (by decide) rfl (by decide) (by decide) (fm_dec dtX3_prepare 25 rfl) ?_
  refine fm_iloadn (pc := 51) (n := 3) 3 rfl rfl (fm_dec dtX3_prepare 26 rfl) ?_
  refine fm_iloadn (pc := 52) (n := 3) 3 rfl rfl (fm_dec dtX3_prepare 27 rfl) ?_
  refine fm_iloadn (pc := 53) (n := 2) 2 rfl rfl (fm_dec dtX3_prepare 28 rfl) ?_
  refine fm_icmp_ge (pc := 54) 71 (by decide) (fm_dec dtX3_prepare 29 rfl) (fun _ => ?_) (fun hc54 => by exfalso; exact hc54 (by decide))
  refine fm_iconst (pc := 71) (v := 0) (by decide) (fm_dec dtX3_prepare 36 rfl) ?_
  refine fm_topE (v := 0) (by decide) ?_
  refine fm_iast (k := 38) (n := 3) (pc := 72) (by decide) rfl rfl (fm_inl (by decide)) (fm_dec dtX3_prepare 37 rfl) ?_
  refine fm_iincc (pc := 73) 3 1 (by decide) rfl (by decide) rfl (fm_dec dtX3_prepare 38 rfl) ?_
  dsimp only [List.set_cons_zero, List.set_cons_succ]
  refine fm_goto (pc := 76) 19 (by decide) (fm_dec dtX3_prepare 39 rfl) ?_
  refine fm_iloadn (pc := 19) (n := 3) 3 rfl rfl (fm_dec dtX3_prepare 11 rfl) ?_
  refine fm_iconst (pc := 20) (v := 3) (by decide) (fm_dec dtX3_prepare 12 rfl) ?_
  refine fm_icmp_ge (pc := 21) 79 (by decide) (fm_dec dtX3_prepare 13 rfl) (fun _ => ?_) (fun hc21 => by exfalso; exact hc21 (by decide))
  refine fm_iconst (pc := 79) (v := 0) (by decide) (fm_dec dtX3_prepare 40 rfl) ?_
  refine fm_istoren (pc := 80) (n := 3) 3 rfl (by decide) rfl (fm_dec dtX3_prepare 41 rfl) ?_
  dsimp only [List.set_cons_zero, List.set_cons_succ]
  refine fm_iloadn (pc := 81) (n := 3) 3 rfl rfl (fm_dec dtX3_prepare 42 rfl) ?_
  refine fm_aloadn (pc := 82) (n := 0) 0 rfl rfl (fm_dec dtX3_prepare 43 rfl) ?_
  refine fm_getR (k := 34) (j := 0) (ci := 3) (pc := 83) 32 rfl fl_X3_25 (by decide) rfl (by decide) (by decide) (fm_dec dtX3_prepare 44 rfl) ?_
  refine fm_getR (k := 32) (j := 0) (ci := 0) (pc := 86) 3 rfl fl_X3_52 (by decide) rfl (by decide) (by decide) (fm_dec dtX3_prepare 45 rfl) ?_
  refine fm_getI (k := 3) (j := 9) (ci := 8) (pc := 89) fl_X3_72 (by decide) rfl (by decide) rfl (fm_dec dtX3_prepare 46 rfl) ?_
  refine fm_icmp_ge (pc := 92) 138 (by decide) (fm_dec dtX3_prepare 47 rfl) (fun _ => ?_) (fun hc92 => by exfalso; exact hc92 (by simp [fmI, e14, hl]))
  refine fm_aloadn (pc := 138) (n := 0) 0 rfl rfl (fm_dec dtX3_prepare 71 rfl) ?_
  refine fm_aloadn (pc := 139) (n := 0) 0 rfl rfl (fm_dec dtX3_prepare 72 rfl) ?_
  refine fm_getR (k := 34) (j := 1) (ci := 3) (pc := 140) 35 rfl fl_X3_11 (by decide) rfl (by decide) (by decide) (fm_dec dtX3_prepare 73 rfl) ?_
  refine fm_aloadn (pc := 143) (n := 0) 0 rfl rfl (fm_dec dtX3_prepare 74 rfl) ?_
  refine fm_getR (k := 34) (j := 4) (ci := 3) (pc := 144) 38 rfl fl_X3_22 (by decide) rfl (by decide) (by decide) (fm_dec dtX3_prepare 75 rfl) ?_
  refine fm_iconst (pc := 147) (v := 0) (by decide) (fm_dec dtX3_prepare 76 rfl) ?_
  refine fm_iald (k := 38) (n := 3) (pc := 148) (by decide) rfl rfl (fm_inl (by decide)) (fm_dec dtX3_prepare 77 rfl) ?_
  refine fm_topE (v := 8) (by simp [fmI, upd]) ?_
  refine fm_aloadn (pc := 149) (n := 0) 0 rfl rfl (fm_dec dtX3_prepare 78 rfl) ?_
  refine fm_getR (k := 34) (j := 4) (ci := 3) (pc := 150) 38 rfl fl_X3_22 (by decide) rfl (by decide) (by decide) (fm_dec dtX3_prepare 79 rfl) ?_
  refine fm_iconst (pc := 153) (v := 1) (by decide) (fm_dec dtX3_prepare 80 rfl) ?_
  refine fm_iald (k := 38) (n := 3) (pc := 154) (by decide) rfl rfl (fm_inl (by decide)) (fm_dec dtX3_prepare 81 rfl) ?_
  refine fm_topE (v := 8) (by simp [fmI, upd]) ?_
  refine fm_aloadn (pc := 155) (n := 0) 0 rfl rfl (fm_dec dtX3_prepare 82 rfl) ?_
  refine fm_getR (k := 34) (j := 4) (ci := 3) (pc := 156) 38 rfl fl_X3_22 (by decide) rfl (by decide) (by decide) (fm_dec dtX3_prepare 83 rfl) ?_
  refine fm_iconst (pc := 159) (v := 2) (by decide) (fm_dec dtX3_prepare 84 rfl) ?_
  refine fm_iald (k := 38) (n := 3) (pc := 160) (by decide) rfl rfl (fm_inl (by decide)) (fm_dec dtX3_prepare 85 rfl) ?_
  refine fm_topE (v := 0) (by simp [fmI, upd]) ?_
  refine fm_invS3 (d' := 0) (pc := 161) cs_X3_90 (Nat.le_of_ble_eq_true rfl) (by decide) (fm_dec dtX3_prepare 86 rfl) ?_
  refine c_cellOf hst _ _ _ ?_
  refine fm_then1 ?_
  refine fm_topE (v := 1456) (by decide) ?_
  refine fm_lald (k := 35) (n := 2197) (pc := 164) (by decide) rfl rfl (fm_inl (by decide)) (fm_dec dtX3_prepare 87 rfl) ?_
  refine fm_topJ (v := 0) (by first | exact z14 _ (by decide) | (simp only [fmI_2]; exact z14 _ (by decide))) ?_
  refine fm_putJ (k := 34) (j := 6) (ci := 3) (pc := 165) fl_X3_33 (by decide) rfl (by decide) rfl rfl (fm_dec dtX3_prepare 88 rfl) ?_
  refine fm_aloadn (pc := 168) (n := 0) 0 rfl rfl (fm_dec dtX3_prepare 89 rfl) ?_
  refine fm_iloadn (pc := 169) (n := 2) 2 rfl rfl (fm_dec dtX3_prepare 90 rfl) ?_
  refine fm_putI (k := 34) (j := 5) (ci := 3) (pc := 170) fl_X3_29 (by decide) rfl (by decide) rfl rfl (fm_dec dtX3_prepare 91 rfl) ?_
  exact fm_return (pc := 173) rfl (fm_dec dtX3_prepare 92 rfl) (hq _ (by simp [fmI, fmJ, vp_updL]))

set_option maxRecDepth 20000 in
theorem c_prep3 {l : Launch} {G : fmG} {M : fmM} {Q : fmR → fmM → Prop} (hst : l.stackTraces = false)  (hl : M.1 3 9 = 0) (h5 : M.1 34 5 = 0) (h3 : M.1 47 3 = 8) (h11 : M.1 3 11 = 8) (hq : ∀ M', M'.2 34 6 = 0 → Q (.inl none) M') : fmGood Tx l G 6 qX3_prepare [.ref (G.1 34), .ref (G.1 47), .int 3] M Q := by
  refine fmGood_of hst (by decide +kernel) (Nat.le_of_ble_eq_true rfl) ?_
  show fmEv Tx l G 6 qX3_prepare 0 [some (.ref (G.1 34)), some (.ref (G.1 47)), some (.int 3), none, none] [] M Q
  refine fm_aloadn (pc := 0) (n := 0) 0 rfl rfl (fm_dec dtX3_prepare 0 rfl) ?_
  refine fm_getI (k := 34) (j := 5) (ci := 3) (pc := 1) fl_X3_29 (by decide) rfl (by decide) rfl (fm_dec dtX3_prepare 1 rfl) ?_
  refine fm_iloadn (pc := 4) (n := 2) 2 rfl rfl (fm_dec dtX3_prepare 2 rfl) ?_
  refine fm_icmp_ne (pc := 5) 9 (by decide) (fm_dec dtX3_prepare 3 rfl) (fun _ => ?_) (fun hc5 => by exfalso; rw [h5] at hc5; exact absurd hc5 (by decide))
  refine fm_aloadn (pc := 9) (n := 0) 0 rfl rfl (fm_dec dtX3_prepare 5 rfl) ?_
  refine fm_getR (k := 34) (j := 1) (ci := 3) (pc := 10) 35 rfl fl_X3_11 (by decide) rfl (by decide) (by decide) (fm_dec dtX3_prepare 6 rfl) ?_
  refine fm_lconst (pc := 13) (v := 0) (by decide) (fm_dec dtX3_prepare 7 rfl) ?_
  refine fm_invS2 (d' := 0) (pc := 14) cs_X3_41 (Nat.le_of_ble_eq_true rfl) (by decide) (fm_dec dtX3_prepare 8 rfl) ?_
  refine c_fillJ hst (fun M14 z14 e14 f14 => ?_)
  refine fm_then0 ?_
  refine fm_iconst (pc := 17) (v := 0) (by decide) (fm_dec dtX3_prepare 9 rfl) ?_
  refine fm_istoren (pc := 18) (n := 3) 3 rfl (by decide) rfl (fm_dec dtX3_prepare 10 rfl) ?_
  dsimp only [List.set_cons_zero, List.set_cons_succ]
  refine fm_iloadn (pc := 19) (n := 3) 3 rfl rfl (fm_dec dtX3_prepare 11 rfl) ?_
  refine fm_iconst (pc := 20) (v := 3) (by decide) (fm_dec dtX3_prepare 12 rfl) ?_
  refine fm_icmp_ge (pc := 21) 79 (by decide) (fm_dec dtX3_prepare 13 rfl) (fun hc21 => by exfalso; exact absurd hc21 (by decide)) (fun _ => ?_)
  refine fm_iloadn (pc := 24) (n := 3) 3 rfl rfl (fm_dec dtX3_prepare 14 rfl) ?_
  refine fm_if_ne (pc := 25) 35 (by decide) (fm_dec dtX3_prepare 15 rfl) (fun hc25 => by exfalso; exact absurd hc25 (by decide)) (fun _ => ?_)
  refine fm_aloadn (pc := 28) (n := 1) 1 rfl rfl (fm_dec dtX3_prepare 16 rfl) ?_
  refine fm_getI (k := 47) (j := 3) (ci := 6) (pc := 29) fl_X3_47 (by decide) rfl (by decide) rfl (fm_dec dtX3_prepare 17 rfl) ?_
  refine fm_goto (pc := 32) 45 (by decide) (fm_dec dtX3_prepare 18 rfl) ?_
  refine fm_topE (v := 8) (by simp [fmI, e14, h3]) ?_
  refine fm_istore (pc := 45) (i := 4) (by decide) rfl (fm_dec dtX3_prepare 23 rfl) ?_
  dsimp only [List.set_cons_zero, List.set_cons_succ]
  refine fm_aloadn (pc := 47) (n := 0) 0 rfl rfl (fm_dec dtX3_prepare 24 rfl) ?_
  refine fm_getR (k := 34) (j := 4) (ci := 3) (pc := 48) 38 rfl fl_X3_22 (by decide) rfl (by decide) (by decide) (fm_dec dtX3_prepare 25 rfl) ?_
  refine fm_iloadn (pc := 51) (n := 3) 3 rfl rfl (fm_dec dtX3_prepare 26 rfl) ?_
  refine fm_iloadn (pc := 52) (n := 3) 3 rfl rfl (fm_dec dtX3_prepare 27 rfl) ?_
  refine fm_iloadn (pc := 53) (n := 2) 2 rfl rfl (fm_dec dtX3_prepare 28 rfl) ?_
  refine fm_icmp_ge (pc := 54) 71 (by decide) (fm_dec dtX3_prepare 29 rfl) (fun hc54 => by exfalso; exact absurd hc54 (by decide)) (fun _ => ?_)
  refine fm_iconst (pc := 57) (v := 0) (by decide) (fm_dec dtX3_prepare 30 rfl) ?_
  refine fm_bipush (pc := 58) (v := 12) (by decide) (fm_dec dtX3_prepare 31 rfl) ?_
  refine fm_iload (pc := 60) (i := 4) rfl (fm_dec dtX3_prepare 32 rfl) ?_
  refine fm_mmin (pc := 62) cs_X3_63 (Nat.le_of_ble_eq_true rfl) (fm_dec dtX3_prepare 33 rfl) ?_
  refine fm_mmax (pc := 65) cs_X3_69 (Nat.le_of_ble_eq_true rfl) (fm_dec dtX3_prepare 34 rfl) ?_
  refine fm_goto (pc := 68) 72 (by decide) (fm_dec dtX3_prepare 35 rfl) ?_
  refine fm_topE (v := 8) (by decide) ?_
  refine fm_iast (k := 38) (n := 3) (pc := 72) (by decide) rfl rfl (fm_inl (by decide)) (fm_dec dtX3_prepare 37 rfl) ?_
  refine fm_iincc (pc := 73) 3 1 (by decide) rfl (by decide) rfl (fm_dec dtX3_prepare 38 rfl) ?_
  dsimp only [List.set_cons_zero, List.set_cons_succ]
  refine fm_goto (pc := 76) 19 (by decide) (fm_dec dtX3_prepare 39 rfl) ?_
  refine fm_iloadn (pc := 19) (n := 3) 3 rfl rfl (fm_dec dtX3_prepare 11 rfl) ?_
  refine fm_iconst (pc := 20) (v := 3) (by decide) (fm_dec dtX3_prepare 12 rfl) ?_
  refine fm_icmp_ge (pc := 21) 79 (by decide) (fm_dec dtX3_prepare 13 rfl) (fun hc21 => by exfalso; exact absurd hc21 (by decide)) (fun _ => ?_)
  refine fm_iloadn (pc := 24) (n := 3) 3 rfl rfl (fm_dec dtX3_prepare 14 rfl) ?_
  refine fm_if_ne (pc := 25) 35 (by decide) (fm_dec dtX3_prepare 15 rfl) (fun _ => ?_) (fun hc25 => by exfalso; exact absurd hc25 (by decide))
  refine fm_aloadn (pc := 35) (n := 0) 0 rfl rfl (fm_dec dtX3_prepare 19 rfl) ?_
  refine fm_getR (k := 34) (j := 0) (ci := 3) (pc := 36) 32 rfl fl_X3_25 (by decide) rfl (by decide) (by decide) (fm_dec dtX3_prepare 20 rfl) ?_
  refine fm_getR (k := 32) (j := 0) (ci := 0) (pc := 39) 3 rfl fl_X3_52 (by decide) rfl (by decide) (by decide) (fm_dec dtX3_prepare 21 rfl) ?_
  refine fm_getI (k := 3) (j := 11) (ci := 8) (pc := 42) fl_X3_58 (by decide) rfl (by decide) rfl (fm_dec dtX3_prepare 22 rfl) ?_
  refine fm_topE (v := 8) (by simp [fmI, e14, h11]) ?_
  refine fm_istore (pc := 45) (i := 4) (by decide) rfl (fm_dec dtX3_prepare 23 rfl) ?_
  dsimp only [List.set_cons_zero, List.set_cons_succ]
  refine fm_aloadn (pc := 47) (n := 0) 0 rfl rfl (fm_dec dtX3_prepare 24 rfl) ?_
  refine fm_getR (k := 34) (j := 4) (ci := 3) (pc := 48) 38 rfl fl_X3_22 (by decide) rfl (by decide) (by decide) (fm_dec dtX3_prepare 25 rfl) ?_
  refine fm_iloadn (pc := 51) (n := 3) 3 rfl rfl (fm_dec dtX3_prepare 26 rfl) ?_
  refine fm_iloadn (pc := 52) (n := 3) 3 rfl rfl (fm_dec dtX3_prepare 27 rfl) ?_
  refine fm_iloadn (pc := 53) (n := 2) 2 rfl rfl (fm_dec dtX3_prepare 28 rfl) ?_
  refine fm_icmp_ge (pc := 54) 71 (by decide) (fm_dec dtX3_prepare 29 rfl) (fun hc54 => by exfalso; exact absurd hc54 (by decide)) (fun _ => ?_)
  refine fm_iconst (pc := 57) (v := 0) (by decide) (fm_dec dtX3_prepare 30 rfl) ?_
  refine fm_bipush (pc := 58) (v := 12) (by decide) (fm_dec dtX3_prepare 31 rfl) ?_
  refine fm_iload (pc := 60) (i := 4) rfl (fm_dec dtX3_prepare 32 rfl) ?_
  refine fm_mmin (pc := 62) cs_X3_63 (Nat.le_of_ble_eq_true rfl) (fm_dec dtX3_prepare 33 rfl) ?_
  refine fm_mmax (pc := 65) cs_X3_69 (Nat.le_of_ble_eq_true rfl) (fm_dec dtX3_prepare 34 rfl) ?_
  refine fm_goto (pc := 68) 72 (by decide) (fm_dec dtX3_prepare 35 rfl) ?_
  refine fm_topE (v := 8) (by decide) ?_
  refine fm_iast (k := 38) (n := 3) (pc := 72) (by decide) rfl rfl (fm_inl (by decide)) (fm_dec dtX3_prepare 37 rfl) ?_
  refine fm_iincc (pc := 73) 3 1 (by decide) rfl (by decide) rfl (fm_dec dtX3_prepare 38 rfl) ?_
  dsimp only [List.set_cons_zero, List.set_cons_succ]
  refine fm_goto (pc := 76) 19 (by decide) (fm_dec dtX3_prepare 39 rfl) ?_
  refine fm_iloadn (pc := 19) (n := 3) 3 rfl rfl (fm_dec dtX3_prepare 11 rfl) ?_
  refine fm_iconst (pc := 20) (v := 3) (by decide) (fm_dec dtX3_prepare 12 rfl) ?_
  refine fm_icmp_ge (pc := 21) 79 (by decide) (fm_dec dtX3_prepare 13 rfl) (fun hc21 => by exfalso; exact absurd hc21 (by decide)) (fun _ => ?_)
  refine fm_iloadn (pc := 24) (n := 3) 3 rfl rfl (fm_dec dtX3_prepare 14 rfl) ?_
  refine fm_if_ne (pc := 25) 35 (by decide) (fm_dec dtX3_prepare 15 rfl) (fun _ => ?_) (fun hc25 => by exfalso; exact absurd hc25 (by decide))
  refine fm_aloadn (pc := 35) (n := 0) 0 rfl rfl (fm_dec dtX3_prepare 19 rfl) ?_
  refine fm_getR (k := 34) (j := 0) (ci := 3) (pc := 36) 32 rfl fl_X3_25 (by decide) rfl (by decide) (by decide) (fm_dec dtX3_prepare 20 rfl) ?_
  refine fm_getR (k := 32) (j := 0) (ci := 0) (pc := 39) 3 rfl fl_X3_52 (by decide) rfl (by decide) (by decide) (fm_dec dtX3_prepare 21 rfl) ?_
  refine fm_getI (k := 3) (j := 11) (ci := 8) (pc := 42) fl_X3_58 (by decide) rfl (by decide) rfl (fm_dec dtX3_prepare 22 rfl) ?_
  refine fm_topE (v := 8) (by simp [fmI, e14, h11]) ?_
  refine fm_istore (pc := 45) (i := 4) (by decide) rfl (fm_dec dtX3_prepare 23 rfl) ?_
  dsimp only [List.set_cons_zero, List.set_cons_succ]
  refine fm_aloadn (pc := 47) (n := 0) 0 rfl rfl (fm_dec dtX3_prepare 24 rfl) ?_
  refine fm_getR (k := 34) (j := 4) (ci := 3) (pc := 48) 38 rfl fl_X3_22 (by decide) rfl (by decide) (by decide) (fm_dec dtX3_prepare 25 rfl) ?_
  refine fm_iloadn (pc := 51) (n := 3) 3 rfl rfl (fm_dec dtX3_prepare 26 rfl) ?_
  refine fm_iloadn (pc := 52) (n := 3) 3 rfl rfl (fm_dec dtX3_prepare 27 rfl) ?_
  refine fm_iloadn (pc := 53) (n := 2) 2 rfl rfl (fm_dec dtX3_prepare 28 rfl) ?_
  refine fm_icmp_ge (pc := 54) 71 (by decide) (fm_dec dtX3_prepare 29 rfl) (fun hc54 => by exfalso; exact absurd hc54 (by decide)) (fun _ => ?_)
  refine fm_iconst (pc := 57) (v := 0) (by decide) (fm_dec dtX3_prepare 30 rfl) ?_
  refine fm_bipush (pc := 58) (v := 12) (by decide) (fm_dec dtX3_prepare 31 rfl) ?_
  refine fm_iload (pc := 60) (i := 4) rfl (fm_dec dtX3_prepare 32 rfl) ?_
  refine fm_mmin (pc := 62) cs_X3_63 (Nat.le_of_ble_eq_true rfl) (fm_dec dtX3_prepare 33 rfl) ?_
  refine fm_mmax (pc := 65) cs_X3_69 (Nat.le_of_ble_eq_true rfl) (fm_dec dtX3_prepare 34 rfl) ?_
  refine fm_goto (pc := 68) 72 (by decide) (fm_dec dtX3_prepare 35 rfl) ?_
  refine fm_topE (v := 8) (by decide) ?_
  refine fm_iast (k := 38) (n := 3) (pc := 72) (by decide) rfl rfl (fm_inl (by decide)) (fm_dec dtX3_prepare 37 rfl) ?_
  refine fm_iincc (pc := 73) 3 1 (by decide) rfl (by decide) rfl (fm_dec dtX3_prepare 38 rfl) ?_
  dsimp only [List.set_cons_zero, List.set_cons_succ]
  refine fm_goto (pc := 76) 19 (by decide) (fm_dec dtX3_prepare 39 rfl) ?_
  refine fm_iloadn (pc := 19) (n := 3) 3 rfl rfl (fm_dec dtX3_prepare 11 rfl) ?_
  refine fm_iconst (pc := 20) (v := 3) (by decide) (fm_dec dtX3_prepare 12 rfl) ?_
  refine fm_icmp_ge (pc := 21) 79 (by decide) (fm_dec dtX3_prepare 13 rfl) (fun _ => ?_) (fun hc21 => by exfalso; exact hc21 (by decide))
  refine fm_iconst (pc := 79) (v := 0) (by decide) (fm_dec dtX3_prepare 40 rfl) ?_
  refine fm_istoren (pc := 80) (n := 3) 3 rfl (by decide) rfl (fm_dec dtX3_prepare 41 rfl) ?_
  dsimp only [List.set_cons_zero, List.set_cons_succ]
  refine fm_iloadn (pc := 81) (n := 3) 3 rfl rfl (fm_dec dtX3_prepare 42 rfl) ?_
  refine fm_aloadn (pc := 82) (n := 0) 0 rfl rfl (fm_dec dtX3_prepare 43 rfl) ?_
  refine fm_getR (k := 34) (j := 0) (ci := 3) (pc := 83) 32 rfl fl_X3_25 (by decide) rfl (by decide) (by decide) (fm_dec dtX3_prepare 44 rfl) ?_
  refine fm_getR (k := 32) (j := 0) (ci := 0) (pc := 86) 3 rfl fl_X3_52 (by decide) rfl (by decide) (by decide) (fm_dec dtX3_prepare 45 rfl) ?_
  refine fm_getI (k := 3) (j := 9) (ci := 8) (pc := 89) fl_X3_72 (by decide) rfl (by decide) rfl (fm_dec dtX3_prepare 46 rfl) ?_
  refine fm_icmp_ge (pc := 92) 138 (by decide) (fm_dec dtX3_prepare 47 rfl) (fun _ => ?_) (fun hc92 => by exfalso; exact hc92 (by simp [fmI, e14, hl]))
  refine fm_aloadn (pc := 138) (n := 0) 0 rfl rfl (fm_dec dtX3_prepare 71 rfl) ?_
  refine fm_aloadn (pc := 139) (n := 0) 0 rfl rfl (fm_dec dtX3_prepare 72 rfl) ?_
  refine fm_getR (k := 34) (j := 1) (ci := 3) (pc := 140) 35 rfl fl_X3_11 (by decide) rfl (by decide) (by decide) (fm_dec dtX3_prepare 73 rfl) ?_
  refine fm_aloadn (pc := 143) (n := 0) 0 rfl rfl (fm_dec dtX3_prepare 74 rfl) ?_
  refine fm_getR (k := 34) (j := 4) (ci := 3) (pc := 144) 38 rfl fl_X3_22 (by decide) rfl (by decide) (by decide) (fm_dec dtX3_prepare 75 rfl) ?_
  refine fm_iconst (pc := 147) (v := 0) (by decide) (fm_dec dtX3_prepare 76 rfl) ?_
  refine fm_iald (k := 38) (n := 3) (pc := 148) (by decide) rfl rfl (fm_inl (by decide)) (fm_dec dtX3_prepare 77 rfl) ?_
  refine fm_topE (v := 8) (by simp [fmI, upd]) ?_
  refine fm_aloadn (pc := 149) (n := 0) 0 rfl rfl (fm_dec dtX3_prepare 78 rfl) ?_
  refine fm_getR (k := 34) (j := 4) (ci := 3) (pc := 150) 38 rfl fl_X3_22 (by decide) rfl (by decide) (by decide) (fm_dec dtX3_prepare 79 rfl) ?_
  refine fm_iconst (pc := 153) (v := 1) (by decide) (fm_dec dtX3_prepare 80 rfl) ?_
  refine fm_iald (k := 38) (n := 3) (pc := 154) (by decide) rfl rfl (fm_inl (by decide)) (fm_dec dtX3_prepare 81 rfl) ?_
  refine fm_topE (v := 8) (by simp [fmI, upd]) ?_
  refine fm_aloadn (pc := 155) (n := 0) 0 rfl rfl (fm_dec dtX3_prepare 82 rfl) ?_
  refine fm_getR (k := 34) (j := 4) (ci := 3) (pc := 156) 38 rfl fl_X3_22 (by decide) rfl (by decide) (by decide) (fm_dec dtX3_prepare 83 rfl) ?_
  refine fm_iconst (pc := 159) (v := 2) (by decide) (fm_dec dtX3_prepare 84 rfl) ?_
  refine fm_iald (k := 38) (n := 3) (pc := 160) (by decide) rfl rfl (fm_inl (by decide)) (fm_dec dtX3_prepare 85 rfl) ?_
  refine fm_topE (v := 8) (by simp [fmI, upd]) ?_
  refine fm_invS3 (d' := 0) (pc := 161) cs_X3_90 (Nat.le_of_ble_eq_true rfl) (by decide) (fm_dec dtX3_prepare 86 rfl) ?_
  refine c_cellOf hst _ _ _ ?_
  refine fm_then1 ?_
  refine fm_topE (v := 1464) (by decide) ?_
  refine fm_lald (k := 35) (n := 2197) (pc := 164) (by decide) rfl rfl (fm_inl (by decide)) (fm_dec dtX3_prepare 87 rfl) ?_
  refine fm_topJ (v := 0) (by first | exact z14 _ (by decide) | (simp only [fmI_2]; exact z14 _ (by decide))) ?_
  refine fm_putJ (k := 34) (j := 6) (ci := 3) (pc := 165) fl_X3_33 (by decide) rfl (by decide) rfl rfl (fm_dec dtX3_prepare 88 rfl) ?_
  refine fm_aloadn (pc := 168) (n := 0) 0 rfl rfl (fm_dec dtX3_prepare 89 rfl) ?_
  refine fm_iloadn (pc := 169) (n := 2) 2 rfl rfl (fm_dec dtX3_prepare 90 rfl) ?_
  refine fm_putI (k := 34) (j := 5) (ci := 3) (pc := 170) fl_X3_29 (by decide) rfl (by decide) rfl rfl (fm_dec dtX3_prepare 91 rfl) ?_
  exact fm_return (pc := 173) rfl (fm_dec dtX3_prepare 92 rfl) (hq _ (by simp [fmI, fmJ, vp_updL]))

set_option maxRecDepth 20000 in
theorem c_least0 {l : Launch} {G : fmG} {M : fmM} {Q : fmR → fmM → Prop} (hst : l.stackTraces = false)  (h6 : M.2 34 6 = 0) (hq : Q (.inl (some (.long 0))) M) : fmGood Tx l G 0 qX3_leastLoss [.ref (G.1 34)] M Q := by
  refine fmGood_of hst (by decide +kernel) (Nat.le_of_ble_eq_true rfl) ?_
  show fmEv Tx l G 0 qX3_leastLoss 0 [some (.ref (G.1 34))] [] M Q
  refine fm_aloadn (pc := 0) (n := 0) 0 rfl rfl (fm_dec dtX3_leastLoss 0 rfl) ?_
  refine fm_getJ (k := 34) (j := 6) (ci := 3) (pc := 1) fl_X3_33 (by decide) rfl (by decide) rfl (fm_dec dtX3_leastLoss 1 rfl) ?_
  refine fm_bipush (pc := 4) (v := 24) (by decide) (fm_dec dtX3_leastLoss 2 rfl) ?_
  refine fm_lshr (pc := 6) (fm_dec dtX3_leastLoss 3 rfl) ?_
  refine fm_topJ (v := 0) (by rw [h6]; decide) ?_
  exact fm_lreturn (pc := 7) rfl (fm_dec dtX3_leastLoss 4 rfl) hq

set_option maxRecDepth 20000 in
theorem x_best {l : Launch} {G : fmG} {M : fmM} {Q : fmR → fmM → Prop} (hst : l.stackTraces = false) (n p : Int32) (hl : M.1 3 9 = 0) (h5 : M.1 34 5 = 0) (h3 : M.1 47 3 = 8) (h11 : M.1 3 11 = 8) (hq : ∀ M', inR n 1 3 → inR p 0 1 → Q (.inl (some (.long (if p = 0 then 0 else 1)))) M') (hx : ∀ M', ¬ (inR n 1 3 ∧ inR p 0 1) → Q (.inr fmIAE) M') : fmGood Tx l G 7 qX10_best [.ref (G.1 0), .int n, .int p] M Q := by
  refine fmGood_of hst (by decide +kernel) (Nat.le_of_ble_eq_true rfl) ?_
  show fmEv Tx l G 7 qX10_best 0 [some (.ref (G.1 0)), some (.int n), some (.int p)] [] M Q
  refine fm_aloadn (pc := 0) (n := 0) 0 rfl rfl (fm_dec dtX10_best 0 rfl) ?_
  refine fm_iloadn (pc := 1) (n := 1) 1 rfl rfl (fm_dec dtX10_best 1 rfl) ?_
  refine fm_iconst (pc := 2) (v := 1) (by decide) (fm_dec dtX10_best 2 rfl) ?_
  refine fm_iconst (pc := 3) (v := 3) (by decide) (fm_dec dtX10_best 3 rfl) ?_
  refine fm_invV3 (k := 0) (d' := 0) (pc := 4) cv_X10_169 (by decide) rfl (Nat.le_of_ble_eq_true rfl) (by decide) (fm_dec dtX10_best 4 rfl) ?_
  refine c_needWithin hst _ _ _ (fun hi4 => ?_) (fun hx4 => ?_)
  · refine fm_then0 ?_
    refine fm_aloadn (pc := 7) (n := 0) 0 rfl rfl (fm_dec dtX10_best 5 rfl) ?_
    refine fm_iloadn (pc := 8) (n := 2) 2 rfl rfl (fm_dec dtX10_best 6 rfl) ?_
    refine fm_invV1 (k := 0) (d' := 1) (pc := 9) cv_X10_244 (by decide) rfl (Nat.le_of_ble_eq_true rfl) (by decide) (fm_dec dtX10_best 7 rfl) ?_
    refine c_needPart hst _ (fun hi9 => ?_) (fun _ hx9 => ?_)
    · refine fm_then0 ?_
      rcases inR_13 hi4 with rfl | rfl | rfl
      · refine fm_aloadn (pc := 12) (n := 0) 0 rfl rfl (fm_dec dtX10_best 8 rfl) ?_
        refine fm_getR (k := 0) (j := 7) (ci := 10) (pc := 13) 34 rfl fl_X10_61 (by decide) rfl (by decide) (by decide) (fm_dec dtX10_best 9 rfl) ?_
        refine fm_aloadn (pc := 16) (n := 0) 0 rfl rfl (fm_dec dtX10_best 10 rfl) ?_
        refine fm_getR (k := 0) (j := 9) (ci := 10) (pc := 17) 46 rfl fl_X10_75 (by decide) rfl (by decide) (by decide) (fm_dec dtX10_best 11 rfl) ?_
        refine fm_getR (k := 46) (j := 0) (ci := 5) (pc := 20) 47 rfl fl_X10_90 (by decide) rfl (by decide) (by decide) (fm_dec dtX10_best 12 rfl) ?_
        refine fm_iloadn (pc := 23) (n := 1) 1 rfl rfl (fm_dec dtX10_best 13 rfl) ?_
        refine fm_invV2 (k := 34) (d' := 6) (pc := 24) cv_X10_289 (by decide) rfl (Nat.le_of_ble_eq_true rfl) (by decide) (fm_dec dtX10_best 14 rfl) ?_
        refine c_prep1 hst hl h5 h3 h11 (fun M24 p24 => ?_)
        refine fm_then0 ?_
        refine fm_aloadn (pc := 27) (n := 0) 0 rfl rfl (fm_dec dtX10_best 15 rfl) ?_
        refine fm_getR (k := 0) (j := 7) (ci := 10) (pc := 28) 34 rfl fl_X10_61 (by decide) rfl (by decide) (by decide) (fm_dec dtX10_best 16 rfl) ?_
        refine fm_invV0 (k := 34) (d' := 0) (pc := 31) cv_X10_293 (by decide) rfl (Nat.le_of_ble_eq_true rfl) (by decide) (fm_dec dtX10_best 17 rfl) ?_
        refine c_least0 hst p24 ?_
        refine fm_then1 ?_
        refine fm_lconst (pc := 34) (v := 1) (by decide) (fm_dec dtX10_best 18 rfl) ?_
        refine fm_bipush (pc := 35) (v := 6) (by decide) (fm_dec dtX10_best 19 rfl) ?_
        refine fm_iloadn (pc := 37) (n := 1) 1 rfl rfl (fm_dec dtX10_best 20 rfl) ?_
        refine fm_iconst (pc := 38) (v := 1) (by decide) (fm_dec dtX10_best 21 rfl) ?_
        refine fm_iadd (pc := 39) (fm_dec dtX10_best 22 rfl) ?_
        refine fm_imul (pc := 40) (fm_dec dtX10_best 23 rfl) ?_
        refine fm_lshl (pc := 41) (fm_dec dtX10_best 24 rfl) ?_
        refine fm_iloadn (pc := 42) (n := 2) 2 rfl rfl (fm_dec dtX10_best 25 rfl) ?_
        refine fm_invS3 (d' := 0) (pc := 43) cs_X10_253 (Nat.le_of_ble_eq_true rfl) (by decide) (fm_dec dtX10_best 26 rfl) ?_
        refine c_termOf0 hst _ _ (by decide) (by decide) ?_
        refine fm_then1 ?_
        exact fm_lreturn (pc := 46) rfl (fm_dec dtX10_best 27 rfl) (hq _ hi4 hi9)
      · refine fm_aloadn (pc := 12) (n := 0) 0 rfl rfl (fm_dec dtX10_best 8 rfl) ?_
        refine fm_getR (k := 0) (j := 7) (ci := 10) (pc := 13) 34 rfl fl_X10_61 (by decide) rfl (by decide) (by decide) (fm_dec dtX10_best 9 rfl) ?_
        refine fm_aloadn (pc := 16) (n := 0) 0 rfl rfl (fm_dec dtX10_best 10 rfl) ?_
        refine fm_getR (k := 0) (j := 9) (ci := 10) (pc := 17) 46 rfl fl_X10_75 (by decide) rfl (by decide) (by decide) (fm_dec dtX10_best 11 rfl) ?_
        refine fm_getR (k := 46) (j := 0) (ci := 5) (pc := 20) 47 rfl fl_X10_90 (by decide) rfl (by decide) (by decide) (fm_dec dtX10_best 12 rfl) ?_
        refine fm_iloadn (pc := 23) (n := 1) 1 rfl rfl (fm_dec dtX10_best 13 rfl) ?_
        refine fm_invV2 (k := 34) (d' := 6) (pc := 24) cv_X10_289 (by decide) rfl (Nat.le_of_ble_eq_true rfl) (by decide) (fm_dec dtX10_best 14 rfl) ?_
        refine c_prep2 hst hl h5 h3 h11 (fun M24 p24 => ?_)
        refine fm_then0 ?_
        refine fm_aloadn (pc := 27) (n := 0) 0 rfl rfl (fm_dec dtX10_best 15 rfl) ?_
        refine fm_getR (k := 0) (j := 7) (ci := 10) (pc := 28) 34 rfl fl_X10_61 (by decide) rfl (by decide) (by decide) (fm_dec dtX10_best 16 rfl) ?_
        refine fm_invV0 (k := 34) (d' := 0) (pc := 31) cv_X10_293 (by decide) rfl (Nat.le_of_ble_eq_true rfl) (by decide) (fm_dec dtX10_best 17 rfl) ?_
        refine c_least0 hst p24 ?_
        refine fm_then1 ?_
        refine fm_lconst (pc := 34) (v := 1) (by decide) (fm_dec dtX10_best 18 rfl) ?_
        refine fm_bipush (pc := 35) (v := 6) (by decide) (fm_dec dtX10_best 19 rfl) ?_
        refine fm_iloadn (pc := 37) (n := 1) 1 rfl rfl (fm_dec dtX10_best 20 rfl) ?_
        refine fm_iconst (pc := 38) (v := 1) (by decide) (fm_dec dtX10_best 21 rfl) ?_
        refine fm_iadd (pc := 39) (fm_dec dtX10_best 22 rfl) ?_
        refine fm_imul (pc := 40) (fm_dec dtX10_best 23 rfl) ?_
        refine fm_lshl (pc := 41) (fm_dec dtX10_best 24 rfl) ?_
        refine fm_iloadn (pc := 42) (n := 2) 2 rfl rfl (fm_dec dtX10_best 25 rfl) ?_
        refine fm_invS3 (d' := 0) (pc := 43) cs_X10_253 (Nat.le_of_ble_eq_true rfl) (by decide) (fm_dec dtX10_best 26 rfl) ?_
        refine c_termOf0 hst _ _ (by decide) (by decide) ?_
        refine fm_then1 ?_
        exact fm_lreturn (pc := 46) rfl (fm_dec dtX10_best 27 rfl) (hq _ hi4 hi9)
      · refine fm_aloadn (pc := 12) (n := 0) 0 rfl rfl (fm_dec dtX10_best 8 rfl) ?_
        refine fm_getR (k := 0) (j := 7) (ci := 10) (pc := 13) 34 rfl fl_X10_61 (by decide) rfl (by decide) (by decide) (fm_dec dtX10_best 9 rfl) ?_
        refine fm_aloadn (pc := 16) (n := 0) 0 rfl rfl (fm_dec dtX10_best 10 rfl) ?_
        refine fm_getR (k := 0) (j := 9) (ci := 10) (pc := 17) 46 rfl fl_X10_75 (by decide) rfl (by decide) (by decide) (fm_dec dtX10_best 11 rfl) ?_
        refine fm_getR (k := 46) (j := 0) (ci := 5) (pc := 20) 47 rfl fl_X10_90 (by decide) rfl (by decide) (by decide) (fm_dec dtX10_best 12 rfl) ?_
        refine fm_iloadn (pc := 23) (n := 1) 1 rfl rfl (fm_dec dtX10_best 13 rfl) ?_
        refine fm_invV2 (k := 34) (d' := 6) (pc := 24) cv_X10_289 (by decide) rfl (Nat.le_of_ble_eq_true rfl) (by decide) (fm_dec dtX10_best 14 rfl) ?_
        refine c_prep3 hst hl h5 h3 h11 (fun M24 p24 => ?_)
        refine fm_then0 ?_
        refine fm_aloadn (pc := 27) (n := 0) 0 rfl rfl (fm_dec dtX10_best 15 rfl) ?_
        refine fm_getR (k := 0) (j := 7) (ci := 10) (pc := 28) 34 rfl fl_X10_61 (by decide) rfl (by decide) (by decide) (fm_dec dtX10_best 16 rfl) ?_
        refine fm_invV0 (k := 34) (d' := 0) (pc := 31) cv_X10_293 (by decide) rfl (Nat.le_of_ble_eq_true rfl) (by decide) (fm_dec dtX10_best 17 rfl) ?_
        refine c_least0 hst p24 ?_
        refine fm_then1 ?_
        refine fm_lconst (pc := 34) (v := 1) (by decide) (fm_dec dtX10_best 18 rfl) ?_
        refine fm_bipush (pc := 35) (v := 6) (by decide) (fm_dec dtX10_best 19 rfl) ?_
        refine fm_iloadn (pc := 37) (n := 1) 1 rfl rfl (fm_dec dtX10_best 20 rfl) ?_
        refine fm_iconst (pc := 38) (v := 1) (by decide) (fm_dec dtX10_best 21 rfl) ?_
        refine fm_iadd (pc := 39) (fm_dec dtX10_best 22 rfl) ?_
        refine fm_imul (pc := 40) (fm_dec dtX10_best 23 rfl) ?_
        refine fm_lshl (pc := 41) (fm_dec dtX10_best 24 rfl) ?_
        refine fm_iloadn (pc := 42) (n := 2) 2 rfl rfl (fm_dec dtX10_best 25 rfl) ?_
        refine fm_invS3 (d' := 0) (pc := 43) cs_X10_253 (Nat.le_of_ble_eq_true rfl) (by decide) (fm_dec dtX10_best 26 rfl) ?_
        refine c_termOf0 hst _ _ (by decide) (by decide) ?_
        refine fm_then1 ?_
        exact fm_lreturn (pc := 46) rfl (fm_dec dtX10_best 27 rfl) (hq _ hi4 hi9)
    · refine fm_thenX ?_
      exact hx _ (fun h => by first | exact hx9 h.1 | exact hx9 h.2)
  · refine fm_thenX ?_
    exact hx _ (fun h => by first | exact hx4 h.1 | exact hx4 h.2)

set_option maxRecDepth 20000 in
theorem c_keyShift {l : Launch} {G : fmG} {M : fmM} {Q : fmR → fmM → Prop} (hst : l.stackTraces = false) (k : Int32) (hq : Q (.inl (some (.int (8 * (2 - k))))) M) : fmGood Tx l G 0 qX3_keyShift [.int k] M Q := by
  refine fmGood_of hst (by decide +kernel) (Nat.le_of_ble_eq_true rfl) ?_
  show fmEv Tx l G 0 qX3_keyShift 0 [some (.int k)] [] M Q
  refine fm_bipush (pc := 0) (v := 8) (by decide) (fm_dec dtX3_keyShift 0 rfl) ?_
  refine fm_iconst (pc := 2) (v := 2) (by decide) (fm_dec dtX3_keyShift 1 rfl) ?_
  refine fm_iloadn (pc := 3) (n := 0) 0 rfl rfl (fm_dec dtX3_keyShift 2 rfl) ?_
  refine fm_isub (pc := 4) (fm_dec dtX3_keyShift 3 rfl) ?_
  refine fm_imul (pc := 5) (fm_dec dtX3_keyShift 4 rfl) ?_
  exact fm_ireturn (pc := 6) rfl (fm_dec dtX3_keyShift 5 rfl) hq

theorem shr0L (x : Int64) : (0 : Int64) >>> x = 0 := by
  apply Int64.toBitVec_inj.mp
  show BitVec.sshiftRight' _ _ = _
  simp [BitVec.sshiftRight']

set_option maxRecDepth 20000 in
theorem c_writtenIn0 {l : Launch} {G : fmG} {M : fmM} {Q : fmR → fmM → Prop} (hst : l.stackTraces = false) (k : Int32) (h6 : M.2 34 6 = 0) (hq : Q (.inl (some (.int 0))) M) : fmGood Tx l G 1 qX3_writtenIn [.ref (G.1 34), .int k] M Q := by
  refine fmGood_of hst (by decide +kernel) (Nat.le_of_ble_eq_true rfl) ?_
  show fmEv Tx l G 1 qX3_writtenIn 0 [some (.ref (G.1 34)), some (.int k)] [] M Q
  refine fm_aloadn (pc := 0) (n := 0) 0 rfl rfl (fm_dec dtX3_writtenIn 0 rfl) ?_
  refine fm_getJ (k := 34) (j := 6) (ci := 3) (pc := 1) fl_X3_33 (by decide) rfl (by decide) rfl (fm_dec dtX3_writtenIn 1 rfl) ?_
  refine fm_iloadn (pc := 4) (n := 1) 1 rfl rfl (fm_dec dtX3_writtenIn 2 rfl) ?_
  refine fm_invS1 (d' := 0) (pc := 5) cs_X3_37 (Nat.le_of_ble_eq_true rfl) (by decide) (fm_dec dtX3_writtenIn 3 rfl) ?_
  refine c_keyShift hst _ ?_
  refine fm_then1 ?_
  refine fm_lshr (pc := 8) (fm_dec dtX3_writtenIn 4 rfl) ?_
  refine fm_l2i (pc := 9) (fm_dec dtX3_writtenIn 5 rfl) ?_
  refine fm_sipush (pc := 10) (v := 255) (by decide) (fm_dec dtX3_writtenIn 6 rfl) ?_
  refine fm_iand (pc := 13) (fm_dec dtX3_writtenIn 7 rfl) ?_
  refine fm_topE (v := 0) (by rw [h6, shr0L]; decide) ?_
  exact fm_ireturn (pc := 14) rfl (fm_dec dtX3_writtenIn 8 rfl) hq

set_option maxRecDepth 20000 in
theorem x_bestIn {l : Launch} {G : fmG} {M : fmM} {Q : fmR → fmM → Prop} (hst : l.stackTraces = false) (n k : Int32) (hl : M.1 3 9 = 0) (h5 : M.1 34 5 = 0) (h3 : M.1 47 3 = 8) (h11 : M.1 3 11 = 8) (hq : ∀ M', inR n 1 3 → inR k 0 (n - 1) → Q (.inl (some (.int 0))) M') (hx : ∀ M', ¬ (inR n 1 3 ∧ inR k 0 (n - 1)) → Q (.inr fmIAE) M') : fmGood Tx l G 7 qX10_bestIn [.ref (G.1 0), .int n, .int k] M Q := by
  refine fmGood_of hst (by decide +kernel) (Nat.le_of_ble_eq_true rfl) ?_
  show fmEv Tx l G 7 qX10_bestIn 0 [some (.ref (G.1 0)), some (.int n), some (.int k)] [] M Q
  refine fm_aloadn (pc := 0) (n := 0) 0 rfl rfl (fm_dec dtX10_bestIn 0 rfl) ?_
  refine fm_iloadn (pc := 1) (n := 1) 1 rfl rfl (fm_dec dtX10_bestIn 1 rfl) ?_
  refine fm_iconst (pc := 2) (v := 1) (by decide) (fm_dec dtX10_bestIn 2 rfl) ?_
  refine fm_iconst (pc := 3) (v := 3) (by decide) (fm_dec dtX10_bestIn 3 rfl) ?_
  refine fm_invV3 (k := 0) (d' := 0) (pc := 4) cv_X10_169 (by decide) rfl (Nat.le_of_ble_eq_true rfl) (by decide) (fm_dec dtX10_bestIn 4 rfl) ?_
  refine c_needWithin hst _ _ _ (fun hi4 => ?_) (fun hx4 => ?_)
  · refine fm_then0 ?_
    refine fm_aloadn (pc := 7) (n := 0) 0 rfl rfl (fm_dec dtX10_bestIn 5 rfl) ?_
    refine fm_iloadn (pc := 8) (n := 2) 2 rfl rfl (fm_dec dtX10_bestIn 6 rfl) ?_
    refine fm_iconst (pc := 9) (v := 0) (by decide) (fm_dec dtX10_bestIn 7 rfl) ?_
    refine fm_iloadn (pc := 10) (n := 1) 1 rfl rfl (fm_dec dtX10_bestIn 8 rfl) ?_
    refine fm_iconst (pc := 11) (v := 1) (by decide) (fm_dec dtX10_bestIn 9 rfl) ?_
    refine fm_isub (pc := 12) (fm_dec dtX10_bestIn 10 rfl) ?_
    refine fm_invV3 (k := 0) (d' := 0) (pc := 13) cv_X10_169 (by decide) rfl (Nat.le_of_ble_eq_true rfl) (by decide) (fm_dec dtX10_bestIn 11 rfl) ?_
    refine c_needWithin hst _ _ _ (fun hi13 => ?_) (fun hx13 => ?_)
    · refine fm_then0 ?_
      rcases inR_13 hi4 with rfl | rfl | rfl
      · refine fm_aloadn (pc := 16) (n := 0) 0 rfl rfl (fm_dec dtX10_bestIn 12 rfl) ?_
        refine fm_getR (k := 0) (j := 7) (ci := 10) (pc := 17) 34 rfl fl_X10_61 (by decide) rfl (by decide) (by decide) (fm_dec dtX10_bestIn 13 rfl) ?_
        refine fm_aloadn (pc := 20) (n := 0) 0 rfl rfl (fm_dec dtX10_bestIn 14 rfl) ?_
        refine fm_getR (k := 0) (j := 9) (ci := 10) (pc := 21) 46 rfl fl_X10_75 (by decide) rfl (by decide) (by decide) (fm_dec dtX10_bestIn 15 rfl) ?_
        refine fm_getR (k := 46) (j := 0) (ci := 5) (pc := 24) 47 rfl fl_X10_90 (by decide) rfl (by decide) (by decide) (fm_dec dtX10_bestIn 16 rfl) ?_
        refine fm_iloadn (pc := 27) (n := 1) 1 rfl rfl (fm_dec dtX10_bestIn 17 rfl) ?_
        refine fm_invV2 (k := 34) (d' := 6) (pc := 28) cv_X10_289 (by decide) rfl (Nat.le_of_ble_eq_true rfl) (by decide) (fm_dec dtX10_bestIn 18 rfl) ?_
        refine c_prep1 hst hl h5 h3 h11 (fun M28 p28 => ?_)
        refine fm_then0 ?_
        refine fm_aloadn (pc := 31) (n := 0) 0 rfl rfl (fm_dec dtX10_bestIn 19 rfl) ?_
        refine fm_getR (k := 0) (j := 7) (ci := 10) (pc := 32) 34 rfl fl_X10_61 (by decide) rfl (by decide) (by decide) (fm_dec dtX10_bestIn 20 rfl) ?_
        refine fm_iloadn (pc := 35) (n := 2) 2 rfl rfl (fm_dec dtX10_bestIn 21 rfl) ?_
        refine fm_invV1 (k := 34) (d' := 1) (pc := 36) cv_X10_297 (by decide) rfl (Nat.le_of_ble_eq_true rfl) (by decide) (fm_dec dtX10_bestIn 22 rfl) ?_
        refine c_writtenIn0 hst _ p28 ?_
        refine fm_then1 ?_
        exact fm_ireturn (pc := 39) rfl (fm_dec dtX10_bestIn 23 rfl) (hq _ hi4 hi13)
      · refine fm_aloadn (pc := 16) (n := 0) 0 rfl rfl (fm_dec dtX10_bestIn 12 rfl) ?_
        refine fm_getR (k := 0) (j := 7) (ci := 10) (pc := 17) 34 rfl fl_X10_61 (by decide) rfl (by decide) (by decide) (fm_dec dtX10_bestIn 13 rfl) ?_
        refine fm_aloadn (pc := 20) (n := 0) 0 rfl rfl (fm_dec dtX10_bestIn 14 rfl) ?_
        refine fm_getR (k := 0) (j := 9) (ci := 10) (pc := 21) 46 rfl fl_X10_75 (by decide) rfl (by decide) (by decide) (fm_dec dtX10_bestIn 15 rfl) ?_
        refine fm_getR (k := 46) (j := 0) (ci := 5) (pc := 24) 47 rfl fl_X10_90 (by decide) rfl (by decide) (by decide) (fm_dec dtX10_bestIn 16 rfl) ?_
        refine fm_iloadn (pc := 27) (n := 1) 1 rfl rfl (fm_dec dtX10_bestIn 17 rfl) ?_
        refine fm_invV2 (k := 34) (d' := 6) (pc := 28) cv_X10_289 (by decide) rfl (Nat.le_of_ble_eq_true rfl) (by decide) (fm_dec dtX10_bestIn 18 rfl) ?_
        refine c_prep2 hst hl h5 h3 h11 (fun M28 p28 => ?_)
        refine fm_then0 ?_
        refine fm_aloadn (pc := 31) (n := 0) 0 rfl rfl (fm_dec dtX10_bestIn 19 rfl) ?_
        refine fm_getR (k := 0) (j := 7) (ci := 10) (pc := 32) 34 rfl fl_X10_61 (by decide) rfl (by decide) (by decide) (fm_dec dtX10_bestIn 20 rfl) ?_
        refine fm_iloadn (pc := 35) (n := 2) 2 rfl rfl (fm_dec dtX10_bestIn 21 rfl) ?_
        refine fm_invV1 (k := 34) (d' := 1) (pc := 36) cv_X10_297 (by decide) rfl (Nat.le_of_ble_eq_true rfl) (by decide) (fm_dec dtX10_bestIn 22 rfl) ?_
        refine c_writtenIn0 hst _ p28 ?_
        refine fm_then1 ?_
        exact fm_ireturn (pc := 39) rfl (fm_dec dtX10_bestIn 23 rfl) (hq _ hi4 hi13)
      · refine fm_aloadn (pc := 16) (n := 0) 0 rfl rfl (fm_dec dtX10_bestIn 12 rfl) ?_
        refine fm_getR (k := 0) (j := 7) (ci := 10) (pc := 17) 34 rfl fl_X10_61 (by decide) rfl (by decide) (by decide) (fm_dec dtX10_bestIn 13 rfl) ?_
        refine fm_aloadn (pc := 20) (n := 0) 0 rfl rfl (fm_dec dtX10_bestIn 14 rfl) ?_
        refine fm_getR (k := 0) (j := 9) (ci := 10) (pc := 21) 46 rfl fl_X10_75 (by decide) rfl (by decide) (by decide) (fm_dec dtX10_bestIn 15 rfl) ?_
        refine fm_getR (k := 46) (j := 0) (ci := 5) (pc := 24) 47 rfl fl_X10_90 (by decide) rfl (by decide) (by decide) (fm_dec dtX10_bestIn 16 rfl) ?_
        refine fm_iloadn (pc := 27) (n := 1) 1 rfl rfl (fm_dec dtX10_bestIn 17 rfl) ?_
        refine fm_invV2 (k := 34) (d' := 6) (pc := 28) cv_X10_289 (by decide) rfl (Nat.le_of_ble_eq_true rfl) (by decide) (fm_dec dtX10_bestIn 18 rfl) ?_
        refine c_prep3 hst hl h5 h3 h11 (fun M28 p28 => ?_)
        refine fm_then0 ?_
        refine fm_aloadn (pc := 31) (n := 0) 0 rfl rfl (fm_dec dtX10_bestIn 19 rfl) ?_
        refine fm_getR (k := 0) (j := 7) (ci := 10) (pc := 32) 34 rfl fl_X10_61 (by decide) rfl (by decide) (by decide) (fm_dec dtX10_bestIn 20 rfl) ?_
        refine fm_iloadn (pc := 35) (n := 2) 2 rfl rfl (fm_dec dtX10_bestIn 21 rfl) ?_
        refine fm_invV1 (k := 34) (d' := 1) (pc := 36) cv_X10_297 (by decide) rfl (Nat.le_of_ble_eq_true rfl) (by decide) (fm_dec dtX10_bestIn 22 rfl) ?_
        refine c_writtenIn0 hst _ p28 ?_
        refine fm_then1 ?_
        exact fm_ireturn (pc := 39) rfl (fm_dec dtX10_bestIn 23 rfl) (hq _ hi4 hi13)
    · refine fm_thenX ?_
      exact hx _ (fun h => by first | exact hx13 h.1 | exact hx13 h.2)
  · refine fm_thenX ?_
    exact hx _ (fun h => by first | exact hx4 h.1 | exact hx4 h.2)

set_option maxRecDepth 20000 in
theorem c_peek0 {l : Launch} {G : fmG} {M : fmM} {Q : fmR → fmM → Prop} (hst : l.stackTraces = false)  (h2 : M.1 1 2 = 0) (h3 : M.1 1 3 = 0) (hq : Q (.inl (some (.int (-1)))) M) : fmGood Tx l G 0 qX7_peek [.ref (G.1 1)] M Q := by
  refine fmGood_of hst (by decide +kernel) (Nat.le_of_ble_eq_true rfl) ?_
  show fmEv Tx l G 0 qX7_peek 0 [some (.ref (G.1 1))] [] M Q
  refine fm_aloadn (pc := 0) (n := 0) 0 rfl rfl (fm_dec dtX7_peek 0 rfl) ?_
  refine fm_getI (k := 1) (j := 3) (ci := 7) (pc := 1) fl_X7_25 (by decide) rfl (by decide) rfl (fm_dec dtX7_peek 1 rfl) ?_
  refine fm_aloadn (pc := 4) (n := 0) 0 rfl rfl (fm_dec dtX7_peek 2 rfl) ?_
  refine fm_getI (k := 1) (j := 2) (ci := 7) (pc := 5) fl_X7_22 (by decide) rfl (by decide) rfl (fm_dec dtX7_peek 3 rfl) ?_
  refine fm_icmp_ge (pc := 8) 38 (by decide) (fm_dec dtX7_peek 4 rfl) (fun _ => ?_) (fun hc8 => by exfalso; exact hc8 (by rw [h2, h3]; decide))
  refine fm_aloadn (pc := 38) (n := 0) 0 rfl rfl (fm_dec dtX7_peek 19 rfl) ?_
  refine fm_getI (k := 1) (j := 3) (ci := 7) (pc := 39) fl_X7_25 (by decide) rfl (by decide) rfl (fm_dec dtX7_peek 20 rfl) ?_
  refine fm_aloadn (pc := 42) (n := 0) 0 rfl rfl (fm_dec dtX7_peek 21 rfl) ?_
  refine fm_getI (k := 1) (j := 2) (ci := 7) (pc := 43) fl_X7_22 (by decide) rfl (by decide) rfl (fm_dec dtX7_peek 22 rfl) ?_
  refine fm_icmp_ge (pc := 46) 65 (by decide) (fm_dec dtX7_peek 23 rfl) (fun _ => ?_) (fun hc46 => by exfalso; exact hc46 (by rw [h2, h3]; decide))
  refine fm_iconst (pc := 65) (v := (-1)) (by decide) (fm_dec dtX7_peek 32 rfl) ?_
  exact fm_ireturn (pc := 66) rfl (fm_dec dtX7_peek 33 rfl) hq

set_option maxRecDepth 20000 in
theorem c_clearTold {l : Launch} {G : fmG} {M : fmM} {Q : fmR → fmM → Prop} (hst : l.stackTraces = false)  (hq : Q (.inl none) (fmI (fmI (fmI (fmI (fmI (fmI M 13 9 0) 13 10 0) 13 11 8) 13 12 5) 13 13 3) 13 14 2)) : fmGood Tx l G 0 qX8_clear [.ref (G.1 13)] M Q := by
  refine fmGood_of hst (by decide +kernel) (Nat.le_of_ble_eq_true rfl) ?_
  show fmEv Tx l G 0 qX8_clear 0 [some (.ref (G.1 13))] [] M Q
  refine fm_aloadn (pc := 0) (n := 0) 0 rfl rfl (fm_dec dtX8_clear 0 rfl) ?_
  refine fm_iconst (pc := 1) (v := 0) (by decide) (fm_dec dtX8_clear 1 rfl) ?_
  refine fm_putI (k := 13) (j := 9) (ci := 8) (pc := 2) fl_X8_42 (by decide) rfl (by decide) rfl rfl (fm_dec dtX8_clear 2 rfl) ?_
  refine fm_aloadn (pc := 5) (n := 0) 0 rfl rfl (fm_dec dtX8_clear 3 rfl) ?_
  refine fm_iconst (pc := 6) (v := 0) (by decide) (fm_dec dtX8_clear 4 rfl) ?_
  refine fm_putI (k := 13) (j := 10) (ci := 8) (pc := 7) fl_X8_46 (by decide) rfl (by decide) rfl rfl (fm_dec dtX8_clear 5 rfl) ?_
  refine fm_aloadn (pc := 10) (n := 0) 0 rfl rfl (fm_dec dtX8_clear 6 rfl) ?_
  refine fm_bipush (pc := 11) (v := 8) (by decide) (fm_dec dtX8_clear 7 rfl) ?_
  refine fm_putI (k := 13) (j := 11) (ci := 8) (pc := 13) fl_X8_49 (by decide) rfl (by decide) rfl rfl (fm_dec dtX8_clear 8 rfl) ?_
  refine fm_aloadn (pc := 16) (n := 0) 0 rfl rfl (fm_dec dtX8_clear 9 rfl) ?_
  refine fm_iconst (pc := 17) (v := 5) (by decide) (fm_dec dtX8_clear 10 rfl) ?_
  refine fm_putI (k := 13) (j := 12) (ci := 8) (pc := 18) fl_X8_52 (by decide) rfl (by decide) rfl rfl (fm_dec dtX8_clear 11 rfl) ?_
  refine fm_aloadn (pc := 21) (n := 0) 0 rfl rfl (fm_dec dtX8_clear 12 rfl) ?_
  refine fm_iconst (pc := 22) (v := 3) (by decide) (fm_dec dtX8_clear 13 rfl) ?_
  refine fm_putI (k := 13) (j := 13) (ci := 8) (pc := 23) fl_X8_55 (by decide) rfl (by decide) rfl rfl (fm_dec dtX8_clear 14 rfl) ?_
  refine fm_aloadn (pc := 26) (n := 0) 0 rfl rfl (fm_dec dtX8_clear 15 rfl) ?_
  refine fm_iconst (pc := 27) (v := 2) (by decide) (fm_dec dtX8_clear 16 rfl) ?_
  refine fm_putI (k := 13) (j := 14) (ci := 8) (pc := 28) fl_X8_58 (by decide) rfl (by decide) rfl rfl (fm_dec dtX8_clear 17 rfl) ?_
  exact fm_return (pc := 31) rfl (fm_dec dtX8_clear 18 rfl) hq

set_option maxRecDepth 20000 in
theorem c_readTold0 {l : Launch} {G : fmG} {M : fmM} {Q : fmR → fmM → Prop} (hst : l.stackTraces = false)  (h2 : M.1 1 2 = 0) (h3 : M.1 1 3 = 0) (hq : ∀ M', M'.1 13 9 = 0 → Q (.inl (some (.int 1))) M') : fmGood Tx l G 7 qX8_read [.ref (G.1 13), .ref (G.1 1)] M Q := by
  refine fmGood_of hst (by decide +kernel) (Nat.le_of_ble_eq_true rfl) ?_
  show fmEv Tx l G 7 qX8_read 0 [some (.ref (G.1 13)), some (.ref (G.1 1)), none] [] M Q
  refine fm_aloadn (pc := 0) (n := 0) 0 rfl rfl (fm_dec dtX8_read 0 rfl) ?_
  refine fm_invV0 (k := 13) (d' := 0) (pc := 1) cv_X8_39 (by decide) rfl (Nat.le_of_ble_eq_true rfl) (by decide) (fm_dec dtX8_read 1 rfl) ?_
  refine c_clearTold hst ?_
  refine fm_then0 ?_
  refine fm_iconst (pc := 4) (v := 0) (by decide) (fm_dec dtX8_read 2 rfl) ?_
  refine fm_istoren (pc := 5) (n := 2) 2 rfl (by decide) rfl (fm_dec dtX8_read 3 rfl) ?_
  dsimp only [List.set_cons_zero, List.set_cons_succ]
  refine fm_iloadn (pc := 6) (n := 2) 2 rfl rfl (fm_dec dtX8_read 4 rfl) ?_
  refine fm_bipush (pc := 7) (v := 60) (by decide) (fm_dec dtX8_read 5 rfl) ?_
  refine fm_icmp_gt (pc := 9) 48 (by decide) (fm_dec dtX8_read 6 rfl) (fun hc9 => by exfalso; exact absurd hc9 (by decide)) (fun _ => ?_)
  refine fm_aloadn (pc := 12) (n := 1) 1 rfl rfl (fm_dec dtX8_read 7 rfl) ?_
  refine fm_invV0 (k := 1) (d' := 0) (pc := 13) cv_X8_67 (by decide) rfl (Nat.le_of_ble_eq_true rfl) (by decide) (fm_dec dtX8_read 8 rfl) ?_
  refine c_peek0 hst (by simp [fmI, h2]) (by simp [fmI, h3]) ?_
  refine fm_then1 ?_
  refine fm_iconst (pc := 16) (v := (-1)) (by decide) (fm_dec dtX8_read 9 rfl) ?_
  refine fm_icmp_ne (pc := 17) 22 (by decide) (fm_dec dtX8_read 10 rfl) (fun hc17 => by exfalso; exact absurd rfl hc17) (fun _ => ?_)
  refine fm_iconst (pc := 20) (v := 1) (by decide) (fm_dec dtX8_read 11 rfl) ?_
  exact fm_zreturn (pc := 21) rfl rfl (fm_dec dtX8_read 12 rfl) (hq _ (by simp [fmI, upd]))

set_option maxRecDepth 20000 in
theorem c_copyTold {l : Launch} {G : fmG} {M : fmM} {Q : fmR → fmM → Prop} (hst : l.stackTraces = false)  (hq : ∀ M', M'.1 3 9 = M.1 13 9 → Q (.inl none) M') : fmGood Tx l G 0 qX8_copyFrom [.ref (G.1 3), .ref (G.1 13)] M Q := by
  refine fmGood_of hst (by decide +kernel) (Nat.le_of_ble_eq_true rfl) ?_
  show fmEv Tx l G 0 qX8_copyFrom 0 [some (.ref (G.1 3)), some (.ref (G.1 13))] [] M Q
  refine fm_aloadn (pc := 0) (n := 1) 1 rfl rfl (fm_dec dtX8_copyFrom 0 rfl) ?_
  refine fm_getR (k := 13) (j := 0) (ci := 8) (pc := 1) 14 rfl fl_X8_9 (by decide) rfl (by decide) (by decide) (fm_dec dtX8_copyFrom 1 rfl) ?_
  refine fm_iconst (pc := 4) (v := 0) (by decide) (fm_dec dtX8_copyFrom 2 rfl) ?_
  refine fm_aloadn (pc := 5) (n := 0) 0 rfl rfl (fm_dec dtX8_copyFrom 3 rfl) ?_
  refine fm_getR (k := 3) (j := 0) (ci := 8) (pc := 6) 4 rfl fl_X8_9 (by decide) rfl (by decide) (by decide) (fm_dec dtX8_copyFrom 4 rfl) ?_
  refine fm_iconst (pc := 9) (v := 0) (by decide) (fm_dec dtX8_copyFrom 5 rfl) ?_
  refine fm_bipush (pc := 10) (v := 8) (by decide) (fm_dec dtX8_copyFrom 6 rfl) ?_
  refine fm_copy (k0 := 14) (k1 := 4) (n0 := 8) (n1 := 8) (pc := 12) ca_X8_61 na_copy (by decide) rfl rfl (by decide) rfl rfl (by decide) (by decide) (by decide) (by decide) (by decide) (Nat.le_of_ble_eq_true rfl) (fm_dec dtX8_copyFrom 7 rfl) ?_
  refine fm_aloadn (pc := 15) (n := 1) 1 rfl rfl (fm_dec dtX8_copyFrom 8 rfl) ?_
  refine fm_getR (k := 13) (j := 1) (ci := 8) (pc := 16) 15 rfl fl_X8_15 (by decide) rfl (by decide) (by decide) (fm_dec dtX8_copyFrom 9 rfl) ?_
  refine fm_iconst (pc := 19) (v := 0) (by decide) (fm_dec dtX8_copyFrom 10 rfl) ?_
  refine fm_aloadn (pc := 20) (n := 0) 0 rfl rfl (fm_dec dtX8_copyFrom 11 rfl) ?_
  refine fm_getR (k := 3) (j := 1) (ci := 8) (pc := 21) 5 rfl fl_X8_15 (by decide) rfl (by decide) (by decide) (fm_dec dtX8_copyFrom 12 rfl) ?_
  refine fm_iconst (pc := 24) (v := 0) (by decide) (fm_dec dtX8_copyFrom 13 rfl) ?_
  refine fm_bipush (pc := 25) (v := 8) (by decide) (fm_dec dtX8_copyFrom 14 rfl) ?_
  refine fm_copy (k0 := 15) (k1 := 5) (n0 := 8) (n1 := 8) (pc := 27) ca_X8_61 na_copy (by decide) rfl rfl (by decide) rfl rfl (by decide) (by decide) (by decide) (by decide) (by decide) (Nat.le_of_ble_eq_true rfl) (fm_dec dtX8_copyFrom 15 rfl) ?_
  refine fm_aloadn (pc := 30) (n := 1) 1 rfl rfl (fm_dec dtX8_copyFrom 16 rfl) ?_
  refine fm_getR (k := 13) (j := 2) (ci := 8) (pc := 31) 16 rfl fl_X8_18 (by decide) rfl (by decide) (by decide) (fm_dec dtX8_copyFrom 17 rfl) ?_
  refine fm_iconst (pc := 34) (v := 0) (by decide) (fm_dec dtX8_copyFrom 18 rfl) ?_
  refine fm_aloadn (pc := 35) (n := 0) 0 rfl rfl (fm_dec dtX8_copyFrom 19 rfl) ?_
  refine fm_getR (k := 3) (j := 2) (ci := 8) (pc := 36) 6 rfl fl_X8_18 (by decide) rfl (by decide) (by decide) (fm_dec dtX8_copyFrom 20 rfl) ?_
  refine fm_iconst (pc := 39) (v := 0) (by decide) (fm_dec dtX8_copyFrom 21 rfl) ?_
  refine fm_bipush (pc := 40) (v := 8) (by decide) (fm_dec dtX8_copyFrom 22 rfl) ?_
  refine fm_copy (k0 := 16) (k1 := 6) (n0 := 8) (n1 := 8) (pc := 42) ca_X8_61 na_copy (by decide) rfl rfl (by decide) rfl rfl (by decide) (by decide) (by decide) (by decide) (by decide) (Nat.le_of_ble_eq_true rfl) (fm_dec dtX8_copyFrom 23 rfl) ?_
  refine fm_aloadn (pc := 45) (n := 1) 1 rfl rfl (fm_dec dtX8_copyFrom 24 rfl) ?_
  refine fm_getR (k := 13) (j := 3) (ci := 8) (pc := 46) 17 rfl fl_X8_21 (by decide) rfl (by decide) (by decide) (fm_dec dtX8_copyFrom 25 rfl) ?_
  refine fm_iconst (pc := 49) (v := 0) (by decide) (fm_dec dtX8_copyFrom 26 rfl) ?_
  refine fm_aloadn (pc := 50) (n := 0) 0 rfl rfl (fm_dec dtX8_copyFrom 27 rfl) ?_
  refine fm_getR (k := 3) (j := 3) (ci := 8) (pc := 51) 7 rfl fl_X8_21 (by decide) rfl (by decide) (by decide) (fm_dec dtX8_copyFrom 28 rfl) ?_
  refine fm_iconst (pc := 54) (v := 0) (by decide) (fm_dec dtX8_copyFrom 29 rfl) ?_
  refine fm_bipush (pc := 55) (v := 8) (by decide) (fm_dec dtX8_copyFrom 30 rfl) ?_
  refine fm_copy (k0 := 17) (k1 := 7) (n0 := 8) (n1 := 8) (pc := 57) ca_X8_61 na_copy (by decide) rfl rfl (by decide) rfl rfl (by decide) (by decide) (by decide) (by decide) (by decide) (Nat.le_of_ble_eq_true rfl) (fm_dec dtX8_copyFrom 31 rfl) ?_
  refine fm_aloadn (pc := 60) (n := 1) 1 rfl rfl (fm_dec dtX8_copyFrom 32 rfl) ?_
  refine fm_getR (k := 13) (j := 4) (ci := 8) (pc := 61) 18 rfl fl_X8_24 (by decide) rfl (by decide) (by decide) (fm_dec dtX8_copyFrom 33 rfl) ?_
  refine fm_iconst (pc := 64) (v := 0) (by decide) (fm_dec dtX8_copyFrom 34 rfl) ?_
  refine fm_aloadn (pc := 65) (n := 0) 0 rfl rfl (fm_dec dtX8_copyFrom 35 rfl) ?_
  refine fm_getR (k := 3) (j := 4) (ci := 8) (pc := 66) 8 rfl fl_X8_24 (by decide) rfl (by decide) (by decide) (fm_dec dtX8_copyFrom 36 rfl) ?_
  refine fm_iconst (pc := 69) (v := 0) (by decide) (fm_dec dtX8_copyFrom 37 rfl) ?_
  refine fm_bipush (pc := 70) (v := 8) (by decide) (fm_dec dtX8_copyFrom 38 rfl) ?_
  refine fm_copy (k0 := 18) (k1 := 8) (n0 := 8) (n1 := 8) (pc := 72) ca_X8_61 na_copy (by decide) rfl rfl (by decide) rfl rfl (by decide) (by decide) (by decide) (by decide) (by decide) (Nat.le_of_ble_eq_true rfl) (fm_dec dtX8_copyFrom 39 rfl) ?_
  refine fm_aloadn (pc := 75) (n := 1) 1 rfl rfl (fm_dec dtX8_copyFrom 40 rfl) ?_
  refine fm_getR (k := 13) (j := 5) (ci := 8) (pc := 76) 19 rfl fl_X8_27 (by decide) rfl (by decide) (by decide) (fm_dec dtX8_copyFrom 41 rfl) ?_
  refine fm_iconst (pc := 79) (v := 0) (by decide) (fm_dec dtX8_copyFrom 42 rfl) ?_
  refine fm_aloadn (pc := 80) (n := 0) 0 rfl rfl (fm_dec dtX8_copyFrom 43 rfl) ?_
  refine fm_getR (k := 3) (j := 5) (ci := 8) (pc := 81) 9 rfl fl_X8_27 (by decide) rfl (by decide) (by decide) (fm_dec dtX8_copyFrom 44 rfl) ?_
  refine fm_iconst (pc := 84) (v := 0) (by decide) (fm_dec dtX8_copyFrom 45 rfl) ?_
  refine fm_bipush (pc := 85) (v := 8) (by decide) (fm_dec dtX8_copyFrom 46 rfl) ?_
  refine fm_copy (k0 := 19) (k1 := 9) (n0 := 8) (n1 := 8) (pc := 87) ca_X8_61 na_copy (by decide) rfl rfl (by decide) rfl rfl (by decide) (by decide) (by decide) (by decide) (by decide) (Nat.le_of_ble_eq_true rfl) (fm_dec dtX8_copyFrom 47 rfl) ?_
  refine fm_aloadn (pc := 90) (n := 1) 1 rfl rfl (fm_dec dtX8_copyFrom 48 rfl) ?_
  refine fm_getR (k := 13) (j := 6) (ci := 8) (pc := 91) 20 rfl fl_X8_30 (by decide) rfl (by decide) (by decide) (fm_dec dtX8_copyFrom 49 rfl) ?_
  refine fm_iconst (pc := 94) (v := 0) (by decide) (fm_dec dtX8_copyFrom 50 rfl) ?_
  refine fm_aloadn (pc := 95) (n := 0) 0 rfl rfl (fm_dec dtX8_copyFrom 51 rfl) ?_
  refine fm_getR (k := 3) (j := 6) (ci := 8) (pc := 96) 10 rfl fl_X8_30 (by decide) rfl (by decide) (by decide) (fm_dec dtX8_copyFrom 52 rfl) ?_
  refine fm_iconst (pc := 99) (v := 0) (by decide) (fm_dec dtX8_copyFrom 53 rfl) ?_
  refine fm_bipush (pc := 100) (v := 24) (by decide) (fm_dec dtX8_copyFrom 54 rfl) ?_
  refine fm_copy (k0 := 20) (k1 := 10) (n0 := 24) (n1 := 24) (pc := 102) ca_X8_61 na_copy (by decide) rfl rfl (by decide) rfl rfl (by decide) (by decide) (by decide) (by decide) (by decide) (Nat.le_of_ble_eq_true rfl) (fm_dec dtX8_copyFrom 55 rfl) ?_
  refine fm_aloadn (pc := 105) (n := 1) 1 rfl rfl (fm_dec dtX8_copyFrom 56 rfl) ?_
  refine fm_getR (k := 13) (j := 7) (ci := 8) (pc := 106) 21 rfl fl_X8_33 (by decide) rfl (by decide) (by decide) (fm_dec dtX8_copyFrom 57 rfl) ?_
  refine fm_iconst (pc := 109) (v := 0) (by decide) (fm_dec dtX8_copyFrom 58 rfl) ?_
  refine fm_aloadn (pc := 110) (n := 0) 0 rfl rfl (fm_dec dtX8_copyFrom 59 rfl) ?_
  refine fm_getR (k := 3) (j := 7) (ci := 8) (pc := 111) 11 rfl fl_X8_33 (by decide) rfl (by decide) (by decide) (fm_dec dtX8_copyFrom 60 rfl) ?_
  refine fm_iconst (pc := 114) (v := 0) (by decide) (fm_dec dtX8_copyFrom 61 rfl) ?_
  refine fm_bipush (pc := 115) (v := 24) (by decide) (fm_dec dtX8_copyFrom 62 rfl) ?_
  refine fm_copy (k0 := 21) (k1 := 11) (n0 := 24) (n1 := 24) (pc := 117) ca_X8_61 na_copy (by decide) rfl rfl (by decide) rfl rfl (by decide) (by decide) (by decide) (by decide) (by decide) (Nat.le_of_ble_eq_true rfl) (fm_dec dtX8_copyFrom 63 rfl) ?_
  refine fm_aloadn (pc := 120) (n := 1) 1 rfl rfl (fm_dec dtX8_copyFrom 64 rfl) ?_
  refine fm_getR (k := 13) (j := 8) (ci := 8) (pc := 121) 22 rfl fl_X8_36 (by decide) rfl (by decide) (by decide) (fm_dec dtX8_copyFrom 65 rfl) ?_
  refine fm_iconst (pc := 124) (v := 0) (by decide) (fm_dec dtX8_copyFrom 66 rfl) ?_
  refine fm_aloadn (pc := 125) (n := 0) 0 rfl rfl (fm_dec dtX8_copyFrom 67 rfl) ?_
  refine fm_getR (k := 3) (j := 8) (ci := 8) (pc := 126) 12 rfl fl_X8_36 (by decide) rfl (by decide) (by decide) (fm_dec dtX8_copyFrom 68 rfl) ?_
  refine fm_iconst (pc := 129) (v := 0) (by decide) (fm_dec dtX8_copyFrom 69 rfl) ?_
  refine fm_bipush (pc := 130) (v := 24) (by decide) (fm_dec dtX8_copyFrom 70 rfl) ?_
  refine fm_copy (k0 := 22) (k1 := 12) (n0 := 24) (n1 := 24) (pc := 132) ca_X8_61 na_copy (by decide) rfl rfl (by decide) rfl rfl (by decide) (by decide) (by decide) (by decide) (by decide) (Nat.le_of_ble_eq_true rfl) (fm_dec dtX8_copyFrom 71 rfl) ?_
  refine fm_aloadn (pc := 135) (n := 0) 0 rfl rfl (fm_dec dtX8_copyFrom 72 rfl) ?_
  refine fm_aloadn (pc := 136) (n := 1) 1 rfl rfl (fm_dec dtX8_copyFrom 73 rfl) ?_
  refine fm_getI (k := 13) (j := 9) (ci := 8) (pc := 137) fl_X8_42 (by decide) rfl (by decide) rfl (fm_dec dtX8_copyFrom 74 rfl) ?_
  refine fm_putI (k := 3) (j := 9) (ci := 8) (pc := 140) fl_X8_42 (by decide) rfl (by decide) rfl rfl (fm_dec dtX8_copyFrom 75 rfl) ?_
  refine fm_aloadn (pc := 143) (n := 0) 0 rfl rfl (fm_dec dtX8_copyFrom 76 rfl) ?_
  refine fm_aloadn (pc := 144) (n := 1) 1 rfl rfl (fm_dec dtX8_copyFrom 77 rfl) ?_
  refine fm_getI (k := 13) (j := 10) (ci := 8) (pc := 145) fl_X8_46 (by decide) rfl (by decide) rfl (fm_dec dtX8_copyFrom 78 rfl) ?_
  refine fm_putI (k := 3) (j := 10) (ci := 8) (pc := 148) fl_X8_46 (by decide) rfl (by decide) rfl rfl (fm_dec dtX8_copyFrom 79 rfl) ?_
  refine fm_aloadn (pc := 151) (n := 0) 0 rfl rfl (fm_dec dtX8_copyFrom 80 rfl) ?_
  refine fm_aloadn (pc := 152) (n := 1) 1 rfl rfl (fm_dec dtX8_copyFrom 81 rfl) ?_
  refine fm_getI (k := 13) (j := 11) (ci := 8) (pc := 153) fl_X8_49 (by decide) rfl (by decide) rfl (fm_dec dtX8_copyFrom 82 rfl) ?_
  refine fm_putI (k := 3) (j := 11) (ci := 8) (pc := 156) fl_X8_49 (by decide) rfl (by decide) rfl rfl (fm_dec dtX8_copyFrom 83 rfl) ?_
  refine fm_aloadn (pc := 159) (n := 0) 0 rfl rfl (fm_dec dtX8_copyFrom 84 rfl) ?_
  refine fm_aloadn (pc := 160) (n := 1) 1 rfl rfl (fm_dec dtX8_copyFrom 85 rfl) ?_
  refine fm_getI (k := 13) (j := 12) (ci := 8) (pc := 161) fl_X8_52 (by decide) rfl (by decide) rfl (fm_dec dtX8_copyFrom 86 rfl) ?_
  refine fm_putI (k := 3) (j := 12) (ci := 8) (pc := 164) fl_X8_52 (by decide) rfl (by decide) rfl rfl (fm_dec dtX8_copyFrom 87 rfl) ?_
  refine fm_aloadn (pc := 167) (n := 0) 0 rfl rfl (fm_dec dtX8_copyFrom 88 rfl) ?_
  refine fm_aloadn (pc := 168) (n := 1) 1 rfl rfl (fm_dec dtX8_copyFrom 89 rfl) ?_
  refine fm_getI (k := 13) (j := 13) (ci := 8) (pc := 169) fl_X8_55 (by decide) rfl (by decide) rfl (fm_dec dtX8_copyFrom 90 rfl) ?_
  refine fm_putI (k := 3) (j := 13) (ci := 8) (pc := 172) fl_X8_55 (by decide) rfl (by decide) rfl rfl (fm_dec dtX8_copyFrom 91 rfl) ?_
  refine fm_aloadn (pc := 175) (n := 0) 0 rfl rfl (fm_dec dtX8_copyFrom 92 rfl) ?_
  refine fm_aloadn (pc := 176) (n := 1) 1 rfl rfl (fm_dec dtX8_copyFrom 93 rfl) ?_
  refine fm_getI (k := 13) (j := 14) (ci := 8) (pc := 177) fl_X8_58 (by decide) rfl (by decide) rfl (fm_dec dtX8_copyFrom 94 rfl) ?_
  refine fm_putI (k := 3) (j := 14) (ci := 8) (pc := 180) fl_X8_58 (by decide) rfl (by decide) rfl rfl (fm_dec dtX8_copyFrom 95 rfl) ?_
  exact fm_return (pc := 183) rfl (fm_dec dtX8_copyFrom 96 rfl) (hq _ (by simp [fmI, fmA, upd]))

set_option maxRecDepth 20000 in
theorem c_clearLaw {l : Launch} {G : fmG} {M : fmM} {Q : fmR → fmM → Prop} (hst : l.stackTraces = false)  (hq : ∀ M', M'.1 3 = M.1 3 → Q (.inl none) M') : fmGood Tx l G 0 qX1_clear [.ref (G.1 23)] M Q := by
  refine fmGood_of hst (by decide +kernel) (Nat.le_of_ble_eq_true rfl) ?_
  show fmEv Tx l G 0 qX1_clear 0 [some (.ref (G.1 23))] [] M Q
  refine fm_aloadn (pc := 0) (n := 0) 0 rfl rfl (fm_dec dtX1_clear 0 rfl) ?_
  refine fm_getR (k := 23) (j := 0) (ci := 1) (pc := 1) 24 rfl fl_X1_9 (by decide) rfl (by decide) (by decide) (fm_dec dtX1_clear 1 rfl) ?_
  refine fm_iconst (pc := 4) (v := 0) (by decide) (fm_dec dtX1_clear 2 rfl) ?_
  refine fm_iconst (pc := 5) (v := (-1)) (by decide) (fm_dec dtX1_clear 3 rfl) ?_
  refine fm_iast (k := 24) (n := 150) (pc := 6) (by decide) rfl rfl (fm_inl (by decide)) (fm_dec dtX1_clear 4 rfl) ?_
  refine fm_aloadn (pc := 7) (n := 0) 0 rfl rfl (fm_dec dtX1_clear 5 rfl) ?_
  refine fm_getR (k := 23) (j := 0) (ci := 1) (pc := 8) 24 rfl fl_X1_9 (by decide) rfl (by decide) (by decide) (fm_dec dtX1_clear 6 rfl) ?_
  refine fm_iconst (pc := 11) (v := 1) (by decide) (fm_dec dtX1_clear 7 rfl) ?_
  refine fm_iconst (pc := 12) (v := (-1)) (by decide) (fm_dec dtX1_clear 8 rfl) ?_
  refine fm_iast (k := 24) (n := 150) (pc := 13) (by decide) rfl rfl (fm_inl (by decide)) (fm_dec dtX1_clear 9 rfl) ?_
  refine fm_aloadn (pc := 14) (n := 0) 0 rfl rfl (fm_dec dtX1_clear 10 rfl) ?_
  refine fm_getR (k := 23) (j := 0) (ci := 1) (pc := 15) 24 rfl fl_X1_9 (by decide) rfl (by decide) (by decide) (fm_dec dtX1_clear 11 rfl) ?_
  refine fm_iconst (pc := 18) (v := 2) (by decide) (fm_dec dtX1_clear 12 rfl) ?_
  refine fm_bipush (pc := 19) (v := (-8)) (by decide) (fm_dec dtX1_clear 13 rfl) ?_
  refine fm_iast (k := 24) (n := 150) (pc := 21) (by decide) rfl rfl (fm_inl (by decide)) (fm_dec dtX1_clear 14 rfl) ?_
  refine fm_aloadn (pc := 22) (n := 0) 0 rfl rfl (fm_dec dtX1_clear 15 rfl) ?_
  refine fm_iconst (pc := 23) (v := 3) (by decide) (fm_dec dtX1_clear 16 rfl) ?_
  refine fm_putI (k := 23) (j := 3) (ci := 1) (pc := 24) fl_X1_24 (by decide) rfl (by decide) rfl rfl (fm_dec dtX1_clear 17 rfl) ?_
  exact fm_return (pc := 27) rfl (fm_dec dtX1_clear 18 rfl) (hq _ (by simp [fmI]))

set_option maxRecDepth 20000 in
theorem c_clearPage {l : Launch} {G : fmG} {M : fmM} {Q : fmR → fmM → Prop} (hst : l.stackTraces = false)  (hq : ∀ M', M'.1 3 = M.1 3 → Q (.inl none) M') : fmGood Tx l G 0 qX2_clear [.ref (G.1 27)] M Q := by
  refine fmGood_of hst (by decide +kernel) (Nat.le_of_ble_eq_true rfl) ?_
  show fmEv Tx l G 0 qX2_clear 0 [some (.ref (G.1 27))] [] M Q
  refine fm_aloadn (pc := 0) (n := 0) 0 rfl rfl (fm_dec dtX2_clear 0 rfl) ?_
  refine fm_iconst (pc := 1) (v := 0) (by decide) (fm_dec dtX2_clear 1 rfl) ?_
  refine fm_putI (k := 27) (j := 0) (ci := 2) (pc := 2) fl_X2_9 (by decide) rfl (by decide) rfl rfl (fm_dec dtX2_clear 2 rfl) ?_
  refine fm_aloadn (pc := 5) (n := 0) 0 rfl rfl (fm_dec dtX2_clear 3 rfl) ?_
  refine fm_iconst (pc := 6) (v := 0) (by decide) (fm_dec dtX2_clear 4 rfl) ?_
  refine fm_putI (k := 27) (j := 1) (ci := 2) (pc := 7) fl_X2_15 (by decide) rfl (by decide) rfl rfl (fm_dec dtX2_clear 5 rfl) ?_
  refine fm_aloadn (pc := 10) (n := 0) 0 rfl rfl (fm_dec dtX2_clear 6 rfl) ?_
  refine fm_iconst (pc := 11) (v := 0) (by decide) (fm_dec dtX2_clear 7 rfl) ?_
  refine fm_putI (k := 27) (j := 2) (ci := 2) (pc := 12) fl_X2_18 (by decide) rfl (by decide) rfl rfl (fm_dec dtX2_clear 8 rfl) ?_
  exact fm_return (pc := 15) rfl (fm_dec dtX2_clear 9 rfl) (hq _ (by simp [fmI]))

set_option maxRecDepth 20000 in
theorem c_begin {l : Launch} {G : fmG} {M : fmM} {Q : fmR → fmM → Prop} (hst : l.stackTraces = false)  (hq : ∀ M', M'.1 3 = M.1 3 → Q (.inl none) M') : fmGood Tx l G 0 qX6_begin [.ref (G.1 47), .ref (G.1 3)] M Q := by
  refine fmGood_of hst (by decide +kernel) (Nat.le_of_ble_eq_true rfl) ?_
  show fmEv Tx l G 0 qX6_begin 0 [some (.ref (G.1 47)), some (.ref (G.1 3))] [] M Q
  refine fm_aloadn (pc := 0) (n := 1) 1 rfl rfl (fm_dec dtX6_begin 0 rfl) ?_
  refine fm_getR (k := 3) (j := 4) (ci := 8) (pc := 1) 8 rfl fl_X6_15 (by decide) rfl (by decide) (by decide) (fm_dec dtX6_begin 1 rfl) ?_
  refine fm_iconst (pc := 4) (v := 0) (by decide) (fm_dec dtX6_begin 2 rfl) ?_
  refine fm_aloadn (pc := 5) (n := 0) 0 rfl rfl (fm_dec dtX6_begin 3 rfl) ?_
  refine fm_getR (k := 47) (j := 0) (ci := 6) (pc := 6) 48 rfl fl_X6_9 (by decide) rfl (by decide) (by decide) (fm_dec dtX6_begin 4 rfl) ?_
  refine fm_iconst (pc := 9) (v := 0) (by decide) (fm_dec dtX6_begin 5 rfl) ?_
  refine fm_bipush (pc := 10) (v := 8) (by decide) (fm_dec dtX6_begin 6 rfl) ?_
  refine fm_copy (k0 := 8) (k1 := 48) (n0 := 8) (n1 := 8) (pc := 12) ca_X6_20 na_copy (by decide) rfl rfl (by decide) rfl rfl (by decide) (by decide) (by decide) (by decide) (by decide) (Nat.le_of_ble_eq_true rfl) (fm_dec dtX6_begin 7 rfl) ?_
  refine fm_aloadn (pc := 15) (n := 0) 0 rfl rfl (fm_dec dtX6_begin 8 rfl) ?_
  refine fm_iconst (pc := 16) (v := 0) (by decide) (fm_dec dtX6_begin 9 rfl) ?_
  refine fm_putI (k := 47) (j := 1) (ci := 6) (pc := 17) fl_X6_26 (by decide) rfl (by decide) rfl rfl (fm_dec dtX6_begin 10 rfl) ?_
  refine fm_aloadn (pc := 20) (n := 0) 0 rfl rfl (fm_dec dtX6_begin 11 rfl) ?_
  refine fm_iconst (pc := 21) (v := 0) (by decide) (fm_dec dtX6_begin 12 rfl) ?_
  refine fm_putI (k := 47) (j := 2) (ci := 6) (pc := 22) fl_X6_30 (by decide) rfl (by decide) rfl rfl (fm_dec dtX6_begin 13 rfl) ?_
  refine fm_aloadn (pc := 25) (n := 0) 0 rfl rfl (fm_dec dtX6_begin 14 rfl) ?_
  refine fm_aloadn (pc := 26) (n := 1) 1 rfl rfl (fm_dec dtX6_begin 15 rfl) ?_
  refine fm_getI (k := 3) (j := 11) (ci := 8) (pc := 27) fl_X6_33 (by decide) rfl (by decide) rfl (fm_dec dtX6_begin 16 rfl) ?_
  refine fm_putI (k := 47) (j := 3) (ci := 6) (pc := 30) fl_X6_36 (by decide) rfl (by decide) rfl rfl (fm_dec dtX6_begin 17 rfl) ?_
  refine fm_aloadn (pc := 33) (n := 0) 0 rfl rfl (fm_dec dtX6_begin 18 rfl) ?_
  refine fm_iconst (pc := 34) (v := 0) (by decide) (fm_dec dtX6_begin 19 rfl) ?_
  refine fm_putI (k := 47) (j := 4) (ci := 6) (pc := 35) fl_X6_39 (by decide) rfl (by decide) rfl rfl (fm_dec dtX6_begin 20 rfl) ?_
  refine fm_aloadn (pc := 38) (n := 0) 0 rfl rfl (fm_dec dtX6_begin 21 rfl) ?_
  refine fm_iconst (pc := 39) (v := 0) (by decide) (fm_dec dtX6_begin 22 rfl) ?_
  refine fm_putI (k := 47) (j := 5) (ci := 6) (pc := 40) fl_X6_42 (by decide) rfl (by decide) rfl rfl (fm_dec dtX6_begin 23 rfl) ?_
  refine fm_aloadn (pc := 43) (n := 0) 0 rfl rfl (fm_dec dtX6_begin 24 rfl) ?_
  refine fm_lconst (pc := 44) (v := 0) (by decide) (fm_dec dtX6_begin 25 rfl) ?_
  refine fm_putJ (k := 47) (j := 6) (ci := 6) (pc := 45) fl_X6_45 (by decide) rfl (by decide) rfl rfl (fm_dec dtX6_begin 26 rfl) ?_
  exact fm_return (pc := 48) rfl (fm_dec dtX6_begin 27 rfl) (hq _ (by simp [fmI, fmA, fmJ]))

set_option maxRecDepth 20000 in
theorem c_forget {l : Launch} {G : fmG} {M : fmM} {Q : fmR → fmM → Prop} (hst : l.stackTraces = false)  (hq : Q (.inl none) (fmI M 34 5 0)) : fmGood Tx l G 0 qX3_forget [.ref (G.1 34)] M Q := by
  refine fmGood_of hst (by decide +kernel) (Nat.le_of_ble_eq_true rfl) ?_
  show fmEv Tx l G 0 qX3_forget 0 [some (.ref (G.1 34))] [] M Q
  refine fm_aloadn (pc := 0) (n := 0) 0 rfl rfl (fm_dec dtX3_forget 0 rfl) ?_
  refine fm_iconst (pc := 1) (v := 0) (by decide) (fm_dec dtX3_forget 1 rfl) ?_
  refine fm_putI (k := 34) (j := 5) (ci := 3) (pc := 2) fl_X3_29 (by decide) rfl (by decide) rfl rfl (fm_dec dtX3_forget 2 rfl) ?_
  exact fm_return (pc := 5) rfl (fm_dec dtX3_forget 3 rfl) hq

set_option maxRecDepth 20000 in
theorem x_drawer {l : Launch} {G : fmG} {M : fmM} {Q : fmR → fmM → Prop} (hst : l.stackTraces = false) (n : Int32) (h1 : M.1 1 1 = 0) (hq : ∀ M', inR n 0 0 → Q (.inl (some (.int 0))) M') (hx : ∀ M', ¬ inR n 0 0 → Q (.inr fmIAE) M') : fmGood Tx l G 8 qX10_drawer [.ref (G.1 0), .int n] M Q := by
  refine fmGood_of hst (by decide +kernel) (Nat.le_of_ble_eq_true rfl) ?_
  show fmEv Tx l G 8 qX10_drawer 0 [some (.ref (G.1 0)), some (.int n)] [] M Q
  refine fm_aloadn (pc := 0) (n := 0) 0 rfl rfl (fm_dec dtX10_drawer 0 rfl) ?_
  refine fm_iloadn (pc := 1) (n := 1) 1 rfl rfl (fm_dec dtX10_drawer 1 rfl) ?_
  refine fm_sipush (pc := 2) (v := 600) (by decide) (fm_dec dtX10_drawer 2 rfl) ?_
  refine fm_invV2 (k := 0) (d' := 1) (pc := 5) cv_X10_108 (by decide) rfl (Nat.le_of_ble_eq_true rfl) (by decide) (fm_dec dtX10_drawer 3 rfl) ?_
  refine c_openText0 hst _ _ (by rw [h1]; decide) (fun hn5 => ?_) (fun _ hx5 => ?_)
  · refine fm_then0 ?_
    refine fm_aloadn (pc := 8) (n := 0) 0 rfl rfl (fm_dec dtX10_drawer 4 rfl) ?_
    refine fm_getR (k := 0) (j := 2) (ci := 10) (pc := 9) 13 rfl fl_X10_23 (by decide) rfl (by decide) (by decide) (fm_dec dtX10_drawer 5 rfl) ?_
    refine fm_aloadn (pc := 12) (n := 0) 0 rfl rfl (fm_dec dtX10_drawer 6 rfl) ?_
    refine fm_getR (k := 0) (j := 0) (ci := 10) (pc := 13) 1 rfl fl_X10_12 (by decide) rfl (by decide) (by decide) (fm_dec dtX10_drawer 7 rfl) ?_
    refine fm_invV1 (k := 13) (d' := 7) (pc := 16) cv_X10_112 (by decide) rfl (Nat.le_of_ble_eq_true rfl) (by decide) (fm_dec dtX10_drawer 8 rfl) ?_
    refine c_readTold0 hst (by simp [uOpen, fmI, upd]) (by simp [uOpen, fmI, upd]) (fun M16 d16 => ?_)
    refine fm_then1 ?_
    refine fm_if_ne (pc := 19) 33 (by decide) (fm_dec dtX10_drawer 9 rfl) (fun _ => ?_) (fun hc19 => by exfalso; exact absurd hc19 (by decide))
    refine fm_aloadn (pc := 33) (n := 0) 0 rfl rfl (fm_dec dtX10_drawer 16 rfl) ?_
    refine fm_getR (k := 0) (j := 1) (ci := 10) (pc := 34) 3 rfl fl_X10_19 (by decide) rfl (by decide) (by decide) (fm_dec dtX10_drawer 17 rfl) ?_
    refine fm_aloadn (pc := 37) (n := 0) 0 rfl rfl (fm_dec dtX10_drawer 18 rfl) ?_
    refine fm_getR (k := 0) (j := 2) (ci := 10) (pc := 38) 13 rfl fl_X10_23 (by decide) rfl (by decide) (by decide) (fm_dec dtX10_drawer 19 rfl) ?_
    refine fm_invV1 (k := 3) (d' := 0) (pc := 41) cv_X10_119 (by decide) rfl (Nat.le_of_ble_eq_true rfl) (by decide) (fm_dec dtX10_drawer 20 rfl) ?_
    refine c_copyTold hst (fun M41 d41 => ?_)
    refine fm_then0 ?_
    refine fm_aloadn (pc := 44) (n := 0) 0 rfl rfl (fm_dec dtX10_drawer 21 rfl) ?_
    refine fm_getR (k := 0) (j := 3) (ci := 10) (pc := 45) 23 rfl fl_X10_29 (by decide) rfl (by decide) (by decide) (fm_dec dtX10_drawer 22 rfl) ?_
    refine fm_invV0 (k := 23) (d' := 0) (pc := 48) cv_X10_122 (by decide) rfl (Nat.le_of_ble_eq_true rfl) (by decide) (fm_dec dtX10_drawer 23 rfl) ?_
    refine c_clearLaw hst (fun M48 d48 => ?_)
    refine fm_then0 ?_
    refine fm_aloadn (pc := 51) (n := 0) 0 rfl rfl (fm_dec dtX10_drawer 24 rfl) ?_
    refine fm_getR (k := 0) (j := 4) (ci := 10) (pc := 52) 27 rfl fl_X10_36 (by decide) rfl (by decide) (by decide) (fm_dec dtX10_drawer 25 rfl) ?_
    refine fm_invV0 (k := 27) (d' := 0) (pc := 55) cv_X10_125 (by decide) rfl (Nat.le_of_ble_eq_true rfl) (by decide) (fm_dec dtX10_drawer 26 rfl) ?_
    refine c_clearPage hst (fun M55 d55 => ?_)
    refine fm_then0 ?_
    refine fm_aloadn (pc := 58) (n := 0) 0 rfl rfl (fm_dec dtX10_drawer 27 rfl) ?_
    refine fm_getR (k := 0) (j := 9) (ci := 10) (pc := 59) 46 rfl fl_X10_75 (by decide) rfl (by decide) (by decide) (fm_dec dtX10_drawer 28 rfl) ?_
    refine fm_getR (k := 46) (j := 0) (ci := 5) (pc := 62) 47 rfl fl_X10_90 (by decide) rfl (by decide) (by decide) (fm_dec dtX10_drawer 29 rfl) ?_
    refine fm_aloadn (pc := 65) (n := 0) 0 rfl rfl (fm_dec dtX10_drawer 30 rfl) ?_
    refine fm_getR (k := 0) (j := 1) (ci := 10) (pc := 66) 3 rfl fl_X10_19 (by decide) rfl (by decide) (by decide) (fm_dec dtX10_drawer 31 rfl) ?_
    refine fm_invV1 (k := 47) (d' := 0) (pc := 69) cv_X10_94 (by decide) rfl (Nat.le_of_ble_eq_true rfl) (by decide) (fm_dec dtX10_drawer 32 rfl) ?_
    refine c_begin hst (fun M69 d69 => ?_)
    refine fm_then0 ?_
    refine fm_aloadn (pc := 72) (n := 0) 0 rfl rfl (fm_dec dtX10_drawer 33 rfl) ?_
    refine fm_getR (k := 0) (j := 9) (ci := 10) (pc := 73) 46 rfl fl_X10_75 (by decide) rfl (by decide) (by decide) (fm_dec dtX10_drawer 34 rfl) ?_
    refine fm_iconst (pc := 76) (v := 0) (by decide) (fm_dec dtX10_drawer 35 rfl) ?_
    refine fm_putI (k := 46) (j := 2) (ci := 5) (pc := 77) fl_X10_126 (by decide) rfl (by decide) rfl rfl (fm_dec dtX10_drawer 36 rfl) ?_
    refine fm_aloadn (pc := 80) (n := 0) 0 rfl rfl (fm_dec dtX10_drawer 37 rfl) ?_
    refine fm_iconst (pc := 81) (v := 0) (by decide) (fm_dec dtX10_drawer 38 rfl) ?_
    refine fm_putI (k := 0) (j := 13) (ci := 10) (pc := 82) fl_X10_129 (by decide) rfl (by decide) rfl rfl (fm_dec dtX10_drawer 39 rfl) ?_
    refine fm_aloadn (pc := 85) (n := 0) 0 rfl rfl (fm_dec dtX10_drawer 40 rfl) ?_
    refine fm_iconst (pc := 86) (v := 0) (by decide) (fm_dec dtX10_drawer 41 rfl) ?_
    refine fm_putI (k := 0) (j := 14) (ci := 10) (pc := 87) fl_X10_132 (by decide) rfl (by decide) rfl rfl (fm_dec dtX10_drawer 42 rfl) ?_
    refine fm_aloadn (pc := 90) (n := 0) 0 rfl rfl (fm_dec dtX10_drawer 43 rfl) ?_
    refine fm_getR (k := 0) (j := 7) (ci := 10) (pc := 91) 34 rfl fl_X10_61 (by decide) rfl (by decide) (by decide) (fm_dec dtX10_drawer 44 rfl) ?_
    refine fm_invV0 (k := 34) (d' := 0) (pc := 94) cv_X10_135 (by decide) rfl (Nat.le_of_ble_eq_true rfl) (by decide) (fm_dec dtX10_drawer 45 rfl) ?_
    refine c_forget hst ?_
    refine fm_then0 ?_
    refine fm_aloadn (pc := 97) (n := 0) 0 rfl rfl (fm_dec dtX10_drawer 46 rfl) ?_
    refine fm_getR (k := 0) (j := 1) (ci := 10) (pc := 98) 3 rfl fl_X10_19 (by decide) rfl (by decide) (by decide) (fm_dec dtX10_drawer 47 rfl) ?_
    refine fm_getI (k := 3) (j := 9) (ci := 8) (pc := 101) fl_X10_138 (by decide) rfl (by decide) rfl (fm_dec dtX10_drawer 48 rfl) ?_
    exact fm_ireturn (pc := 104) rfl (fm_dec dtX10_drawer 49 rfl) (by subst hn5; have hq := hq (fmI (fmI (fmI (fmI M69 46 2 0) 0 13 0) 0 14 0) 34 5 0) ⟨by decide, by decide⟩; simpa [fmI, d69, d55, d48, d41, d16] using hq)
  · refine fm_thenX ?_
    exact hx _ hx5

set_option maxRecDepth 20000 in
theorem c_readPage0 {l : Launch} {G : fmG} {M : fmM} {Q : fmR → fmM → Prop} (hst : l.stackTraces = false)  (h2 : M.1 1 2 = 0) (h3 : M.1 1 3 = 0) (hq : ∀ M', M'.1 27 0 = bcE 0 → Q (.inl (some (.int 1))) M') : fmGood Tx l G 3 qX2_read [.ref (G.1 27), .ref (G.1 1)] M Q := by
  refine fmGood_of hst (by decide +kernel) (Nat.le_of_ble_eq_true rfl) ?_
  show fmEv Tx l G 3 qX2_read 0 [some (.ref (G.1 27)), some (.ref (G.1 1)), none, none, none, none, none, none] [] M Q
  refine fm_iconst (pc := 0) (v := 0) (by decide) (fm_dec dtX2_read 0 rfl) ?_
  refine fm_istoren (pc := 1) (n := 2) 2 rfl (by decide) rfl (fm_dec dtX2_read 1 rfl) ?_
  dsimp only [List.set_cons_zero, List.set_cons_succ]
  refine fm_iconst (pc := 2) (v := 0) (by decide) (fm_dec dtX2_read 2 rfl) ?_
  refine fm_istoren (pc := 3) (n := 3) 3 rfl (by decide) rfl (fm_dec dtX2_read 3 rfl) ?_
  dsimp only [List.set_cons_zero, List.set_cons_succ]
  refine fm_iconst (pc := 4) (v := 0) (by decide) (fm_dec dtX2_read 4 rfl) ?_
  refine fm_istore (pc := 5) (i := 4) (by decide) rfl (fm_dec dtX2_read 5 rfl) ?_
  dsimp only [List.set_cons_zero, List.set_cons_succ]
  refine fm_iload (pc := 7) (i := 4) rfl (fm_dec dtX2_read 6 rfl) ?_
  refine fm_bipush (pc := 9) (v := 6) (by decide) (fm_dec dtX2_read 7 rfl) ?_
  refine fm_icmp_gt (pc := 11) 103 (by decide) (fm_dec dtX2_read 8 rfl) (fun hc11 => by exfalso; exact absurd hc11 (by decide)) (fun _ => ?_)
  refine fm_aloadn (pc := 14) (n := 1) 1 rfl rfl (fm_dec dtX2_read 9 rfl) ?_
  refine fm_invV0 (k := 1) (d' := 0) (pc := 15) cv_X2_21 (by decide) rfl (Nat.le_of_ble_eq_true rfl) (by decide) (fm_dec dtX2_read 10 rfl) ?_
  refine c_peek0 hst h2 h3 ?_
  refine fm_then1 ?_
  refine fm_iconst (pc := 18) (v := (-1)) (by decide) (fm_dec dtX2_read 11 rfl) ?_
  refine fm_icmp_eq (pc := 19) 103 (by decide) (fm_dec dtX2_read 12 rfl) (fun _ => ?_) (fun hc19 => by exfalso; exact hc19 rfl)
  refine fm_aloadn (pc := 103) (n := 0) 0 rfl rfl (fm_dec dtX2_read 62 rfl) ?_
  refine fm_iloadn (pc := 104) (n := 2) 2 rfl rfl (fm_dec dtX2_read 63 rfl) ?_
  refine fm_invS1 (d' := 0) (pc := 105) cs_X2_46 (Nat.le_of_ble_eq_true rfl) (by decide) (fm_dec dtX2_read 64 rfl) ?_
  refine c_bitCount hst _ ?_
  refine fm_then1 ?_
  refine fm_putI (k := 27) (j := 0) (ci := 2) (pc := 108) fl_X2_9 (by decide) rfl (by decide) rfl rfl (fm_dec dtX2_read 65 rfl) ?_
  refine fm_aloadn (pc := 111) (n := 0) 0 rfl rfl (fm_dec dtX2_read 66 rfl) ?_
  refine fm_iloadn (pc := 112) (n := 2) 2 rfl rfl (fm_dec dtX2_read 67 rfl) ?_
  refine fm_putI (k := 27) (j := 1) (ci := 2) (pc := 113) fl_X2_15 (by decide) rfl (by decide) rfl rfl (fm_dec dtX2_read 68 rfl) ?_
  refine fm_aloadn (pc := 116) (n := 0) 0 rfl rfl (fm_dec dtX2_read 69 rfl) ?_
  refine fm_iloadn (pc := 117) (n := 3) 3 rfl rfl (fm_dec dtX2_read 70 rfl) ?_
  refine fm_putI (k := 27) (j := 2) (ci := 2) (pc := 118) fl_X2_18 (by decide) rfl (by decide) rfl rfl (fm_dec dtX2_read 71 rfl) ?_
  refine fm_iconst (pc := 121) (v := 1) (by decide) (fm_dec dtX2_read 72 rfl) ?_
  exact fm_zreturn (pc := 122) rfl rfl (fm_dec dtX2_read 73 rfl) (hq _ (by simp [fmI, upd]))

set_option maxRecDepth 20000 in
theorem x_page {l : Launch} {G : fmG} {M : fmM} {Q : fmR → fmM → Prop} (hst : l.stackTraces = false) (n : Int32) (h1 : M.1 1 1 = 0) (hq : ∀ M', inR n 0 0 → Q (.inl (some (.int 0))) M') (hx : ∀ M', ¬ inR n 0 0 → Q (.inr fmIAE) M') : fmGood Tx l G 4 qX10_page [.ref (G.1 0), .int n] M Q := by
  refine fmGood_of hst (by decide +kernel) (Nat.le_of_ble_eq_true rfl) ?_
  show fmEv Tx l G 4 qX10_page 0 [some (.ref (G.1 0)), some (.int n)] [] M Q
  refine fm_aloadn (pc := 0) (n := 0) 0 rfl rfl (fm_dec dtX10_page 0 rfl) ?_
  refine fm_iloadn (pc := 1) (n := 1) 1 rfl rfl (fm_dec dtX10_page 1 rfl) ?_
  refine fm_bipush (pc := 2) (v := 60) (by decide) (fm_dec dtX10_page 2 rfl) ?_
  refine fm_invV2 (k := 0) (d' := 1) (pc := 4) cv_X10_108 (by decide) rfl (Nat.le_of_ble_eq_true rfl) (by decide) (fm_dec dtX10_page 3 rfl) ?_
  refine c_openText0 hst _ _ (by rw [h1]; decide) (fun hn4 => ?_) (fun _ hx4 => ?_)
  · refine fm_then0 ?_
    refine fm_aloadn (pc := 7) (n := 0) 0 rfl rfl (fm_dec dtX10_page 4 rfl) ?_
    refine fm_getR (k := 0) (j := 4) (ci := 10) (pc := 8) 27 rfl fl_X10_36 (by decide) rfl (by decide) (by decide) (fm_dec dtX10_page 5 rfl) ?_
    refine fm_aloadn (pc := 11) (n := 0) 0 rfl rfl (fm_dec dtX10_page 6 rfl) ?_
    refine fm_getR (k := 0) (j := 0) (ci := 10) (pc := 12) 1 rfl fl_X10_12 (by decide) rfl (by decide) (by decide) (fm_dec dtX10_page 7 rfl) ?_
    refine fm_invV1 (k := 27) (d' := 3) (pc := 15) cv_X10_161 (by decide) rfl (Nat.le_of_ble_eq_true rfl) (by decide) (fm_dec dtX10_page 8 rfl) ?_
    refine c_readPage0 hst (by simp [uOpen, fmI, upd]) (by simp [uOpen, fmI, upd]) (fun M15 d15 => ?_)
    refine fm_then1 ?_
    refine fm_if_ne (pc := 18) 32 (by decide) (fm_dec dtX10_page 9 rfl) (fun _ => ?_) (fun hc18 => by exfalso; exact absurd hc18 (by decide))
    refine fm_aloadn (pc := 32) (n := 0) 0 rfl rfl (fm_dec dtX10_page 16 rfl) ?_
    refine fm_getR (k := 0) (j := 4) (ci := 10) (pc := 33) 27 rfl fl_X10_36 (by decide) rfl (by decide) (by decide) (fm_dec dtX10_page 17 rfl) ?_
    refine fm_getI (k := 27) (j := 0) (ci := 2) (pc := 36) fl_X10_162 (by decide) rfl (by decide) rfl (fm_dec dtX10_page 18 rfl) ?_
    exact fm_ireturn (pc := 39) rfl (fm_dec dtX10_page 19 rfl) (by subst hn4; rw [d15]; exact hq _ ⟨by decide, by decide⟩)
  · refine fm_thenX ?_
    exact hx _ hx4

set_option maxRecDepth 20000 in
theorem c_readSteps0 {l : Launch} {G : fmG} {M : fmM} {Q : fmR → fmM → Prop} (hst : l.stackTraces = false) (v : Int32) (h2 : M.1 1 2 = 0) (h3 : M.1 1 3 = 0) (hq : Q (.inl (some (.int 1))) M) : fmGood Tx l G 7 qX9_readSteps [.ref (G.1 28), .ref (G.1 1), .int v, .int 0] M Q := by
  refine fmGood_of hst (by decide +kernel) (Nat.le_of_ble_eq_true rfl) ?_
  show fmEv Tx l G 7 qX9_readSteps 0 [some (.ref (G.1 28)), some (.ref (G.1 1)), some (.int v), some (.int 0), none, none] [] M Q
  refine fm_iloadn (pc := 0) (n := 3) 3 rfl rfl (fm_dec dtX9_readSteps 0 rfl) ?_
  refine fm_if_ne (pc := 1) 8 (by decide) (fm_dec dtX9_readSteps 1 rfl) (fun hc1 => by exfalso; exact absurd rfl hc1) (fun _ => ?_)
  refine fm_iconst (pc := 4) (v := (-1)) (by decide) (fm_dec dtX9_readSteps 2 rfl) ?_
  refine fm_goto (pc := 5) 10 (by decide) (fm_dec dtX9_readSteps 3 rfl) ?_
  refine fm_istore (pc := 10) (i := 4) (by decide) rfl (fm_dec dtX9_readSteps 5 rfl) ?_
  dsimp only [List.set_cons_zero, List.set_cons_succ]
  refine fm_iconst (pc := 12) (v := 0) (by decide) (fm_dec dtX9_readSteps 6 rfl) ?_
  refine fm_istore (pc := 13) (i := 5) (by decide) rfl (fm_dec dtX9_readSteps 7 rfl) ?_
  dsimp only [List.set_cons_zero, List.set_cons_succ]
  refine fm_iload (pc := 15) (i := 5) rfl (fm_dec dtX9_readSteps 8 rfl) ?_
  refine fm_sipush (pc := 17) (v := 150) (by decide) (fm_dec dtX9_readSteps 9 rfl) ?_
  refine fm_icmp_ge (pc := 20) 61 (by decide) (fm_dec dtX9_readSteps 10 rfl) (fun hc20 => by exfalso; exact absurd hc20 (by decide)) (fun _ => ?_)
  refine fm_aloadn (pc := 23) (n := 1) 1 rfl rfl (fm_dec dtX9_readSteps 11 rfl) ?_
  refine fm_invV0 (k := 1) (d' := 0) (pc := 24) cv_X9_38 (by decide) rfl (Nat.le_of_ble_eq_true rfl) (by decide) (fm_dec dtX9_readSteps 12 rfl) ?_
  refine c_peek0 hst h2 h3 ?_
  refine fm_then1 ?_
  refine fm_iload (pc := 27) (i := 4) rfl (fm_dec dtX9_readSteps 13 rfl) ?_
  refine fm_icmp_ne (pc := 29) 34 (by decide) (fm_dec dtX9_readSteps 14 rfl) (fun hc29 => by exfalso; exact absurd rfl hc29) (fun _ => ?_)
  refine fm_iconst (pc := 32) (v := 1) (by decide) (fm_dec dtX9_readSteps 15 rfl) ?_
  exact fm_zreturn (pc := 33) rfl rfl (fm_dec dtX9_readSteps 16 rfl) hq

set_option maxRecDepth 20000 in
theorem c_readWork0 {l : Launch} {G : fmG} {M : fmM} {Q : fmR → fmM → Prop} (hst : l.stackTraces = false) (v : Int32) (h2 : M.1 1 2 = 0) (h3 : M.1 1 3 = 0) (hq : Q (.inl (some (.int 1))) (fmI (fmI (fmI (fmI M 28 3 0) 28 4 0) 28 5 0) 28 6 0)) : fmGood Tx l G 8 qX9_read [.ref (G.1 28), .ref (G.1 1), .int v] M Q := by
  refine fmGood_of hst (by decide +kernel) (Nat.le_of_ble_eq_true rfl) ?_
  show fmEv Tx l G 8 qX9_read 0 [some (.ref (G.1 28)), some (.ref (G.1 1)), some (.int v)] [] M Q
  refine fm_aloadn (pc := 0) (n := 0) 0 rfl rfl (fm_dec dtX9_read 0 rfl) ?_
  refine fm_iconst (pc := 1) (v := 0) (by decide) (fm_dec dtX9_read 1 rfl) ?_
  refine fm_putI (k := 28) (j := 3) (ci := 9) (pc := 2) fl_X9_21 (by decide) rfl (by decide) rfl rfl (fm_dec dtX9_read 2 rfl) ?_
  refine fm_aloadn (pc := 5) (n := 0) 0 rfl rfl (fm_dec dtX9_read 3 rfl) ?_
  refine fm_iconst (pc := 6) (v := 0) (by decide) (fm_dec dtX9_read 4 rfl) ?_
  refine fm_putI (k := 28) (j := 4) (ci := 9) (pc := 7) fl_X9_25 (by decide) rfl (by decide) rfl rfl (fm_dec dtX9_read 5 rfl) ?_
  refine fm_aloadn (pc := 10) (n := 0) 0 rfl rfl (fm_dec dtX9_read 6 rfl) ?_
  refine fm_iconst (pc := 11) (v := 0) (by decide) (fm_dec dtX9_read 7 rfl) ?_
  refine fm_putI (k := 28) (j := 5) (ci := 9) (pc := 12) fl_X9_28 (by decide) rfl (by decide) rfl rfl (fm_dec dtX9_read 8 rfl) ?_
  refine fm_aloadn (pc := 15) (n := 0) 0 rfl rfl (fm_dec dtX9_read 9 rfl) ?_
  refine fm_iconst (pc := 16) (v := 0) (by decide) (fm_dec dtX9_read 10 rfl) ?_
  refine fm_putI (k := 28) (j := 6) (ci := 9) (pc := 17) fl_X9_31 (by decide) rfl (by decide) rfl rfl (fm_dec dtX9_read 11 rfl) ?_
  refine fm_aloadn (pc := 20) (n := 0) 0 rfl rfl (fm_dec dtX9_read 12 rfl) ?_
  refine fm_aloadn (pc := 21) (n := 1) 1 rfl rfl (fm_dec dtX9_read 13 rfl) ?_
  refine fm_iloadn (pc := 22) (n := 2) 2 rfl rfl (fm_dec dtX9_read 14 rfl) ?_
  refine fm_iconst (pc := 23) (v := 0) (by decide) (fm_dec dtX9_read 15 rfl) ?_
  refine fm_invV3 (k := 28) (d' := 7) (pc := 24) cv_X9_34 (by decide) rfl (Nat.le_of_ble_eq_true rfl) (by decide) (fm_dec dtX9_read 16 rfl) ?_
  refine c_readSteps0 hst _ (by simp [fmI, h2]) (by simp [fmI, h3]) ?_
  refine fm_then1 ?_
  exact fm_zreturn (pc := 27) rfl rfl (fm_dec dtX9_read 17 rfl) hq

set_option maxRecDepth 20000 in
theorem c_keep0 {l : Launch} {G : fmG} {M : fmM} {Q : fmR → fmM → Prop} (hst : l.stackTraces = false)  (h2 : M.1 46 2 = 0) (hq : ∀ M', M'.1 28 = M.1 28 → Q (.inl none) M') : fmGood Tx l G 1 qX5_keep [.ref (G.1 46)] M Q := by
  refine fmGood_of hst (by decide +kernel) (Nat.le_of_ble_eq_true rfl) ?_
  show fmEv Tx l G 1 qX5_keep 0 [some (.ref (G.1 46))] [] M Q
  refine fm_aloadn (pc := 0) (n := 0) 0 rfl rfl (fm_dec dtX5_keep 0 rfl) ?_
  refine fm_getI (k := 46) (j := 2) (ci := 5) (pc := 1) fl_X5_22 (by decide) rfl (by decide) rfl (fm_dec dtX5_keep 1 rfl) ?_
  refine fm_if_lt (pc := 4) 42 (by decide) (fm_dec dtX5_keep 2 rfl) (fun hc4 => by exfalso; rw [h2] at hc4; exact absurd hc4 (by decide)) (fun _ => ?_)
  refine fm_aloadn (pc := 7) (n := 0) 0 rfl rfl (fm_dec dtX5_keep 3 rfl) ?_
  refine fm_getI (k := 46) (j := 2) (ci := 5) (pc := 8) fl_X5_22 (by decide) rfl (by decide) rfl (fm_dec dtX5_keep 4 rfl) ?_
  refine fm_bipush (pc := 11) (v := 16) (by decide) (fm_dec dtX5_keep 5 rfl) ?_
  refine fm_icmp_ge (pc := 13) 42 (by decide) (fm_dec dtX5_keep 6 rfl) (fun hc13 => by exfalso; rw [h2] at hc13; exact absurd hc13 (by decide)) (fun _ => ?_)
  refine fm_aloadn (pc := 16) (n := 0) 0 rfl rfl (fm_dec dtX5_keep 7 rfl) ?_
  refine fm_getR (k := 46) (j := 1) (ci := 5) (pc := 17) 49 rfl fl_X5_18 (by decide) rfl (by decide) (by decide) (fm_dec dtX5_keep 8 rfl) ?_
  refine fm_aloadn (pc := 20) (n := 0) 0 rfl rfl (fm_dec dtX5_keep 9 rfl) ?_
  refine fm_getI (k := 46) (j := 2) (ci := 5) (pc := 21) fl_X5_22 (by decide) rfl (by decide) rfl (fm_dec dtX5_keep 10 rfl) ?_
  refine fm_aald (k := 49) (n := 16) (kd := 4) (r := 50) (pc := 24) (by decide) rfl (Or.inr (Or.inl ⟨rfl, rfl⟩)) rfl (by rw [h2]; exact fm_inl (by decide)) (by rw [h2]; rfl) (fm_dec dtX5_keep 11 rfl) ?_
  refine fm_aloadn (pc := 25) (n := 0) 0 rfl rfl (fm_dec dtX5_keep 12 rfl) ?_
  refine fm_getR (k := 46) (j := 0) (ci := 5) (pc := 26) 47 rfl fl_X5_12 (by decide) rfl (by decide) (by decide) (fm_dec dtX5_keep 13 rfl) ?_
  refine fm_invV1 (k := 50) (d' := 0) (pc := 29) cv_X5_26 (by decide) rfl (Nat.le_of_ble_eq_true rfl) (by decide) (fm_dec dtX5_keep 14 rfl) ?_
  refine c_cps_50_47 hst (fun M29 hf29 hg29 e129 e229 e329 e429 e529 e629 => ?_)
  refine fm_then0 ?_
  refine fm_aloadn (pc := 32) (n := 0) 0 rfl rfl (fm_dec dtX5_keep 15 rfl) ?_
  refine fm_dup (pc := 33) rfl (fm_dec dtX5_keep 16 rfl) ?_
  refine fm_getI (k := 46) (j := 2) (ci := 5) (pc := 34) fl_X5_22 (by decide) rfl (by decide) rfl (fm_dec dtX5_keep 17 rfl) ?_
  refine fm_iconst (pc := 37) (v := 1) (by decide) (fm_dec dtX5_keep 18 rfl) ?_
  refine fm_iadd (pc := 38) (fm_dec dtX5_keep 19 rfl) ?_
  refine fm_putI (k := 46) (j := 2) (ci := 5) (pc := 39) fl_X5_22 (by decide) rfl (by decide) rfl rfl (fm_dec dtX5_keep 20 rfl) ?_
  exact fm_return (pc := 42) rfl (fm_dec dtX5_keep 21 rfl) (hq _ (by simp [fmI, hf29]))

set_option maxRecDepth 20000 in
theorem c_perform0 {l : Launch} {G : fmG} {M : fmM} {Q : fmR → fmM → Prop} (hst : l.stackTraces = false) (t : Int32) (ht : t = 0) (hq : Q (.inl none) M) : fmGood Tx l G 6 qX9_perform [.ref (G.1 28), .ref (G.1 32), .ref (G.1 47), .int 0, .int t, .int 0] M Q := by
  refine fmGood_of hst (by decide +kernel) (Nat.le_of_ble_eq_true rfl) ?_
  show fmEv Tx l G 6 qX9_perform 0 [some (.ref (G.1 28)), some (.ref (G.1 32)), some (.ref (G.1 47)), some (.int 0), some (.int t), some (.int 0), none, none] [] M Q
  refine fm_iloadn (pc := 0) (n := 3) 3 rfl rfl (fm_dec dtX9_perform 0 rfl) ?_
  refine fm_istore (pc := 1) (i := 6) (by decide) rfl (fm_dec dtX9_perform 1 rfl) ?_
  dsimp only [List.set_cons_zero, List.set_cons_succ]
  refine fm_iload (pc := 3) (i := 6) rfl (fm_dec dtX9_perform 2 rfl) ?_
  refine fm_iload (pc := 5) (i := 4) rfl (fm_dec dtX9_perform 3 rfl) ?_
  refine fm_icmp_ge (pc := 7) 178 (by decide) (fm_dec dtX9_perform 4 rfl) (fun _ => ?_) (fun hc7 => by exfalso; rw [ht] at hc7; exact hc7 (by decide))
  exact fm_return (pc := 178) rfl (fm_dec dtX9_perform 92 rfl) hq

set_option maxRecDepth 20000 in
theorem x_work {l : Launch} {G : fmG} {M : fmM} {Q : fmR → fmM → Prop} (hst : l.stackTraces = false) (n : Int32) (h1 : M.1 1 1 = 0) (hw : M.1 46 2 = 0) (hq : ∀ M', inR n 0 0 → Q (.inl (some (.int 0))) M') (hx : ∀ M', ¬ inR n 0 0 → Q (.inr fmIAE) M') : fmGood Tx l G 9 qX10_work [.ref (G.1 0), .int n] M Q := by
  refine fmGood_of hst (by decide +kernel) (Nat.le_of_ble_eq_true rfl) ?_
  show fmEv Tx l G 9 qX10_work 0 [some (.ref (G.1 0)), some (.int n)] [] M Q
  refine fm_aloadn (pc := 0) (n := 0) 0 rfl rfl (fm_dec dtX10_work 0 rfl) ?_
  refine fm_iloadn (pc := 1) (n := 1) 1 rfl rfl (fm_dec dtX10_work 1 rfl) ?_
  refine fm_sipush (pc := 2) (v := 150) (by decide) (fm_dec dtX10_work 2 rfl) ?_
  refine fm_invV2 (k := 0) (d' := 1) (pc := 5) cv_X10_108 (by decide) rfl (Nat.le_of_ble_eq_true rfl) (by decide) (fm_dec dtX10_work 3 rfl) ?_
  refine c_openText0 hst _ _ (by rw [h1]; decide) (fun hn5 => ?_) (fun _ hx5 => ?_)
  · refine fm_then0 ?_
    refine fm_aloadn (pc := 8) (n := 0) 0 rfl rfl (fm_dec dtX10_work 4 rfl) ?_
    refine fm_getR (k := 0) (j := 9) (ci := 10) (pc := 9) 46 rfl fl_X10_75 (by decide) rfl (by decide) (by decide) (fm_dec dtX10_work 5 rfl) ?_
    refine fm_getI (k := 46) (j := 2) (ci := 5) (pc := 12) fl_X10_126 (by decide) rfl (by decide) rfl (fm_dec dtX10_work 6 rfl) ?_
    refine fm_bipush (pc := 15) (v := 16) (by decide) (fm_dec dtX10_work 7 rfl) ?_
    refine fm_icmp_lt (pc := 17) 23 (by decide) (fm_dec dtX10_work 8 rfl) (fun _ => ?_) (fun hc17 => by exfalso; exact hc17 (by simp [uOpen, fmI, hw]))
    refine fm_aloadn (pc := 23) (n := 0) 0 rfl rfl (fm_dec dtX10_work 11 rfl) ?_
    refine fm_getR (k := 0) (j := 5) (ci := 10) (pc := 24) 28 rfl fl_X10_43 (by decide) rfl (by decide) (by decide) (fm_dec dtX10_work 12 rfl) ?_
    refine fm_aloadn (pc := 27) (n := 0) 0 rfl rfl (fm_dec dtX10_work 13 rfl) ?_
    refine fm_getR (k := 0) (j := 0) (ci := 10) (pc := 28) 1 rfl fl_X10_12 (by decide) rfl (by decide) (by decide) (fm_dec dtX10_work 14 rfl) ?_
    refine fm_aloadn (pc := 31) (n := 0) 0 rfl rfl (fm_dec dtX10_work 15 rfl) ?_
    refine fm_getR (k := 0) (j := 1) (ci := 10) (pc := 32) 3 rfl fl_X10_19 (by decide) rfl (by decide) (by decide) (fm_dec dtX10_work 16 rfl) ?_
    refine fm_getI (k := 3) (j := 9) (ci := 8) (pc := 35) fl_X10_138 (by decide) rfl (by decide) rfl (fm_dec dtX10_work 17 rfl) ?_
    refine fm_invV2 (k := 28) (d' := 8) (pc := 38) cv_X10_142 (by decide) rfl (Nat.le_of_ble_eq_true rfl) (by decide) (fm_dec dtX10_work 18 rfl) ?_
    refine c_readWork0 hst _ (by simp [uOpen, fmI, upd]) (by simp [uOpen, fmI, upd]) ?_
    refine fm_then1 ?_
    refine fm_if_ne (pc := 41) 55 (by decide) (fm_dec dtX10_work 19 rfl) (fun _ => ?_) (fun hc41 => by exfalso; exact absurd hc41 (by decide))
    refine fm_aloadn (pc := 55) (n := 0) 0 rfl rfl (fm_dec dtX10_work 26 rfl) ?_
    refine fm_getR (k := 0) (j := 9) (ci := 10) (pc := 56) 46 rfl fl_X10_75 (by decide) rfl (by decide) (by decide) (fm_dec dtX10_work 27 rfl) ?_
    refine fm_invV0 (k := 46) (d' := 1) (pc := 59) cv_X10_145 (by decide) rfl (Nat.le_of_ble_eq_true rfl) (by decide) (fm_dec dtX10_work 28 rfl) ?_
    refine c_keep0 hst (by simp [uOpen, fmI, hw]) (fun M59 d59 => ?_)
    refine fm_then0 ?_
    refine fm_aloadn (pc := 62) (n := 0) 0 rfl rfl (fm_dec dtX10_work 29 rfl) ?_
    refine fm_getR (k := 0) (j := 5) (ci := 10) (pc := 63) 28 rfl fl_X10_43 (by decide) rfl (by decide) (by decide) (fm_dec dtX10_work 30 rfl) ?_
    refine fm_aloadn (pc := 66) (n := 0) 0 rfl rfl (fm_dec dtX10_work 31 rfl) ?_
    refine fm_getR (k := 0) (j := 6) (ci := 10) (pc := 67) 32 rfl fl_X10_52 (by decide) rfl (by decide) (by decide) (fm_dec dtX10_work 32 rfl) ?_
    refine fm_aloadn (pc := 70) (n := 0) 0 rfl rfl (fm_dec dtX10_work 33 rfl) ?_
    refine fm_getR (k := 0) (j := 9) (ci := 10) (pc := 71) 46 rfl fl_X10_75 (by decide) rfl (by decide) (by decide) (fm_dec dtX10_work 34 rfl) ?_
    refine fm_getR (k := 46) (j := 0) (ci := 5) (pc := 74) 47 rfl fl_X10_90 (by decide) rfl (by decide) (by decide) (fm_dec dtX10_work 35 rfl) ?_
    refine fm_iconst (pc := 77) (v := 0) (by decide) (fm_dec dtX10_work 36 rfl) ?_
    refine fm_aloadn (pc := 78) (n := 0) 0 rfl rfl (fm_dec dtX10_work 37 rfl) ?_
    refine fm_getR (k := 0) (j := 5) (ci := 10) (pc := 79) 28 rfl fl_X10_43 (by decide) rfl (by decide) (by decide) (fm_dec dtX10_work 38 rfl) ?_
    refine fm_getI (k := 28) (j := 3) (ci := 9) (pc := 82) fl_X10_148 (by decide) rfl (by decide) rfl (fm_dec dtX10_work 39 rfl) ?_
    refine fm_iconst (pc := 85) (v := 0) (by decide) (fm_dec dtX10_work 40 rfl) ?_
    refine fm_invV5 (k := 28) (d' := 6) (pc := 86) cv_X10_151 (by decide) rfl (Nat.le_of_ble_eq_true rfl) (by decide) (fm_dec dtX10_work 41 rfl) ?_
    refine c_perform0 hst _ (by rw [d59]; simp [fmI, upd]) ?_
    refine fm_then0 ?_
    refine fm_aloadn (pc := 89) (n := 0) 0 rfl rfl (fm_dec dtX10_work 42 rfl) ?_
    refine fm_aloadn (pc := 90) (n := 0) 0 rfl rfl (fm_dec dtX10_work 43 rfl) ?_
    refine fm_getR (k := 0) (j := 5) (ci := 10) (pc := 91) 28 rfl fl_X10_43 (by decide) rfl (by decide) (by decide) (fm_dec dtX10_work 44 rfl) ?_
    refine fm_getI (k := 28) (j := 6) (ci := 9) (pc := 94) fl_X10_155 (by decide) rfl (by decide) rfl (fm_dec dtX10_work 45 rfl) ?_
    refine fm_putI (k := 0) (j := 14) (ci := 10) (pc := 97) fl_X10_132 (by decide) rfl (by decide) rfl rfl (fm_dec dtX10_work 46 rfl) ?_
    refine fm_aloadn (pc := 100) (n := 0) 0 rfl rfl (fm_dec dtX10_work 47 rfl) ?_
    refine fm_getR (k := 0) (j := 7) (ci := 10) (pc := 101) 34 rfl fl_X10_61 (by decide) rfl (by decide) (by decide) (fm_dec dtX10_work 48 rfl) ?_
    refine fm_invV0 (k := 34) (d' := 0) (pc := 104) cv_X10_135 (by decide) rfl (Nat.le_of_ble_eq_true rfl) (by decide) (fm_dec dtX10_work 49 rfl) ?_
    refine c_forget hst ?_
    refine fm_then0 ?_
    refine fm_aloadn (pc := 107) (n := 0) 0 rfl rfl (fm_dec dtX10_work 50 rfl) ?_
    refine fm_getR (k := 0) (j := 5) (ci := 10) (pc := 108) 28 rfl fl_X10_43 (by decide) rfl (by decide) (by decide) (fm_dec dtX10_work 51 rfl) ?_
    refine fm_getI (k := 28) (j := 5) (ci := 9) (pc := 111) fl_X10_158 (by decide) rfl (by decide) rfl (fm_dec dtX10_work 52 rfl) ?_
    exact fm_ireturn (pc := 114) rfl (fm_dec dtX10_work 53 rfl) (by subst hn5; have hq := hq (fmI (fmI M59 0 14 (M59.1 28 6)) 34 5 0) ⟨by decide, by decide⟩; simpa [fmI, upd, d59] using hq)
  · refine fm_thenX ?_
    exact hx _ hx5
