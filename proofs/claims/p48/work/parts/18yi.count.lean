def cntV (a b c w : Int32) : Int32 := if w = 0 then a else if w = 1 then b else if w = 2 then c else -1
set_option maxRecDepth 20000 in
theorem c_xcnt0 {M : fmM} {Q : fmR → fmM → Prop}  (hq : Q (.inl (some (.int (cntV (M.1 0 13) (M.1 1 1) (M.1 46 2) 0)))) M) : pvGood Tx 0 qX10_count [.ref 0, .int 0] M Q := by
  refine pvGood_of (Nat.le_of_ble_eq_true rfl) ?_
  show pvEv Tx 0 qX10_count 0 [some (.ref 0), some (.int 0)] [] M Q
  refine pv_iloadn (pc := 0) (n := 1) 1 rfl rfl (fm_dec dtX10_count 0 rfl) ?_
  refine pv_table (pc := 1) 28 (by decide) rfl (fm_dec dtX10_count 1 rfl) ?_
  refine pv_aloadn (pc := 28) (n := 0) 0 rfl rfl (fm_dec dtX10_count 2 rfl) ?_
  refine pv_getI (k := 0) (j := 13) (ci := 10) (pc := 29) pfl_X10_129 (by decide) rfl (by decide) (fm_dec dtX10_count 3 rfl) ?_
  exact pv_ireturn (pc := 32) rfl (fm_dec dtX10_count 4 rfl) hq
set_option maxRecDepth 20000 in
theorem c_xcnt1 {M : fmM} {Q : fmR → fmM → Prop}  (hq : Q (.inl (some (.int (cntV (M.1 0 13) (M.1 1 1) (M.1 46 2) 1)))) M) : pvGood Tx 0 qX10_count [.ref 0, .int 1] M Q := by
  refine pvGood_of (Nat.le_of_ble_eq_true rfl) ?_
  show pvEv Tx 0 qX10_count 0 [some (.ref 0), some (.int 1)] [] M Q
  refine pv_iloadn (pc := 0) (n := 1) 1 rfl rfl (fm_dec dtX10_count 0 rfl) ?_
  refine pv_table (pc := 1) 33 (by decide) rfl (fm_dec dtX10_count 1 rfl) ?_
  refine pv_aloadn (pc := 33) (n := 0) 0 rfl rfl (fm_dec dtX10_count 5 rfl) ?_
  refine pv_getR (k := 0) (j := 0) (ci := 10) (pc := 34) 1 rfl (by decide) pfl_X10_12 (by decide) rfl (by decide) (fm_dec dtX10_count 6 rfl) ?_
  refine pv_getI (k := 1) (j := 1) (ci := 7) (pc := 37) pfl_X10_100 (by decide) rfl (by decide) (fm_dec dtX10_count 7 rfl) ?_
  exact pv_ireturn (pc := 40) rfl (fm_dec dtX10_count 8 rfl) hq
set_option maxRecDepth 20000 in
theorem c_xcnt2 {M : fmM} {Q : fmR → fmM → Prop}  (hq : Q (.inl (some (.int (cntV (M.1 0 13) (M.1 1 1) (M.1 46 2) 2)))) M) : pvGood Tx 0 qX10_count [.ref 0, .int 2] M Q := by
  refine pvGood_of (Nat.le_of_ble_eq_true rfl) ?_
  show pvEv Tx 0 qX10_count 0 [some (.ref 0), some (.int 2)] [] M Q
  refine pv_iloadn (pc := 0) (n := 1) 1 rfl rfl (fm_dec dtX10_count 0 rfl) ?_
  refine pv_table (pc := 1) 41 (by decide) rfl (fm_dec dtX10_count 1 rfl) ?_
  refine pv_aloadn (pc := 41) (n := 0) 0 rfl rfl (fm_dec dtX10_count 9 rfl) ?_
  refine pv_getR (k := 0) (j := 9) (ci := 10) (pc := 42) 46 rfl (by decide) pfl_X10_75 (by decide) rfl (by decide) (fm_dec dtX10_count 10 rfl) ?_
  refine pv_getI (k := 46) (j := 2) (ci := 5) (pc := 45) pfl_X10_126 (by decide) rfl (by decide) (fm_dec dtX10_count 11 rfl) ?_
  exact pv_ireturn (pc := 48) rfl (fm_dec dtX10_count 12 rfl) hq
theorem tsw_c {x : Int32} (h : ¬ (0 ≤ x.toInt ∧ x.toInt ≤ 2)) : fmTsw 1 48 0 2 #[27, 32, 40] x = (49 : Int) := by
  unfold fmTsw
  rw [if_pos (by omega)]
  rfl
set_option maxRecDepth 20000 in
theorem c_xcnt9 {M : fmM} {Q : fmR → fmM → Prop} {w : Int32} (h : ¬ (0 ≤ w.toInt ∧ w.toInt ≤ 2)) (hq : Q (.inl (some (.int (-1)))) M) : pvGood Tx 0 qX10_count [.ref 0, .int w] M Q := by
  refine pvGood_of (Nat.le_of_ble_eq_true rfl) ?_
  show pvEv Tx 0 qX10_count 0 [some (.ref 0), some (.int w)] [] M Q
  refine pv_iloadn (pc := 0) (n := 1) 1 rfl rfl (fm_dec dtX10_count 0 rfl) ?_
  refine pv_table (pc := 1) 49 (by decide) (tsw_c h) (fm_dec dtX10_count 1 rfl) ?_
  refine pv_iconst (pc := 49) (v := (-1)) (by decide) (fm_dec dtX10_count 13 rfl) ?_
  exact pv_ireturn (pc := 50) rfl (fm_dec dtX10_count 14 rfl) hq
theorem xe_count {M : fmM} {a0 : Int32} : pvGood Tx 250 qX10_count [.ref 0, .int a0] M (fun r _ => r = .inl (some (.int (cntV (M.1 0 13) (M.1 1 1) (M.1 46 2) a0)))) := by
  refine pvGood.up (d := 0) ?_ (by decide)
  by_cases e0 : a0 = 0
  · subst e0
    exact c_xcnt0 rfl
  · by_cases e1 : a0 = 1
    · subst e1
      exact c_xcnt1 rfl
    · by_cases e2 : a0 = 2
      · subst e2
        exact c_xcnt2 rfl
      · refine c_xcnt9 (fun h => ?_) ?_
        · rcases (show a0.toInt = 0 ∨ a0.toInt = 1 ∨ a0.toInt = 2 by omega) with h | h | h
          · exact e0 (i32_ext (h.trans (by decide)))
          · exact e1 (i32_ext (h.trans (by decide)))
          · exact e2 (i32_ext (h.trans (by decide)))
        · show _ = Sum.inl (some (Value.int (if a0 = 0 then _ else if a0 = 1 then _ else if a0 = 2 then _ else -1)))
          rw [if_neg e0, if_neg e1, if_neg e2]
set_option maxRecDepth 20000 in
theorem c_mcnt {M : fmM} {Q : fmR → fmM → Prop} {w : Int32} (hq : Q (.inl (some (.int (cntV (M.1 0 34) (M.1 0 1) (M.1 0 32) w)))) (fmI M 0 0 0)) : pvGood Tm 0 qX11_count [.ref 0, .int w] M Q := by
  refine pvGood_of (Nat.le_of_ble_eq_true rfl) ?_
  show pvEv Tm 0 qX11_count 0 [some (.ref 0), some (.int w)] [] M Q
  refine pv_aloadn (pc := 0) (n := 0) 0 rfl rfl (fm_dec dtX11_count 0 rfl) ?_
  refine pv_iconst (pc := 1) (v := 0) (by decide) (fm_dec dtX11_count 1 rfl) ?_
  refine pv_putI (k := 0) (j := 0) (ci := 11) (pc := 2) pfl_X11_101 (by decide) rfl (by decide) (fm_dec dtX11_count 2 rfl) ?_
  refine pv_iloadn (pc := 5) (n := 1) 1 rfl rfl (fm_dec dtX11_count 3 rfl) ?_
  refine pv_if_ne (pc := 6) 16 (by decide) (fm_dec dtX11_count 4 rfl) (fun hc6 => ?_) (fun hc6 => ?_)
  · refine pv_iloadn (pc := 16) (n := 1) 1 rfl rfl (fm_dec dtX11_count 8 rfl) ?_
    refine pv_iconst (pc := 17) (v := 1) (by decide) (fm_dec dtX11_count 9 rfl) ?_
    refine pv_icmp_ne (pc := 18) 28 (by decide) (fm_dec dtX11_count 10 rfl) (fun hc18 => ?_) (fun hc18 => ?_)
    · refine pv_iloadn (pc := 28) (n := 1) 1 rfl rfl (fm_dec dtX11_count 14 rfl) ?_
      refine pv_iconst (pc := 29) (v := 2) (by decide) (fm_dec dtX11_count 15 rfl) ?_
      refine pv_icmp_ne (pc := 30) 40 (by decide) (fm_dec dtX11_count 16 rfl) (fun hc30 => ?_) (fun hc30 => ?_)
      · refine pv_iconst (pc := 40) (v := (-1)) (by decide) (fm_dec dtX11_count 20 rfl) ?_
        exact pv_ireturn (pc := 41) rfl (fm_dec dtX11_count 21 rfl) (by unfold cntV at hq; first | (rw [if_neg hc6, if_neg hc18, if_neg hc30] at hq; exact hq) | (rw [if_neg hc6, if_neg hc18, if_pos hc30] at hq; exact hq) | (rw [if_neg hc6, if_pos hc18] at hq; exact hq) | (rw [if_pos hc6] at hq; exact hq))
      · refine pv_aloadn (pc := 33) (n := 0) 0 rfl rfl (fm_dec dtX11_count 17 rfl) ?_
        refine pv_getI (k := 0) (j := 32) (ci := 11) (pc := 34) pfl_X11_200 (by decide) rfl (by decide) (fm_dec dtX11_count 18 rfl) ?_
        refine pv_goto (pc := 37) 41 (by decide) (fm_dec dtX11_count 19 rfl) ?_
        exact pv_ireturn (pc := 41) rfl (fm_dec dtX11_count 21 rfl) (by unfold cntV at hq; first | (rw [if_neg hc6, if_neg hc18, if_neg hc30] at hq; exact hq) | (rw [if_neg hc6, if_neg hc18, if_pos hc30] at hq; exact hq) | (rw [if_neg hc6, if_pos hc18] at hq; exact hq) | (rw [if_pos hc6] at hq; exact hq))
    · refine pv_aloadn (pc := 21) (n := 0) 0 rfl rfl (fm_dec dtX11_count 11 rfl) ?_
      refine pv_getI (k := 0) (j := 1) (ci := 11) (pc := 22) pfl_X11_104 (by decide) rfl (by decide) (fm_dec dtX11_count 12 rfl) ?_
      refine pv_goto (pc := 25) 41 (by decide) (fm_dec dtX11_count 13 rfl) ?_
      exact pv_ireturn (pc := 41) rfl (fm_dec dtX11_count 21 rfl) (by unfold cntV at hq; first | (rw [if_neg hc6, if_neg hc18, if_neg hc30] at hq; exact hq) | (rw [if_neg hc6, if_neg hc18, if_pos hc30] at hq; exact hq) | (rw [if_neg hc6, if_pos hc18] at hq; exact hq) | (rw [if_pos hc6] at hq; exact hq))
  · refine pv_aloadn (pc := 9) (n := 0) 0 rfl rfl (fm_dec dtX11_count 5 rfl) ?_
    refine pv_getI (k := 0) (j := 34) (ci := 11) (pc := 10) pfl_X11_206 (by decide) rfl (by decide) (fm_dec dtX11_count 6 rfl) ?_
    refine pv_goto (pc := 13) 41 (by decide) (fm_dec dtX11_count 7 rfl) ?_
    exact pv_ireturn (pc := 41) rfl (fm_dec dtX11_count 21 rfl) (by unfold cntV at hq; first | (rw [if_neg hc6, if_neg hc18, if_neg hc30] at hq; exact hq) | (rw [if_neg hc6, if_neg hc18, if_pos hc30] at hq; exact hq) | (rw [if_neg hc6, if_pos hc18] at hq; exact hq) | (rw [if_pos hc6] at hq; exact hq))
theorem me_count {M : fmM} {a0 : Int32} : pvGood Tm 250 qX11_count [.ref 0, .int a0] M (fun r _ => r = .inl (some (.int (cntV (M.1 0 34) (M.1 0 1) (M.1 0 32) a0)))) := pvGood.up (d := 0) (c_mcnt rfl) (by decide)
