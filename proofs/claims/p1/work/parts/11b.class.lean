set_option maxRecDepth 20000 in
theorem c_riskWhen0 {l : Launch} {G : fmG} {M : fmM} {Q : fmR → fmM → Prop} (hst : l.stackTraces = false) (later : Int32) (hl : M.1 3 9 = 0) (hq : Q (.inl (some (.long 0))) M) : fmGood Tx l G 4 qX0_riskWhen [.ref (G.1 32), .ref (G.1 47), .int later] M Q := by
  refine fmGood_of hst (by decide +kernel) (Nat.le_of_ble_eq_true rfl) ?_
  show fmEv Tx l G 4 qX0_riskWhen 0 [some (.ref (G.1 32)), some (.ref (G.1 47)), some (.int later), none, none, none, none, none] [] M Q
  refine fm_lconst (pc := 0) (v := 0) (by decide) (fm_dec dtX0_riskWhen 0 rfl) ?_
  refine fm_lstoren (pc := 1) (n := 3) 3 rfl (by decide) rfl (fm_dec dtX0_riskWhen 1 rfl) ?_
  dsimp only [List.set_cons_zero, List.set_cons_succ]
  refine fm_iconst (pc := 2) (v := 0) (by decide) (fm_dec dtX0_riskWhen 2 rfl) ?_
  refine fm_istore (pc := 3) (i := 5) (by decide) rfl (fm_dec dtX0_riskWhen 3 rfl) ?_
  dsimp only [List.set_cons_zero, List.set_cons_succ]
  refine fm_iload (pc := 5) (i := 5) rfl (fm_dec dtX0_riskWhen 4 rfl) ?_
  refine fm_aloadn (pc := 7) (n := 0) 0 rfl rfl (fm_dec dtX0_riskWhen 5 rfl) ?_
  refine fm_getR (k := 32) (j := 0) (ci := 0) (pc := 8) 3 rfl fl_X0_15 (by decide) rfl (by decide) (by decide) (fm_dec dtX0_riskWhen 6 rfl) ?_
  refine fm_getI (k := 3) (j := 9) (ci := 8) (pc := 11) fl_X0_75 (by decide) rfl (by decide) rfl (fm_dec dtX0_riskWhen 7 rfl) ?_
  refine fm_icmp_ge (pc := 14) 82 (by decide) (fm_dec dtX0_riskWhen 8 rfl) (fun _ => ?_) (fun hc14 => by exfalso; exact hc14 (by simp [hl]))
  refine fm_lloadn (pc := 82) (n := 3) 3 rfl rfl (fm_dec dtX0_riskWhen 45 rfl) ?_
  exact fm_lreturn (pc := 83) rfl (fm_dec dtX0_riskWhen 46 rfl) hq

set_option maxRecDepth 20000 in
theorem c_firstOf0 {l : Launch} {G : fmG} {M : fmM} {Q : fmR → fmM → Prop} (hst : l.stackTraces = false) (h : Int32) (hl : M.1 3 9 = 0) (hq : Q (.inl (some (.int (-1)))) M) : fmGood Tx l G 3 qX0_firstOf [.ref (G.1 32), .ref (G.1 47), .ref (G.1 33), .int h] M Q := by
  refine fmGood_of hst (by decide +kernel) (Nat.le_of_ble_eq_true rfl) ?_
  show fmEv Tx l G 3 qX0_firstOf 0 [some (.ref (G.1 32)), some (.ref (G.1 47)), some (.ref (G.1 33)), some (.int h), none, none, none, none, none, none] [] M Q
  refine fm_iconst (pc := 0) (v := (-1)) (by decide) (fm_dec dtX0_firstOf 0 rfl) ?_
  refine fm_istore (pc := 1) (i := 4) (by decide) rfl (fm_dec dtX0_firstOf 1 rfl) ?_
  dsimp only [List.set_cons_zero, List.set_cons_succ]
  refine fm_lconst (pc := 3) (v := 0) (by decide) (fm_dec dtX0_firstOf 2 rfl) ?_
  refine fm_lstore (pc := 4) (i := 5) (by decide) rfl (fm_dec dtX0_firstOf 3 rfl) ?_
  dsimp only [List.set_cons_zero, List.set_cons_succ]
  refine fm_iconst (pc := 6) (v := 1) (by decide) (fm_dec dtX0_firstOf 4 rfl) ?_
  refine fm_istore (pc := 7) (i := 7) (by decide) rfl (fm_dec dtX0_firstOf 5 rfl) ?_
  dsimp only [List.set_cons_zero, List.set_cons_succ]
  refine fm_iconst (pc := 9) (v := 0) (by decide) (fm_dec dtX0_firstOf 6 rfl) ?_
  refine fm_istore (pc := 10) (i := 8) (by decide) rfl (fm_dec dtX0_firstOf 7 rfl) ?_
  dsimp only [List.set_cons_zero, List.set_cons_succ]
  refine fm_iload (pc := 12) (i := 8) rfl (fm_dec dtX0_firstOf 8 rfl) ?_
  refine fm_aloadn (pc := 14) (n := 0) 0 rfl rfl (fm_dec dtX0_firstOf 9 rfl) ?_
  refine fm_getR (k := 32) (j := 0) (ci := 0) (pc := 15) 3 rfl fl_X0_15 (by decide) rfl (by decide) (by decide) (fm_dec dtX0_firstOf 10 rfl) ?_
  refine fm_getI (k := 3) (j := 9) (ci := 8) (pc := 18) fl_X0_75 (by decide) rfl (by decide) rfl (fm_dec dtX0_firstOf 11 rfl) ?_
  refine fm_icmp_ge (pc := 21) 84 (by decide) (fm_dec dtX0_firstOf 12 rfl) (fun _ => ?_) (fun hc21 => by exfalso; exact hc21 (by simp [hl]))
  refine fm_iload (pc := 84) (i := 4) rfl (fm_dec dtX0_firstOf 47 rfl) ?_
  exact fm_ireturn (pc := 86) rfl (fm_dec dtX0_firstOf 48 rfl) hq

set_option maxRecDepth 20000 in
theorem c_firstOfAll0 {l : Launch} {G : fmG} {M : fmM} {Q : fmR → fmM → Prop} (hst : l.stackTraces = false)  (hl : M.1 3 9 = 0) (hq : Q (.inl (some (.int (-1)))) M) : fmGood Tx l G 5 qX0_firstOfAll [.ref (G.1 32), .ref (G.1 47)] M Q := by
  refine fmGood_of hst (by decide +kernel) (Nat.le_of_ble_eq_true rfl) ?_
  show fmEv Tx l G 5 qX0_firstOfAll 0 [some (.ref (G.1 32)), some (.ref (G.1 47)), none] [] M Q
  refine fm_iconst (pc := 0) (v := 0) (by decide) (fm_dec dtX0_firstOfAll 0 rfl) ?_
  refine fm_istoren (pc := 1) (n := 2) 2 rfl (by decide) rfl (fm_dec dtX0_firstOfAll 1 rfl) ?_
  dsimp only [List.set_cons_zero, List.set_cons_succ]
  refine fm_iloadn (pc := 2) (n := 2) 2 rfl rfl (fm_dec dtX0_firstOfAll 2 rfl) ?_
  refine fm_aloadn (pc := 3) (n := 0) 0 rfl rfl (fm_dec dtX0_firstOfAll 3 rfl) ?_
  refine fm_getR (k := 32) (j := 0) (ci := 0) (pc := 4) 3 rfl fl_X0_15 (by decide) rfl (by decide) (by decide) (fm_dec dtX0_firstOfAll 4 rfl) ?_
  refine fm_getI (k := 3) (j := 9) (ci := 8) (pc := 7) fl_X0_75 (by decide) rfl (by decide) rfl (fm_dec dtX0_firstOfAll 5 rfl) ?_
  refine fm_icmp_ge (pc := 10) 31 (by decide) (fm_dec dtX0_firstOfAll 6 rfl) (fun _ => ?_) (fun hc10 => by exfalso; exact hc10 (by simp [hl]))
  refine fm_aloadn (pc := 31) (n := 0) 0 rfl rfl (fm_dec dtX0_firstOfAll 17 rfl) ?_
  refine fm_aloadn (pc := 32) (n := 1) 1 rfl rfl (fm_dec dtX0_firstOfAll 18 rfl) ?_
  refine fm_aloadn (pc := 33) (n := 0) 0 rfl rfl (fm_dec dtX0_firstOfAll 19 rfl) ?_
  refine fm_getR (k := 32) (j := 2) (ci := 0) (pc := 34) 33 rfl fl_X0_9 (by decide) rfl (by decide) (by decide) (fm_dec dtX0_firstOfAll 20 rfl) ?_
  refine fm_bipush (pc := 37) (v := 12) (by decide) (fm_dec dtX0_firstOfAll 21 rfl) ?_
  refine fm_invV3 (k := 32) (d' := 3) (pc := 39) cv_X0_109 (by decide) rfl (Nat.le_of_ble_eq_true rfl) (by decide) (fm_dec dtX0_firstOfAll 22 rfl) ?_
  refine c_firstOf0 hst _ hl ?_
  refine fm_then1 ?_
  exact fm_ireturn (pc := 42) rfl (fm_dec dtX0_firstOfAll 23 rfl) hq

set_option maxRecDepth 20000 in
theorem x_first {l : Launch} {G : fmG} {M : fmM} {Q : fmR → fmM → Prop} (hst : l.stackTraces = false)  (hl : M.1 3 9 = 0) (hq : Q (.inl (some (.int (-1)))) M) : fmGood Tx l G 6 qX10_first [.ref (G.1 0)] M Q := by
  refine fmGood_of hst (by decide +kernel) (Nat.le_of_ble_eq_true rfl) ?_
  show fmEv Tx l G 6 qX10_first 0 [some (.ref (G.1 0))] [] M Q
  refine fm_aloadn (pc := 0) (n := 0) 0 rfl rfl (fm_dec dtX10_first 0 rfl) ?_
  refine fm_getR (k := 0) (j := 6) (ci := 10) (pc := 1) 32 rfl fl_X10_52 (by decide) rfl (by decide) (by decide) (fm_dec dtX10_first 1 rfl) ?_
  refine fm_aloadn (pc := 4) (n := 0) 0 rfl rfl (fm_dec dtX10_first 2 rfl) ?_
  refine fm_getR (k := 0) (j := 9) (ci := 10) (pc := 5) 46 rfl fl_X10_75 (by decide) rfl (by decide) (by decide) (fm_dec dtX10_first 3 rfl) ?_
  refine fm_getR (k := 46) (j := 0) (ci := 5) (pc := 8) 47 rfl fl_X10_90 (by decide) rfl (by decide) (by decide) (fm_dec dtX10_first 4 rfl) ?_
  refine fm_invV1 (k := 32) (d' := 5) (pc := 11) cv_X10_273 (by decide) rfl (Nat.le_of_ble_eq_true rfl) (by decide) (fm_dec dtX10_first 5 rfl) ?_
  refine c_firstOfAll0 hst hl ?_
  refine fm_then1 ?_
  exact fm_ireturn (pc := 14) rfl (fm_dec dtX10_first 6 rfl) hq

set_option maxRecDepth 20000 in
theorem x_lacking {l : Launch} {G : fmG} {M : fmM} {Q : fmR → fmM → Prop} (hst : l.stackTraces = false)  (hl : M.1 3 9 = 0) (hq : Q (.inl (some (.int 0))) M) : fmGood Tx l G 1 qX10_lacking [.ref (G.1 0)] M Q := by
  refine fmGood_of hst (by decide +kernel) (Nat.le_of_ble_eq_true rfl) ?_
  show fmEv Tx l G 1 qX10_lacking 0 [some (.ref (G.1 0)), none, none] [] M Q
  refine fm_iconst (pc := 0) (v := 0) (by decide) (fm_dec dtX10_lacking 0 rfl) ?_
  refine fm_istoren (pc := 1) (n := 1) 1 rfl (by decide) rfl (fm_dec dtX10_lacking 1 rfl) ?_
  dsimp only [List.set_cons_zero, List.set_cons_succ]
  refine fm_iconst (pc := 2) (v := 0) (by decide) (fm_dec dtX10_lacking 2 rfl) ?_
  refine fm_istoren (pc := 3) (n := 2) 2 rfl (by decide) rfl (fm_dec dtX10_lacking 3 rfl) ?_
  dsimp only [List.set_cons_zero, List.set_cons_succ]
  refine fm_iloadn (pc := 4) (n := 2) 2 rfl rfl (fm_dec dtX10_lacking 4 rfl) ?_
  refine fm_aloadn (pc := 5) (n := 0) 0 rfl rfl (fm_dec dtX10_lacking 5 rfl) ?_
  refine fm_getR (k := 0) (j := 1) (ci := 10) (pc := 6) 3 rfl fl_X10_19 (by decide) rfl (by decide) (by decide) (fm_dec dtX10_lacking 6 rfl) ?_
  refine fm_getI (k := 3) (j := 9) (ci := 8) (pc := 9) fl_X10_138 (by decide) rfl (by decide) rfl (fm_dec dtX10_lacking 7 rfl) ?_
  refine fm_icmp_ge (pc := 12) 57 (by decide) (fm_dec dtX10_lacking 8 rfl) (fun _ => ?_) (fun hc12 => by exfalso; exact hc12 (by simp [hl]))
  refine fm_iloadn (pc := 57) (n := 1) 1 rfl rfl (fm_dec dtX10_lacking 31 rfl) ?_
  exact fm_ireturn (pc := 58) rfl (fm_dec dtX10_lacking 32 rfl) hq

set_option maxRecDepth 20000 in
theorem x_signed {l : Launch} {G : fmG} {M : fmM} {Q : fmR → fmM → Prop} (hst : l.stackTraces = false)  (hl : M.1 3 9 = 0) (hq : Q (.inl (some (.int 0))) M) : fmGood Tx l G 2 qX10_signed [.ref (G.1 0)] M Q := by
  refine fmGood_of hst (by decide +kernel) (Nat.le_of_ble_eq_true rfl) ?_
  show fmEv Tx l G 2 qX10_signed 0 [some (.ref (G.1 0)), none, none] [] M Q
  refine fm_iconst (pc := 0) (v := 0) (by decide) (fm_dec dtX10_signed 0 rfl) ?_
  refine fm_istoren (pc := 1) (n := 1) 1 rfl (by decide) rfl (fm_dec dtX10_signed 1 rfl) ?_
  dsimp only [List.set_cons_zero, List.set_cons_succ]
  refine fm_iconst (pc := 2) (v := 0) (by decide) (fm_dec dtX10_signed 2 rfl) ?_
  refine fm_istoren (pc := 3) (n := 2) 2 rfl (by decide) rfl (fm_dec dtX10_signed 3 rfl) ?_
  dsimp only [List.set_cons_zero, List.set_cons_succ]
  refine fm_iloadn (pc := 4) (n := 2) 2 rfl rfl (fm_dec dtX10_signed 4 rfl) ?_
  refine fm_aloadn (pc := 5) (n := 0) 0 rfl rfl (fm_dec dtX10_signed 5 rfl) ?_
  refine fm_getR (k := 0) (j := 1) (ci := 10) (pc := 6) 3 rfl fl_X10_19 (by decide) rfl (by decide) (by decide) (fm_dec dtX10_signed 6 rfl) ?_
  refine fm_getI (k := 3) (j := 9) (ci := 8) (pc := 9) fl_X10_138 (by decide) rfl (by decide) rfl (fm_dec dtX10_signed 7 rfl) ?_
  refine fm_icmp_ge (pc := 12) 62 (by decide) (fm_dec dtX10_signed 8 rfl) (fun _ => ?_) (fun hc12 => by exfalso; exact hc12 (by simp [hl]))
  refine fm_iloadn (pc := 62) (n := 1) 1 rfl rfl (fm_dec dtX10_signed 34 rfl) ?_
  exact fm_ireturn (pc := 63) rfl (fm_dec dtX10_signed 35 rfl) hq

set_option maxRecDepth 20000 in
theorem x_whose {l : Launch} {G : fmG} {M : fmM} {Q : fmR → fmM → Prop} (hst : l.stackTraces = false)  (hl : M.1 3 9 = 0) (hq : Q (.inl (some (.int 0))) M) : fmGood Tx l G 2 qX10_whose [.ref (G.1 0)] M Q := by
  refine fmGood_of hst (by decide +kernel) (Nat.le_of_ble_eq_true rfl) ?_
  show fmEv Tx l G 2 qX10_whose 0 [some (.ref (G.1 0)), none, none] [] M Q
  refine fm_iconst (pc := 0) (v := 0) (by decide) (fm_dec dtX10_whose 0 rfl) ?_
  refine fm_istoren (pc := 1) (n := 1) 1 rfl (by decide) rfl (fm_dec dtX10_whose 1 rfl) ?_
  dsimp only [List.set_cons_zero, List.set_cons_succ]
  refine fm_iconst (pc := 2) (v := 0) (by decide) (fm_dec dtX10_whose 2 rfl) ?_
  refine fm_istoren (pc := 3) (n := 2) 2 rfl (by decide) rfl (fm_dec dtX10_whose 3 rfl) ?_
  dsimp only [List.set_cons_zero, List.set_cons_succ]
  refine fm_iloadn (pc := 4) (n := 2) 2 rfl rfl (fm_dec dtX10_whose 4 rfl) ?_
  refine fm_aloadn (pc := 5) (n := 0) 0 rfl rfl (fm_dec dtX10_whose 5 rfl) ?_
  refine fm_getR (k := 0) (j := 1) (ci := 10) (pc := 6) 3 rfl fl_X10_19 (by decide) rfl (by decide) (by decide) (fm_dec dtX10_whose 6 rfl) ?_
  refine fm_getI (k := 3) (j := 9) (ci := 8) (pc := 9) fl_X10_138 (by decide) rfl (by decide) rfl (fm_dec dtX10_whose 7 rfl) ?_
  refine fm_icmp_ge (pc := 12) 37 (by decide) (fm_dec dtX10_whose 8 rfl) (fun _ => ?_) (fun hc12 => by exfalso; exact hc12 (by simp [hl]))
  refine fm_iloadn (pc := 37) (n := 1) 1 rfl rfl (fm_dec dtX10_whose 23 rfl) ?_
  exact fm_ireturn (pc := 38) rfl (fm_dec dtX10_whose 24 rfl) hq

set_option maxRecDepth 20000 in
theorem x_oldest {l : Launch} {G : fmG} {M : fmM} {Q : fmR → fmM → Prop} (hst : l.stackTraces = false)  (hl : M.1 3 9 = 0) (hq : Q (.inl (some (.int (-1)))) M) : fmGood Tx l G 0 qX10_oldest [.ref (G.1 0)] M Q := by
  refine fmGood_of hst (by decide +kernel) (Nat.le_of_ble_eq_true rfl) ?_
  show fmEv Tx l G 0 qX10_oldest 0 [some (.ref (G.1 0)), none, none, none] [] M Q
  refine fm_iconst (pc := 0) (v := (-1)) (by decide) (fm_dec dtX10_oldest 0 rfl) ?_
  refine fm_istoren (pc := 1) (n := 1) 1 rfl (by decide) rfl (fm_dec dtX10_oldest 1 rfl) ?_
  dsimp only [List.set_cons_zero, List.set_cons_succ]
  refine fm_iconst (pc := 2) (v := (-1)) (by decide) (fm_dec dtX10_oldest 2 rfl) ?_
  refine fm_istoren (pc := 3) (n := 2) 2 rfl (by decide) rfl (fm_dec dtX10_oldest 3 rfl) ?_
  dsimp only [List.set_cons_zero, List.set_cons_succ]
  refine fm_iconst (pc := 4) (v := 0) (by decide) (fm_dec dtX10_oldest 4 rfl) ?_
  refine fm_istoren (pc := 5) (n := 3) 3 rfl (by decide) rfl (fm_dec dtX10_oldest 5 rfl) ?_
  dsimp only [List.set_cons_zero, List.set_cons_succ]
  refine fm_iloadn (pc := 6) (n := 3) 3 rfl rfl (fm_dec dtX10_oldest 6 rfl) ?_
  refine fm_aloadn (pc := 7) (n := 0) 0 rfl rfl (fm_dec dtX10_oldest 7 rfl) ?_
  refine fm_getR (k := 0) (j := 1) (ci := 10) (pc := 8) 3 rfl fl_X10_19 (by decide) rfl (by decide) (by decide) (fm_dec dtX10_oldest 8 rfl) ?_
  refine fm_getI (k := 3) (j := 9) (ci := 8) (pc := 11) fl_X10_138 (by decide) rfl (by decide) rfl (fm_dec dtX10_oldest 9 rfl) ?_
  refine fm_icmp_ge (pc := 14) 54 (by decide) (fm_dec dtX10_oldest 10 rfl) (fun _ => ?_) (fun hc14 => by exfalso; exact hc14 (by simp [hl]))
  refine fm_iloadn (pc := 54) (n := 1) 1 rfl rfl (fm_dec dtX10_oldest 30 rfl) ?_
  exact fm_ireturn (pc := 55) rfl (fm_dec dtX10_oldest 31 rfl) hq

set_option maxRecDepth 20000 in
theorem c_look0 {l : Launch} {G : fmG} {M : fmM} {Q : fmR → fmM → Prop} (hst : l.stackTraces = false)  (hl : M.1 3 9 = 0) (hq : Q (.inl none) M) : fmGood Tx l G 1 qX10_look [.ref (G.1 0)] M Q := by
  refine fmGood_of hst (by decide +kernel) (Nat.le_of_ble_eq_true rfl) ?_
  show fmEv Tx l G 1 qX10_look 0 [some (.ref (G.1 0)), none] [] M Q
  refine fm_iconst (pc := 0) (v := 0) (by decide) (fm_dec dtX10_look 0 rfl) ?_
  refine fm_istoren (pc := 1) (n := 1) 1 rfl (by decide) rfl (fm_dec dtX10_look 1 rfl) ?_
  dsimp only [List.set_cons_zero, List.set_cons_succ]
  refine fm_iloadn (pc := 2) (n := 1) 1 rfl rfl (fm_dec dtX10_look 2 rfl) ?_
  refine fm_aloadn (pc := 3) (n := 0) 0 rfl rfl (fm_dec dtX10_look 3 rfl) ?_
  refine fm_getR (k := 0) (j := 1) (ci := 10) (pc := 4) 3 rfl fl_X10_19 (by decide) rfl (by decide) (by decide) (fm_dec dtX10_look 4 rfl) ?_
  refine fm_getI (k := 3) (j := 9) (ci := 8) (pc := 7) fl_X10_138 (by decide) rfl (by decide) rfl (fm_dec dtX10_look 5 rfl) ?_
  refine fm_icmp_ge (pc := 10) 43 (by decide) (fm_dec dtX10_look 6 rfl) (fun _ => ?_) (fun hc10 => by exfalso; exact hc10 (by simp [hl]))
  exact fm_return (pc := 43) rfl (fm_dec dtX10_look 21 rfl) hq

set_option maxRecDepth 20000 in
theorem x_twins {l : Launch} {G : fmG} {M : fmM} {Q : fmR → fmM → Prop} (hst : l.stackTraces = false)  (hl : M.1 3 9 = 0) (hq : Q (.inl (some (.int (-1)))) M) : fmGood Tx l G 2 qX10_twins [.ref (G.1 0)] M Q := by
  refine fmGood_of hst (by decide +kernel) (Nat.le_of_ble_eq_true rfl) ?_
  show fmEv Tx l G 2 qX10_twins 0 [some (.ref (G.1 0)), none, none] [] M Q
  refine fm_aloadn (pc := 0) (n := 0) 0 rfl rfl (fm_dec dtX10_twins 0 rfl) ?_
  refine fm_invV0 (k := 0) (d' := 1) (pc := 1) cv_X10_331 (by decide) rfl (Nat.le_of_ble_eq_true rfl) (by decide) (fm_dec dtX10_twins 1 rfl) ?_
  refine c_look0 hst hl ?_
  refine fm_then0 ?_
  refine fm_iconst (pc := 4) (v := 0) (by decide) (fm_dec dtX10_twins 2 rfl) ?_
  refine fm_istoren (pc := 5) (n := 1) 1 rfl (by decide) rfl (fm_dec dtX10_twins 3 rfl) ?_
  dsimp only [List.set_cons_zero, List.set_cons_succ]
  refine fm_iloadn (pc := 6) (n := 1) 1 rfl rfl (fm_dec dtX10_twins 4 rfl) ?_
  refine fm_aloadn (pc := 7) (n := 0) 0 rfl rfl (fm_dec dtX10_twins 5 rfl) ?_
  refine fm_getR (k := 0) (j := 1) (ci := 10) (pc := 8) 3 rfl fl_X10_19 (by decide) rfl (by decide) (by decide) (fm_dec dtX10_twins 6 rfl) ?_
  refine fm_getI (k := 3) (j := 9) (ci := 8) (pc := 11) fl_X10_138 (by decide) rfl (by decide) rfl (fm_dec dtX10_twins 7 rfl) ?_
  refine fm_icmp_ge (pc := 14) 66 (by decide) (fm_dec dtX10_twins 8 rfl) (fun _ => ?_) (fun hc14 => by exfalso; exact hc14 (by simp [hl]))
  refine fm_iconst (pc := 66) (v := (-1)) (by decide) (fm_dec dtX10_twins 37 rfl) ?_
  exact fm_ireturn (pc := 67) rfl (fm_dec dtX10_twins 38 rfl) hq

set_option maxRecDepth 20000 in
theorem c_pieces {l : Launch} {G : fmG} {M : fmM} {Q : fmR → fmM → Prop} (hst : l.stackTraces = false) (n : Int32) (hl : M.1 3 9 = 0) (hq : Q (.inl (some (.int 0))) M) : fmGood Tx l G 3 qX10_piecesWrongBy [.ref (G.1 0), .int n] M Q := by
  refine fmGood_of hst (by decide +kernel) (Nat.le_of_ble_eq_true rfl) ?_
  show fmEv Tx l G 3 qX10_piecesWrongBy 0 [some (.ref (G.1 0)), some (.int n), none, none, none] [] M Q
  refine fm_iconst (pc := 0) (v := 0) (by decide) (fm_dec dtX10_piecesWrongBy 0 rfl) ?_
  refine fm_istoren (pc := 1) (n := 2) 2 rfl (by decide) rfl (fm_dec dtX10_piecesWrongBy 1 rfl) ?_
  dsimp only [List.set_cons_zero, List.set_cons_succ]
  refine fm_iconst (pc := 2) (v := 0) (by decide) (fm_dec dtX10_piecesWrongBy 2 rfl) ?_
  refine fm_istoren (pc := 3) (n := 3) 3 rfl (by decide) rfl (fm_dec dtX10_piecesWrongBy 3 rfl) ?_
  dsimp only [List.set_cons_zero, List.set_cons_succ]
  refine fm_iloadn (pc := 4) (n := 3) 3 rfl rfl (fm_dec dtX10_piecesWrongBy 4 rfl) ?_
  refine fm_aloadn (pc := 5) (n := 0) 0 rfl rfl (fm_dec dtX10_piecesWrongBy 5 rfl) ?_
  refine fm_getR (k := 0) (j := 1) (ci := 10) (pc := 6) 3 rfl fl_X10_19 (by decide) rfl (by decide) (by decide) (fm_dec dtX10_piecesWrongBy 6 rfl) ?_
  refine fm_getI (k := 3) (j := 9) (ci := 8) (pc := 9) fl_X10_138 (by decide) rfl (by decide) rfl (fm_dec dtX10_piecesWrongBy 7 rfl) ?_
  refine fm_icmp_ge (pc := 12) 69 (by decide) (fm_dec dtX10_piecesWrongBy 8 rfl) (fun _ => ?_) (fun hc12 => by exfalso; exact hc12 (by simp [hl]))
  refine fm_iloadn (pc := 69) (n := 2) 2 rfl rfl (fm_dec dtX10_piecesWrongBy 38 rfl) ?_
  exact fm_ireturn (pc := 70) rfl (fm_dec dtX10_piecesWrongBy 39 rfl) hq

set_option maxRecDepth 20000 in
theorem x_stale {l : Launch} {G : fmG} {M : fmM} {Q : fmR → fmM → Prop} (hst : l.stackTraces = false) (n : Int32) (hl : M.1 3 9 = 0) (hq : inR n 0 65 → Q (.inl (some (.int 0))) M) (hx : ∀ M', ¬ inR n 0 65 → Q (.inr fmIAE) M') : fmGood Tx l G 4 qX10_stale [.ref (G.1 0), .int n] M Q := by
  refine fmGood_of hst (by decide +kernel) (Nat.le_of_ble_eq_true rfl) ?_
  show fmEv Tx l G 4 qX10_stale 0 [some (.ref (G.1 0)), some (.int n)] [] M Q
  refine fm_aloadn (pc := 0) (n := 0) 0 rfl rfl (fm_dec dtX10_stale 0 rfl) ?_
  refine fm_iloadn (pc := 1) (n := 1) 1 rfl rfl (fm_dec dtX10_stale 1 rfl) ?_
  refine fm_iconst (pc := 2) (v := 0) (by decide) (fm_dec dtX10_stale 2 rfl) ?_
  refine fm_bipush (pc := 3) (v := 65) (by decide) (fm_dec dtX10_stale 3 rfl) ?_
  refine fm_invV3 (k := 0) (d' := 0) (pc := 5) cv_X10_169 (by decide) rfl (Nat.le_of_ble_eq_true rfl) (by decide) (fm_dec dtX10_stale 4 rfl) ?_
  refine c_needWithin hst _ _ _ (fun hi5 => ?_) (fun hx5 => ?_)
  · refine fm_then0 ?_
    refine fm_aloadn (pc := 8) (n := 0) 0 rfl rfl (fm_dec dtX10_stale 5 rfl) ?_
    refine fm_iloadn (pc := 9) (n := 1) 1 rfl rfl (fm_dec dtX10_stale 6 rfl) ?_
    refine fm_invV1 (k := 0) (d' := 3) (pc := 10) cv_X10_241 (by decide) rfl (Nat.le_of_ble_eq_true rfl) (by decide) (fm_dec dtX10_stale 7 rfl) ?_
    refine c_pieces hst _ hl ?_
    refine fm_then1 ?_
    exact fm_ireturn (pc := 13) rfl (fm_dec dtX10_stale 8 rfl) (hq hi5)
  · refine fm_thenX ?_
    exact hx _ hx5

set_option maxRecDepth 20000 in
theorem x_life {l : Launch} {G : fmG} {M : fmM} {Q : fmR → fmM → Prop} (hst : l.stackTraces = false) (i a : Int32) (hl : M.1 3 9 = 0) (hx : ∀ M', Q (.inr fmNSE) M') : fmGood Tx l G 2 qX10_life [.ref (G.1 0), .int i, .int a] M Q := by
  refine fmGood_of hst (by decide +kernel) (Nat.le_of_ble_eq_true rfl) ?_
  show fmEv Tx l G 2 qX10_life 0 [some (.ref (G.1 0)), some (.int i), some (.int a)] [] M Q
  refine fm_aloadn (pc := 0) (n := 0) 0 rfl rfl (fm_dec dtX10_life 0 rfl) ?_
  refine fm_iloadn (pc := 1) (n := 1) 1 rfl rfl (fm_dec dtX10_life 1 rfl) ?_
  refine fm_invV1 (k := 0) (d' := 0) (pc := 2) cv_X10_197 (by decide) rfl (Nat.le_of_ble_eq_true rfl) (by decide) (fm_dec dtX10_life 2 rfl) ?_
  refine c_needLife0 hst _ hl (fun _ => ?_)
  refine fm_thenX ?_
  exact hx _

set_option maxRecDepth 20000 in
theorem x_facts {l : Launch} {G : fmG} {M : fmM} {Q : fmR → fmM → Prop} (hst : l.stackTraces = false) (i : Int32) (hl : M.1 3 9 = 0) (hx : ∀ M', Q (.inr fmNSE) M') : fmGood Tx l G 1 qX10_facts [.ref (G.1 0), .int i] M Q := by
  refine fmGood_of hst (by decide +kernel) (Nat.le_of_ble_eq_true rfl) ?_
  show fmEv Tx l G 1 qX10_facts 0 [some (.ref (G.1 0)), some (.int i)] [] M Q
  refine fm_aloadn (pc := 0) (n := 0) 0 rfl rfl (fm_dec dtX10_facts 0 rfl) ?_
  refine fm_iloadn (pc := 1) (n := 1) 1 rfl rfl (fm_dec dtX10_facts 1 rfl) ?_
  refine fm_invV1 (k := 0) (d' := 0) (pc := 2) cv_X10_197 (by decide) rfl (Nat.le_of_ble_eq_true rfl) (by decide) (fm_dec dtX10_facts 2 rfl) ?_
  refine c_needLife0 hst _ hl (fun _ => ?_)
  refine fm_thenX ?_
  exact hx _

set_option maxRecDepth 20000 in
theorem x_wrong {l : Launch} {G : fmG} {M : fmM} {Q : fmR → fmM → Prop} (hst : l.stackTraces = false) (i : Int32) (hl : M.1 3 9 = 0) (hx : ∀ M', Q (.inr fmNSE) M') : fmGood Tx l G 3 qX10_wrong [.ref (G.1 0), .int i] M Q := by
  refine fmGood_of hst (by decide +kernel) (Nat.le_of_ble_eq_true rfl) ?_
  show fmEv Tx l G 3 qX10_wrong 0 [some (.ref (G.1 0)), some (.int i), none] [] M Q
  refine fm_aloadn (pc := 0) (n := 0) 0 rfl rfl (fm_dec dtX10_wrong 0 rfl) ?_
  refine fm_iloadn (pc := 1) (n := 1) 1 rfl rfl (fm_dec dtX10_wrong 1 rfl) ?_
  refine fm_invV1 (k := 0) (d' := 0) (pc := 2) cv_X10_197 (by decide) rfl (Nat.le_of_ble_eq_true rfl) (by decide) (fm_dec dtX10_wrong 2 rfl) ?_
  refine c_needLife0 hst _ hl (fun _ => ?_)
  refine fm_thenX ?_
  exact hx _

set_option maxRecDepth 20000 in
theorem x_cost {l : Launch} {G : fmG} {M : fmM} {Q : fmR → fmM → Prop} (hst : l.stackTraces = false) (i a : Int32) (hl : M.1 3 9 = 0) (hx : ∀ M', Q (.inr fmNSE) M') : fmGood Tx l G 4 qX10_cost [.ref (G.1 0), .int i, .int a] M Q := by
  refine fmGood_of hst (by decide +kernel) (Nat.le_of_ble_eq_true rfl) ?_
  show fmEv Tx l G 4 qX10_cost 0 [some (.ref (G.1 0)), some (.int i), some (.int a)] [] M Q
  refine fm_aloadn (pc := 0) (n := 0) 0 rfl rfl (fm_dec dtX10_cost 0 rfl) ?_
  refine fm_iloadn (pc := 1) (n := 1) 1 rfl rfl (fm_dec dtX10_cost 1 rfl) ?_
  refine fm_invV1 (k := 0) (d' := 0) (pc := 2) cv_X10_197 (by decide) rfl (Nat.le_of_ble_eq_true rfl) (by decide) (fm_dec dtX10_cost 2 rfl) ?_
  refine c_needLife0 hst _ hl (fun _ => ?_)
  refine fm_thenX ?_
  exact hx _

set_option maxRecDepth 20000 in
theorem x_saves {l : Launch} {G : fmG} {M : fmM} {Q : fmR → fmM → Prop} (hst : l.stackTraces = false) (i a : Int32) (hl : M.1 3 9 = 0) (hx : ∀ M', Q (.inr fmNSE) M') : fmGood Tx l G 5 qX10_saves [.ref (G.1 0), .int i, .int a] M Q := by
  refine fmGood_of hst (by decide +kernel) (Nat.le_of_ble_eq_true rfl) ?_
  show fmEv Tx l G 5 qX10_saves 0 [some (.ref (G.1 0)), some (.int i), some (.int a), none, none] [] M Q
  refine fm_aloadn (pc := 0) (n := 0) 0 rfl rfl (fm_dec dtX10_saves 0 rfl) ?_
  refine fm_iloadn (pc := 1) (n := 1) 1 rfl rfl (fm_dec dtX10_saves 1 rfl) ?_
  refine fm_invV1 (k := 0) (d' := 0) (pc := 2) cv_X10_197 (by decide) rfl (Nat.le_of_ble_eq_true rfl) (by decide) (fm_dec dtX10_saves 2 rfl) ?_
  refine c_needLife0 hst _ hl (fun _ => ?_)
  refine fm_thenX ?_
  exact hx _

set_option maxRecDepth 20000 in
theorem x_often {l : Launch} {G : fmG} {M : fmM} {Q : fmR → fmM → Prop} (hst : l.stackTraces = false) (i a : Int32) (hl : M.1 3 9 = 0) (hx : ∀ M', Q (.inr fmNSE) M') : fmGood Tx l G 3 qX10_often [.ref (G.1 0), .int i, .int a] M Q := by
  refine fmGood_of hst (by decide +kernel) (Nat.le_of_ble_eq_true rfl) ?_
  show fmEv Tx l G 3 qX10_often 0 [some (.ref (G.1 0)), some (.int i), some (.int a), none, none, none, none, none, none, none, none] [] M Q
  refine fm_aloadn (pc := 0) (n := 0) 0 rfl rfl (fm_dec dtX10_often 0 rfl) ?_
  refine fm_iloadn (pc := 1) (n := 1) 1 rfl rfl (fm_dec dtX10_often 1 rfl) ?_
  refine fm_invV1 (k := 0) (d' := 0) (pc := 2) cv_X10_197 (by decide) rfl (Nat.le_of_ble_eq_true rfl) (by decide) (fm_dec dtX10_often 2 rfl) ?_
  refine c_needLife0 hst _ hl (fun _ => ?_)
  refine fm_thenX ?_
  exact hx _

set_option maxRecDepth 20000 in
theorem x_yearly {l : Launch} {G : fmG} {M : fmM} {Q : fmR → fmM → Prop} (hst : l.stackTraces = false) (i a b c : Int32) (hl : M.1 3 9 = 0) (hx : ∀ M', Q (.inr fmNSE) M') : fmGood Tx l G 3 qX10_yearly [.ref (G.1 0), .int i, .int a, .int b, .int c] M Q := by
  refine fmGood_of hst (by decide +kernel) (Nat.le_of_ble_eq_true rfl) ?_
  show fmEv Tx l G 3 qX10_yearly 0 [some (.ref (G.1 0)), some (.int i), some (.int a), some (.int b), some (.int c), none, none, none] [] M Q
  refine fm_aloadn (pc := 0) (n := 0) 0 rfl rfl (fm_dec dtX10_yearly 0 rfl) ?_
  refine fm_iloadn (pc := 1) (n := 1) 1 rfl rfl (fm_dec dtX10_yearly 1 rfl) ?_
  refine fm_invV1 (k := 0) (d' := 0) (pc := 2) cv_X10_197 (by decide) rfl (Nat.le_of_ble_eq_true rfl) (by decide) (fm_dec dtX10_yearly 2 rfl) ?_
  refine c_needLife0 hst _ hl (fun _ => ?_)
  refine fm_thenX ?_
  exact hx _

set_option maxRecDepth 20000 in
theorem x_written {l : Launch} {G : fmG} {M : fmM} {Q : fmR → fmM → Prop} (hst : l.stackTraces = false) (i : Int32) (hl : M.1 3 9 = 0) (hx : ∀ M', Q (.inr fmNSE) M') : fmGood Tx l G 2 qX10_written [.ref (G.1 0), .int i] M Q := by
  refine fmGood_of hst (by decide +kernel) (Nat.le_of_ble_eq_true rfl) ?_
  show fmEv Tx l G 2 qX10_written 0 [some (.ref (G.1 0)), some (.int i)] [] M Q
  refine fm_aloadn (pc := 0) (n := 0) 0 rfl rfl (fm_dec dtX10_written 0 rfl) ?_
  refine fm_iloadn (pc := 1) (n := 1) 1 rfl rfl (fm_dec dtX10_written 1 rfl) ?_
  refine fm_invV1 (k := 0) (d' := 0) (pc := 2) cv_X10_197 (by decide) rfl (Nat.le_of_ble_eq_true rfl) (by decide) (fm_dec dtX10_written 2 rfl) ?_
  refine c_needLife0 hst _ hl (fun _ => ?_)
  refine fm_thenX ?_
  exact hx _

set_option maxRecDepth 20000 in
theorem x_lives {l : Launch} {G : fmG} {M : fmM} {Q : fmR → fmM → Prop} (hst : l.stackTraces = false) (i a b : Int32) (hl : M.1 3 9 = 0) (hx : ∀ M', Q (.inr fmNSE) M') : fmGood Tx l G 2 qX10_lives [.ref (G.1 0), .int i, .int a, .int b] M Q := by
  refine fmGood_of hst (by decide +kernel) (Nat.le_of_ble_eq_true rfl) ?_
  show fmEv Tx l G 2 qX10_lives 0 [some (.ref (G.1 0)), some (.int i), some (.int a), some (.int b), none, none, none] [] M Q
  refine fm_aloadn (pc := 0) (n := 0) 0 rfl rfl (fm_dec dtX10_lives 0 rfl) ?_
  refine fm_iloadn (pc := 1) (n := 1) 1 rfl rfl (fm_dec dtX10_lives 1 rfl) ?_
  refine fm_invV1 (k := 0) (d' := 0) (pc := 2) cv_X10_197 (by decide) rfl (Nat.le_of_ble_eq_true rfl) (by decide) (fm_dec dtX10_lives 2 rfl) ?_
  refine c_needLife0 hst _ hl (fun _ => ?_)
  refine fm_thenX ?_
  exact hx _

set_option maxRecDepth 20000 in
theorem x_chain {l : Launch} {G : fmG} {M : fmM} {Q : fmR → fmM → Prop} (hst : l.stackTraces = false) (i a : Int32) (hl : M.1 3 9 = 0) (hx : ∀ M', Q (.inr fmNSE) M') : fmGood Tx l G 1 qX10_chain [.ref (G.1 0), .int i, .int a] M Q := by
  refine fmGood_of hst (by decide +kernel) (Nat.le_of_ble_eq_true rfl) ?_
  show fmEv Tx l G 1 qX10_chain 0 [some (.ref (G.1 0)), some (.int i), some (.int a), none, none, none, none] [] M Q
  refine fm_aloadn (pc := 0) (n := 0) 0 rfl rfl (fm_dec dtX10_chain 0 rfl) ?_
  refine fm_iloadn (pc := 1) (n := 1) 1 rfl rfl (fm_dec dtX10_chain 1 rfl) ?_
  refine fm_invV1 (k := 0) (d' := 0) (pc := 2) cv_X10_197 (by decide) rfl (Nat.le_of_ble_eq_true rfl) (by decide) (fm_dec dtX10_chain 2 rfl) ?_
  refine c_needLife0 hst _ hl (fun _ => ?_)
  refine fm_thenX ?_
  exact hx _

set_option maxRecDepth 20000 in
theorem x_due {l : Launch} {G : fmG} {M : fmM} {Q : fmR → fmM → Prop} (hst : l.stackTraces = false) (i a : Int32) (hl : M.1 3 9 = 0) (hx : ∀ M', Q (.inr fmNSE) M') : fmGood Tx l G 3 qX10_due [.ref (G.1 0), .int i, .int a] M Q := by
  refine fmGood_of hst (by decide +kernel) (Nat.le_of_ble_eq_true rfl) ?_
  show fmEv Tx l G 3 qX10_due 0 [some (.ref (G.1 0)), some (.int i), some (.int a), none, none] [] M Q
  refine fm_aloadn (pc := 0) (n := 0) 0 rfl rfl (fm_dec dtX10_due 0 rfl) ?_
  refine fm_iloadn (pc := 1) (n := 1) 1 rfl rfl (fm_dec dtX10_due 1 rfl) ?_
  refine fm_invV1 (k := 0) (d' := 0) (pc := 2) cv_X10_197 (by decide) rfl (Nat.le_of_ble_eq_true rfl) (by decide) (fm_dec dtX10_due 2 rfl) ?_
  refine c_needLife0 hst _ hl (fun _ => ?_)
  refine fm_thenX ?_
  exact hx _

set_option maxRecDepth 20000 in
theorem x_news {l : Launch} {G : fmG} {M : fmM} {Q : fmR → fmM → Prop} (hst : l.stackTraces = false) (i : Int32) (hl : M.1 3 9 = 0) (hx : ∀ M', Q (.inr fmNSE) M') : fmGood Tx l G 1 qX10_news [.ref (G.1 0), .int i] M Q := by
  refine fmGood_of hst (by decide +kernel) (Nat.le_of_ble_eq_true rfl) ?_
  show fmEv Tx l G 1 qX10_news 0 [some (.ref (G.1 0)), some (.int i)] [] M Q
  refine fm_aloadn (pc := 0) (n := 0) 0 rfl rfl (fm_dec dtX10_news 0 rfl) ?_
  refine fm_iloadn (pc := 1) (n := 1) 1 rfl rfl (fm_dec dtX10_news 1 rfl) ?_
  refine fm_invV1 (k := 0) (d' := 0) (pc := 2) cv_X10_197 (by decide) rfl (Nat.le_of_ble_eq_true rfl) (by decide) (fm_dec dtX10_news 2 rfl) ?_
  refine c_needLife0 hst _ hl (fun _ => ?_)
  refine fm_thenX ?_
  exact hx _

set_option maxRecDepth 20000 in
theorem x_expects {l : Launch} {G : fmG} {M : fmM} {Q : fmR → fmM → Prop} (hst : l.stackTraces = false) (i a b : Int32) (hl : M.1 3 9 = 0) (hx : ∀ M', Q (.inr fmNSE) M') : fmGood Tx l G 5 qX10_expects [.ref (G.1 0), .int i, .int a, .int b] M Q := by
  refine fmGood_of hst (by decide +kernel) (Nat.le_of_ble_eq_true rfl) ?_
  show fmEv Tx l G 5 qX10_expects 0 [some (.ref (G.1 0)), some (.int i), some (.int a), some (.int b)] [] M Q
  refine fm_aloadn (pc := 0) (n := 0) 0 rfl rfl (fm_dec dtX10_expects 0 rfl) ?_
  refine fm_iloadn (pc := 1) (n := 1) 1 rfl rfl (fm_dec dtX10_expects 1 rfl) ?_
  refine fm_invV1 (k := 0) (d' := 0) (pc := 2) cv_X10_197 (by decide) rfl (Nat.le_of_ble_eq_true rfl) (by decide) (fm_dec dtX10_expects 2 rfl) ?_
  refine c_needLife0 hst _ hl (fun _ => ?_)
  refine fm_thenX ?_
  exact hx _

set_option maxRecDepth 20000 in
theorem x_lines {l : Launch} {G : fmG} {M : fmM} {Q : fmR → fmM → Prop} (hst : l.stackTraces = false) (a b i : Int32) (hl : M.1 3 9 = 0) (hx : ∀ M', Q (.inr fmNSE) M') : fmGood Tx l G 3 qX10_lines [.ref (G.1 0), .int a, .int b, .int i] M Q := by
  refine fmGood_of hst (by decide +kernel) (Nat.le_of_ble_eq_true rfl) ?_
  show fmEv Tx l G 3 qX10_lines 0 [some (.ref (G.1 0)), some (.int a), some (.int b), some (.int i), none, none, none] [] M Q
  refine fm_aloadn (pc := 0) (n := 0) 0 rfl rfl (fm_dec dtX10_lines 0 rfl) ?_
  refine fm_iloadn (pc := 1) (n := 3) 3 rfl rfl (fm_dec dtX10_lines 1 rfl) ?_
  refine fm_invV1 (k := 0) (d' := 0) (pc := 2) cv_X10_197 (by decide) rfl (Nat.le_of_ble_eq_true rfl) (by decide) (fm_dec dtX10_lines 2 rfl) ?_
  refine c_needLife0 hst _ hl (fun _ => ?_)
  refine fm_thenX ?_
  exact hx _

theorem inR_no {v : Int32} (h : inR v 0 (-1)) : False := by
  have h9 := inR_toInt h
  rw [show (0 : Int32).toInt = 0 by decide, show (-1 : Int32).toInt = -1 by decide] at h9
  omega
theorem sw3 (w : Int32) : w = 0 ∨ w = 1 ∨ (¬ w = 0 ∧ ¬ w = 1 ∧ ¬ w.toInt = 0 ∧ ¬ w.toInt = 1) := by
  by_cases h0 : w = 0
  · exact Or.inl h0
  · by_cases h1 : w = 1
    · exact Or.inr (Or.inl h1)
    · exact Or.inr (Or.inr ⟨h0, h1, fun q => h0 (i32_ext (by simp [q])), fun q => h1 (i32_ext (by simp [q]))⟩)
theorem sw4 (w : Int32) : w = 0 ∨ w = 1 ∨ w = 2 ∨ (¬ w = 0 ∧ ¬ w = 1 ∧ ¬ w = 2 ∧ (w.toInt < 0 ∨ 2 < w.toInt)) := by
  by_cases h0 : w = 0
  · exact Or.inl h0
  · by_cases h1 : w = 1
    · exact Or.inr (Or.inl h1)
    · by_cases h2 : w = 2
      · exact Or.inr (Or.inr (Or.inl h2))
      · refine Or.inr (Or.inr (Or.inr ⟨h0, h1, h2, ?_⟩))
        have a0 : ¬ w.toInt = 0 := fun q => h0 (i32_ext (by simp [q]))
        have a1 : ¬ w.toInt = 1 := fun q => h1 (i32_ext (by simp [q]))
        have a2 : ¬ w.toInt = 2 := fun q => h2 (i32_ext (by simp [q]))
        omega

set_option maxRecDepth 20000 in
theorem x_span {l : Launch} {G : fmG} {M : fmM} {Q : fmR → fmM → Prop} (hst : l.stackTraces = false) (a b c d e : Int32) (hl : M.1 3 9 = 0) (hx : ∀ M', Q (.inr fmIAE) M') : fmGood Tx l G 7 qX10_span [.ref (G.1 0), .int a, .int b, .int c, .int d, .int e] M Q := by
  refine fmGood_of hst (by decide +kernel) (Nat.le_of_ble_eq_true rfl) ?_
  show fmEv Tx l G 7 qX10_span 0 [some (.ref (G.1 0)), some (.int a), some (.int b), some (.int c), some (.int d), some (.int e), none, none, none, none, none, none] [] M Q
  refine fm_aloadn (pc := 0) (n := 0) 0 rfl rfl (fm_dec dtX10_span 0 rfl) ?_
  refine fm_iloadn (pc := 1) (n := 2) 2 rfl rfl (fm_dec dtX10_span 1 rfl) ?_
  refine fm_iconst (pc := 2) (v := 1) (by decide) (fm_dec dtX10_span 2 rfl) ?_
  refine fm_bipush (pc := 3) (v := 20) (by decide) (fm_dec dtX10_span 3 rfl) ?_
  refine fm_invV3 (k := 0) (d' := 0) (pc := 5) cv_X10_169 (by decide) rfl (Nat.le_of_ble_eq_true rfl) (by decide) (fm_dec dtX10_span 4 rfl) ?_
  refine c_needWithin hst _ _ _ (fun hi5 => ?_) (fun hx5 => ?_)
  · refine fm_then0 ?_
    refine fm_aloadn (pc := 8) (n := 0) 0 rfl rfl (fm_dec dtX10_span 5 rfl) ?_
    refine fm_iloadn (pc := 9) (n := 3) 3 rfl rfl (fm_dec dtX10_span 6 rfl) ?_
    refine fm_iconst (pc := 10) (v := 1) (by decide) (fm_dec dtX10_span 7 rfl) ?_
    refine fm_bipush (pc := 11) (v := 60) (by decide) (fm_dec dtX10_span 8 rfl) ?_
    refine fm_invV3 (k := 0) (d' := 0) (pc := 13) cv_X10_169 (by decide) rfl (Nat.le_of_ble_eq_true rfl) (by decide) (fm_dec dtX10_span 9 rfl) ?_
    refine c_needWithin hst _ _ _ (fun hi13 => ?_) (fun hx13 => ?_)
    · refine fm_then0 ?_
      refine fm_aloadn (pc := 16) (n := 0) 0 rfl rfl (fm_dec dtX10_span 10 rfl) ?_
      refine fm_iload (pc := 17) (i := 4) rfl (fm_dec dtX10_span 11 rfl) ?_
      refine fm_iconst (pc := 19) (v := 0) (by decide) (fm_dec dtX10_span 12 rfl) ?_
      refine fm_iconst (pc := 20) (v := 3) (by decide) (fm_dec dtX10_span 13 rfl) ?_
      refine fm_invV3 (k := 0) (d' := 0) (pc := 21) cv_X10_169 (by decide) rfl (Nat.le_of_ble_eq_true rfl) (by decide) (fm_dec dtX10_span 14 rfl) ?_
      refine c_needWithin hst _ _ _ (fun hi21 => ?_) (fun hx21 => ?_)
      · refine fm_then0 ?_
        refine fm_aloadn (pc := 24) (n := 0) 0 rfl rfl (fm_dec dtX10_span 15 rfl) ?_
        refine fm_iload (pc := 25) (i := 5) rfl (fm_dec dtX10_span 16 rfl) ?_
        refine fm_iconst (pc := 27) (v := 0) (by decide) (fm_dec dtX10_span 17 rfl) ?_
        refine fm_aloadn (pc := 28) (n := 0) 0 rfl rfl (fm_dec dtX10_span 18 rfl) ?_
        refine fm_getR (k := 0) (j := 1) (ci := 10) (pc := 29) 3 rfl fl_X10_19 (by decide) rfl (by decide) (by decide) (fm_dec dtX10_span 19 rfl) ?_
        refine fm_getI (k := 3) (j := 9) (ci := 8) (pc := 32) fl_X10_138 (by decide) rfl (by decide) rfl (fm_dec dtX10_span 20 rfl) ?_
        refine fm_iconst (pc := 35) (v := 1) (by decide) (fm_dec dtX10_span 21 rfl) ?_
        refine fm_isub (pc := 36) (fm_dec dtX10_span 22 rfl) ?_
        rw [hl]
        rw [show (0 : Int32) - 1 = -1 by decide]
        refine fm_invV3 (k := 0) (d' := 0) (pc := 37) cv_X10_169 (by decide) rfl (Nat.le_of_ble_eq_true rfl) (by decide) (fm_dec dtX10_span 23 rfl) ?_
        refine c_needWithin hst _ _ _ (fun hi37 => ?_) (fun hx37 => ?_)
        · refine fm_then0 ?_
          exact (inR_no hi37).elim
        · refine fm_thenX ?_
          exact hx _
      · refine fm_thenX ?_
        exact hx _
    · refine fm_thenX ?_
      exact hx _
  · refine fm_thenX ?_
    exact hx _

set_option maxRecDepth 20000 in
theorem x_status {l : Launch} {G : fmG} {M : fmM} {Q : fmR → fmM → Prop} (hst : l.stackTraces = false) (w : Int32) (h1 : M.1 0 15 = 0) (h2 : M.1 0 16 = 0) (hq : Q (.inl (some (.int (if w = 0 ∨ w = 1 then 0 else -1)))) M) : fmGood Tx l G 0 qX10_status [.ref (G.1 0), .int w] M Q := by
  refine fmGood_of hst (by decide +kernel) (Nat.le_of_ble_eq_true rfl) ?_
  show fmEv Tx l G 0 qX10_status 0 [some (.ref (G.1 0)), some (.int w)] [] M Q
  refine fm_iloadn (pc := 0) (n := 1) 1 rfl rfl (fm_dec dtX10_status 0 rfl) ?_
  rcases sw3 w with rfl | rfl | ⟨g0, g1, g2, g3⟩
  · refine fm_lookup (pc := 1) 28 (by decide) rfl (fm_dec dtX10_status 1 rfl) ?_
    refine fm_aloadn (pc := 28) (n := 0) 0 rfl rfl (fm_dec dtX10_status 2 rfl) ?_
    refine fm_getI (k := 0) (j := 15) (ci := 10) (pc := 29) fl_X10_363 (by decide) rfl (by decide) rfl (fm_dec dtX10_status 3 rfl) ?_
    exact fm_ireturn (pc := 32) rfl (fm_dec dtX10_status 4 rfl) (by simpa [h1, h2] using hq)
  · refine fm_lookup (pc := 1) 33 (by decide) rfl (fm_dec dtX10_status 1 rfl) ?_
    refine fm_aloadn (pc := 33) (n := 0) 0 rfl rfl (fm_dec dtX10_status 5 rfl) ?_
    refine fm_getI (k := 0) (j := 16) (ci := 10) (pc := 34) fl_X10_366 (by decide) rfl (by decide) rfl (fm_dec dtX10_status 6 rfl) ?_
    exact fm_ireturn (pc := 37) rfl (fm_dec dtX10_status 7 rfl) (by simpa [h1, h2] using hq)
  · refine fm_lookup (pc := 1) 38 (by decide) (by simp [Op.lookupswitch.offset, Ne.symm g2, Ne.symm g3]) (fm_dec dtX10_status 1 rfl) ?_
    refine fm_iconst (pc := 38) (v := (-1)) (by decide) (fm_dec dtX10_status 8 rfl) ?_
    exact fm_ireturn (pc := 39) rfl (fm_dec dtX10_status 9 rfl) (by simpa [g0, g1] using hq)

set_option maxRecDepth 20000 in
theorem x_count {l : Launch} {G : fmG} {M : fmM} {Q : fmR → fmM → Prop} (hst : l.stackTraces = false) (w : Int32) (h1 : M.1 0 13 = 0) (h2 : M.1 1 1 = 0) (h3 : M.1 46 2 = 0) (hq : Q (.inl (some (.int (if w = 0 ∨ w = 1 ∨ w = 2 then 0 else -1)))) M) : fmGood Tx l G 0 qX10_count [.ref (G.1 0), .int w] M Q := by
  refine fmGood_of hst (by decide +kernel) (Nat.le_of_ble_eq_true rfl) ?_
  show fmEv Tx l G 0 qX10_count 0 [some (.ref (G.1 0)), some (.int w)] [] M Q
  refine fm_iloadn (pc := 0) (n := 1) 1 rfl rfl (fm_dec dtX10_count 0 rfl) ?_
  rcases sw4 w with rfl | rfl | rfl | ⟨g0, g1, g2, g3⟩
  · refine fm_table (pc := 1) 28 (by decide) rfl (fm_dec dtX10_count 1 rfl) ?_
    refine fm_aloadn (pc := 28) (n := 0) 0 rfl rfl (fm_dec dtX10_count 2 rfl) ?_
    refine fm_getI (k := 0) (j := 13) (ci := 10) (pc := 29) fl_X10_129 (by decide) rfl (by decide) rfl (fm_dec dtX10_count 3 rfl) ?_
    exact fm_ireturn (pc := 32) rfl (fm_dec dtX10_count 4 rfl) (by simpa [h1, h2, h3] using hq)
  · refine fm_table (pc := 1) 33 (by decide) rfl (fm_dec dtX10_count 1 rfl) ?_
    refine fm_aloadn (pc := 33) (n := 0) 0 rfl rfl (fm_dec dtX10_count 5 rfl) ?_
    refine fm_getR (k := 0) (j := 0) (ci := 10) (pc := 34) 1 rfl fl_X10_12 (by decide) rfl (by decide) (by decide) (fm_dec dtX10_count 6 rfl) ?_
    refine fm_getI (k := 1) (j := 1) (ci := 7) (pc := 37) fl_X10_100 (by decide) rfl (by decide) rfl (fm_dec dtX10_count 7 rfl) ?_
    exact fm_ireturn (pc := 40) rfl (fm_dec dtX10_count 8 rfl) (by simpa [h1, h2, h3] using hq)
  · refine fm_table (pc := 1) 41 (by decide) rfl (fm_dec dtX10_count 1 rfl) ?_
    refine fm_aloadn (pc := 41) (n := 0) 0 rfl rfl (fm_dec dtX10_count 9 rfl) ?_
    refine fm_getR (k := 0) (j := 9) (ci := 10) (pc := 42) 46 rfl fl_X10_75 (by decide) rfl (by decide) (by decide) (fm_dec dtX10_count 10 rfl) ?_
    refine fm_getI (k := 46) (j := 2) (ci := 5) (pc := 45) fl_X10_126 (by decide) rfl (by decide) rfl (fm_dec dtX10_count 11 rfl) ?_
    exact fm_ireturn (pc := 48) rfl (fm_dec dtX10_count 12 rfl) (by simpa [h1, h2, h3] using hq)
  · refine fm_table (pc := 1) 49 (by decide) (by unfold fmTsw; rw [if_pos g3]; rfl) (fm_dec dtX10_count 1 rfl) ?_
    refine fm_iconst (pc := 49) (v := (-1)) (by decide) (fm_dec dtX10_count 13 rfl) ?_
    exact fm_ireturn (pc := 50) rfl (fm_dec dtX10_count 14 rfl) (by simpa [g0, g1, g2] using hq)

set_option maxRecDepth 20000 in
theorem x_fault {l : Launch} {G : fmG} {M : fmM} {Q : fmR → fmM → Prop} (hst : l.stackTraces = false)  (h1 : M.1 1 5 = -1) (hq : Q (.inl (some (.int (-1)))) M) : fmGood Tx l G 0 qX10_fault [.ref (G.1 0)] M Q := by
  refine fmGood_of hst (by decide +kernel) (Nat.le_of_ble_eq_true rfl) ?_
  show fmEv Tx l G 0 qX10_fault 0 [some (.ref (G.1 0))] [] M Q
  refine fm_aloadn (pc := 0) (n := 0) 0 rfl rfl (fm_dec dtX10_fault 0 rfl) ?_
  refine fm_getR (k := 0) (j := 0) (ci := 10) (pc := 1) 1 rfl fl_X10_12 (by decide) rfl (by decide) (by decide) (fm_dec dtX10_fault 1 rfl) ?_
  refine fm_getI (k := 1) (j := 5) (ci := 7) (pc := 4) fl_X10_163 (by decide) rfl (by decide) rfl (fm_dec dtX10_fault 2 rfl) ?_
  exact fm_ireturn (pc := 7) rfl (fm_dec dtX10_fault 3 rfl) (by rw [h1]; exact hq)

set_option maxRecDepth 20000 in
theorem x_undo {l : Launch} {G : fmG} {M : fmM} {Q : fmR → fmM → Prop} (hst : l.stackTraces = false)  (h1 : M.1 46 2 = 0) (hq : Q (.inl (some (.int (-1)))) M) : fmGood Tx l G 2 qX10_undo [.ref (G.1 0)] M Q := by
  refine fmGood_of hst (by decide +kernel) (Nat.le_of_ble_eq_true rfl) ?_
  show fmEv Tx l G 2 qX10_undo 0 [some (.ref (G.1 0))] [] M Q
  refine fm_aloadn (pc := 0) (n := 0) 0 rfl rfl (fm_dec dtX10_undo 0 rfl) ?_
  refine fm_getR (k := 0) (j := 9) (ci := 10) (pc := 1) 46 rfl fl_X10_75 (by decide) rfl (by decide) (by decide) (fm_dec dtX10_undo 1 rfl) ?_
  refine fm_getI (k := 46) (j := 2) (ci := 5) (pc := 4) fl_X10_126 (by decide) rfl (by decide) rfl (fm_dec dtX10_undo 2 rfl) ?_
  refine fm_if_gt (pc := 7) 12 (by decide) (fm_dec dtX10_undo 3 rfl) (fun hc7 => by exfalso; rw [h1] at hc7; exact absurd hc7 (by decide)) (fun _ => ?_)
  refine fm_iconst (pc := 10) (v := (-1)) (by decide) (fm_dec dtX10_undo 4 rfl) ?_
  exact fm_ireturn (pc := 11) rfl (fm_dec dtX10_undo 5 rfl) hq

set_option maxRecDepth 20000 in
theorem x_restore {l : Launch} {G : fmG} {M : fmM} {Q : fmR → fmM → Prop} (hst : l.stackTraces = false)  (h1 : M.1 0 13 = 0) (hq : Q (.inl (some (.int (-1)))) M) : fmGood Tx l G 2 qX10_restore [.ref (G.1 0)] M Q := by
  refine fmGood_of hst (by decide +kernel) (Nat.le_of_ble_eq_true rfl) ?_
  show fmEv Tx l G 2 qX10_restore 0 [some (.ref (G.1 0))] [] M Q
  refine fm_aloadn (pc := 0) (n := 0) 0 rfl rfl (fm_dec dtX10_restore 0 rfl) ?_
  refine fm_getI (k := 0) (j := 13) (ci := 10) (pc := 1) fl_X10_129 (by decide) rfl (by decide) rfl (fm_dec dtX10_restore 1 rfl) ?_
  refine fm_if_gt (pc := 4) 9 (by decide) (fm_dec dtX10_restore 2 rfl) (fun hc4 => by exfalso; rw [h1] at hc4; exact absurd hc4 (by decide)) (fun _ => ?_)
  refine fm_iconst (pc := 7) (v := (-1)) (by decide) (fm_dec dtX10_restore 3 rfl) ?_
  exact fm_ireturn (pc := 8) rfl (fm_dec dtX10_restore 4 rfl) hq

set_option maxRecDepth 20000 in
theorem c_cps_83_47 {l : Launch} {G : fmG} {M : fmM} {Q : fmR → fmM → Prop} (hst : l.stackTraces = false)  (hq : ∀ M', (∀ k, k ≠ 83 → k ≠ 84 → M'.1 k = M.1 k) → (∀ k, k ≠ 83 → M'.2 k = M.2 k) → M'.1 83 1 = M.1 47 1 → M'.1 83 2 = M.1 47 2 → M'.1 83 3 = M.1 47 3 → M'.1 83 4 = M.1 47 4 → M'.1 83 5 = M.1 47 5 → M'.2 83 6 = M.2 47 6 → Q (.inl none) M') : fmGood Tx l G 0 qX6_copyFrom [.ref (G.1 83), .ref (G.1 47)] M Q := by
  refine fmGood_of hst (by decide +kernel) (Nat.le_of_ble_eq_true rfl) ?_
  show fmEv Tx l G 0 qX6_copyFrom 0 [some (.ref (G.1 83)), some (.ref (G.1 47))] [] M Q
  refine fm_aloadn (pc := 0) (n := 1) 1 rfl rfl (fm_dec dtX6_copyFrom 0 rfl) ?_
  refine fm_getR (k := 47) (j := 0) (ci := 6) (pc := 1) 48 rfl fl_X6_9 (by decide) rfl (by decide) (by decide) (fm_dec dtX6_copyFrom 1 rfl) ?_
  refine fm_iconst (pc := 4) (v := 0) (by decide) (fm_dec dtX6_copyFrom 2 rfl) ?_
  refine fm_aloadn (pc := 5) (n := 0) 0 rfl rfl (fm_dec dtX6_copyFrom 3 rfl) ?_
  refine fm_getR (k := 83) (j := 0) (ci := 6) (pc := 6) 84 rfl fl_X6_9 (by decide) rfl (by decide) (by decide) (fm_dec dtX6_copyFrom 4 rfl) ?_
  refine fm_iconst (pc := 9) (v := 0) (by decide) (fm_dec dtX6_copyFrom 5 rfl) ?_
  refine fm_bipush (pc := 10) (v := 8) (by decide) (fm_dec dtX6_copyFrom 6 rfl) ?_
  refine fm_copy (k0 := 48) (k1 := 84) (n0 := 8) (n1 := 8) (pc := 12) ca_X6_20 na_copy (by decide) rfl rfl (by decide) rfl rfl (by decide) (by decide) (by decide) (by decide) (by decide) (Nat.le_of_ble_eq_true rfl) (fm_dec dtX6_copyFrom 7 rfl) ?_
  refine fm_aloadn (pc := 15) (n := 0) 0 rfl rfl (fm_dec dtX6_copyFrom 8 rfl) ?_
  refine fm_aloadn (pc := 16) (n := 1) 1 rfl rfl (fm_dec dtX6_copyFrom 9 rfl) ?_
  refine fm_getI (k := 47) (j := 1) (ci := 6) (pc := 17) fl_X6_26 (by decide) rfl (by decide) rfl (fm_dec dtX6_copyFrom 10 rfl) ?_
  refine fm_putI (k := 83) (j := 1) (ci := 6) (pc := 20) fl_X6_26 (by decide) rfl (by decide) rfl rfl (fm_dec dtX6_copyFrom 11 rfl) ?_
  refine fm_aloadn (pc := 23) (n := 0) 0 rfl rfl (fm_dec dtX6_copyFrom 12 rfl) ?_
  refine fm_aloadn (pc := 24) (n := 1) 1 rfl rfl (fm_dec dtX6_copyFrom 13 rfl) ?_
  refine fm_getI (k := 47) (j := 2) (ci := 6) (pc := 25) fl_X6_30 (by decide) rfl (by decide) rfl (fm_dec dtX6_copyFrom 14 rfl) ?_
  refine fm_putI (k := 83) (j := 2) (ci := 6) (pc := 28) fl_X6_30 (by decide) rfl (by decide) rfl rfl (fm_dec dtX6_copyFrom 15 rfl) ?_
  refine fm_aloadn (pc := 31) (n := 0) 0 rfl rfl (fm_dec dtX6_copyFrom 16 rfl) ?_
  refine fm_aloadn (pc := 32) (n := 1) 1 rfl rfl (fm_dec dtX6_copyFrom 17 rfl) ?_
  refine fm_getI (k := 47) (j := 3) (ci := 6) (pc := 33) fl_X6_36 (by decide) rfl (by decide) rfl (fm_dec dtX6_copyFrom 18 rfl) ?_
  refine fm_putI (k := 83) (j := 3) (ci := 6) (pc := 36) fl_X6_36 (by decide) rfl (by decide) rfl rfl (fm_dec dtX6_copyFrom 19 rfl) ?_
  refine fm_aloadn (pc := 39) (n := 0) 0 rfl rfl (fm_dec dtX6_copyFrom 20 rfl) ?_
  refine fm_aloadn (pc := 40) (n := 1) 1 rfl rfl (fm_dec dtX6_copyFrom 21 rfl) ?_
  refine fm_getI (k := 47) (j := 4) (ci := 6) (pc := 41) fl_X6_39 (by decide) rfl (by decide) rfl (fm_dec dtX6_copyFrom 22 rfl) ?_
  refine fm_putI (k := 83) (j := 4) (ci := 6) (pc := 44) fl_X6_39 (by decide) rfl (by decide) rfl rfl (fm_dec dtX6_copyFrom 23 rfl) ?_
  refine fm_aloadn (pc := 47) (n := 0) 0 rfl rfl (fm_dec dtX6_copyFrom 24 rfl) ?_
  refine fm_aloadn (pc := 48) (n := 1) 1 rfl rfl (fm_dec dtX6_copyFrom 25 rfl) ?_
  refine fm_getI (k := 47) (j := 5) (ci := 6) (pc := 49) fl_X6_42 (by decide) rfl (by decide) rfl (fm_dec dtX6_copyFrom 26 rfl) ?_
  refine fm_putI (k := 83) (j := 5) (ci := 6) (pc := 52) fl_X6_42 (by decide) rfl (by decide) rfl rfl (fm_dec dtX6_copyFrom 27 rfl) ?_
  refine fm_aloadn (pc := 55) (n := 0) 0 rfl rfl (fm_dec dtX6_copyFrom 28 rfl) ?_
  refine fm_aloadn (pc := 56) (n := 1) 1 rfl rfl (fm_dec dtX6_copyFrom 29 rfl) ?_
  refine fm_getJ (k := 47) (j := 6) (ci := 6) (pc := 57) fl_X6_45 (by decide) rfl (by decide) rfl (fm_dec dtX6_copyFrom 30 rfl) ?_
  refine fm_putJ (k := 83) (j := 6) (ci := 6) (pc := 60) fl_X6_45 (by decide) rfl (by decide) rfl rfl (fm_dec dtX6_copyFrom 31 rfl) ?_
  exact fm_return (pc := 63) rfl (fm_dec dtX6_copyFrom 32 rfl) (hq _ (by intro k h1 h2; simp [fmI, fmJ, fmA, h1, h2]) (by intro k h1; simp [fmI, fmJ, fmA, h1]) (by simp [fmI, fmJ, fmA, upd, vp_updL]) (by simp [fmI, fmJ, fmA, upd, vp_updL]) (by simp [fmI, fmJ, fmA, upd, vp_updL]) (by simp [fmI, fmJ, fmA, upd, vp_updL]) (by simp [fmI, fmJ, fmA, upd, vp_updL]) (by simp [fmI, fmJ, fmA, upd, vp_updL]))

set_option maxRecDepth 20000 in
theorem c_cps_50_47 {l : Launch} {G : fmG} {M : fmM} {Q : fmR → fmM → Prop} (hst : l.stackTraces = false)  (hq : ∀ M', (∀ k, k ≠ 50 → k ≠ 66 → M'.1 k = M.1 k) → (∀ k, k ≠ 50 → M'.2 k = M.2 k) → M'.1 50 1 = M.1 47 1 → M'.1 50 2 = M.1 47 2 → M'.1 50 3 = M.1 47 3 → M'.1 50 4 = M.1 47 4 → M'.1 50 5 = M.1 47 5 → M'.2 50 6 = M.2 47 6 → Q (.inl none) M') : fmGood Tx l G 0 qX6_copyFrom [.ref (G.1 50), .ref (G.1 47)] M Q := by
  refine fmGood_of hst (by decide +kernel) (Nat.le_of_ble_eq_true rfl) ?_
  show fmEv Tx l G 0 qX6_copyFrom 0 [some (.ref (G.1 50)), some (.ref (G.1 47))] [] M Q
  refine fm_aloadn (pc := 0) (n := 1) 1 rfl rfl (fm_dec dtX6_copyFrom 0 rfl) ?_
  refine fm_getR (k := 47) (j := 0) (ci := 6) (pc := 1) 48 rfl fl_X6_9 (by decide) rfl (by decide) (by decide) (fm_dec dtX6_copyFrom 1 rfl) ?_
  refine fm_iconst (pc := 4) (v := 0) (by decide) (fm_dec dtX6_copyFrom 2 rfl) ?_
  refine fm_aloadn (pc := 5) (n := 0) 0 rfl rfl (fm_dec dtX6_copyFrom 3 rfl) ?_
  refine fm_getR (k := 50) (j := 0) (ci := 6) (pc := 6) 66 rfl fl_X6_9 (by decide) rfl (by decide) (by decide) (fm_dec dtX6_copyFrom 4 rfl) ?_
  refine fm_iconst (pc := 9) (v := 0) (by decide) (fm_dec dtX6_copyFrom 5 rfl) ?_
  refine fm_bipush (pc := 10) (v := 8) (by decide) (fm_dec dtX6_copyFrom 6 rfl) ?_
  refine fm_copy (k0 := 48) (k1 := 66) (n0 := 8) (n1 := 8) (pc := 12) ca_X6_20 na_copy (by decide) rfl rfl (by decide) rfl rfl (by decide) (by decide) (by decide) (by decide) (by decide) (Nat.le_of_ble_eq_true rfl) (fm_dec dtX6_copyFrom 7 rfl) ?_
  refine fm_aloadn (pc := 15) (n := 0) 0 rfl rfl (fm_dec dtX6_copyFrom 8 rfl) ?_
  refine fm_aloadn (pc := 16) (n := 1) 1 rfl rfl (fm_dec dtX6_copyFrom 9 rfl) ?_
  refine fm_getI (k := 47) (j := 1) (ci := 6) (pc := 17) fl_X6_26 (by decide) rfl (by decide) rfl (fm_dec dtX6_copyFrom 10 rfl) ?_
  refine fm_putI (k := 50) (j := 1) (ci := 6) (pc := 20) fl_X6_26 (by decide) rfl (by decide) rfl rfl (fm_dec dtX6_copyFrom 11 rfl) ?_
  refine fm_aloadn (pc := 23) (n := 0) 0 rfl rfl (fm_dec dtX6_copyFrom 12 rfl) ?_
  refine fm_aloadn (pc := 24) (n := 1) 1 rfl rfl (fm_dec dtX6_copyFrom 13 rfl) ?_
  refine fm_getI (k := 47) (j := 2) (ci := 6) (pc := 25) fl_X6_30 (by decide) rfl (by decide) rfl (fm_dec dtX6_copyFrom 14 rfl) ?_
  refine fm_putI (k := 50) (j := 2) (ci := 6) (pc := 28) fl_X6_30 (by decide) rfl (by decide) rfl rfl (fm_dec dtX6_copyFrom 15 rfl) ?_
  refine fm_aloadn (pc := 31) (n := 0) 0 rfl rfl (fm_dec dtX6_copyFrom 16 rfl) ?_
  refine fm_aloadn (pc := 32) (n := 1) 1 rfl rfl (fm_dec dtX6_copyFrom 17 rfl) ?_
  refine fm_getI (k := 47) (j := 3) (ci := 6) (pc := 33) fl_X6_36 (by decide) rfl (by decide) rfl (fm_dec dtX6_copyFrom 18 rfl) ?_
  refine fm_putI (k := 50) (j := 3) (ci := 6) (pc := 36) fl_X6_36 (by decide) rfl (by decide) rfl rfl (fm_dec dtX6_copyFrom 19 rfl) ?_
  refine fm_aloadn (pc := 39) (n := 0) 0 rfl rfl (fm_dec dtX6_copyFrom 20 rfl) ?_
  refine fm_aloadn (pc := 40) (n := 1) 1 rfl rfl (fm_dec dtX6_copyFrom 21 rfl) ?_
  refine fm_getI (k := 47) (j := 4) (ci := 6) (pc := 41) fl_X6_39 (by decide) rfl (by decide) rfl (fm_dec dtX6_copyFrom 22 rfl) ?_
  refine fm_putI (k := 50) (j := 4) (ci := 6) (pc := 44) fl_X6_39 (by decide) rfl (by decide) rfl rfl (fm_dec dtX6_copyFrom 23 rfl) ?_
  refine fm_aloadn (pc := 47) (n := 0) 0 rfl rfl (fm_dec dtX6_copyFrom 24 rfl) ?_
  refine fm_aloadn (pc := 48) (n := 1) 1 rfl rfl (fm_dec dtX6_copyFrom 25 rfl) ?_
  refine fm_getI (k := 47) (j := 5) (ci := 6) (pc := 49) fl_X6_42 (by decide) rfl (by decide) rfl (fm_dec dtX6_copyFrom 26 rfl) ?_
  refine fm_putI (k := 50) (j := 5) (ci := 6) (pc := 52) fl_X6_42 (by decide) rfl (by decide) rfl rfl (fm_dec dtX6_copyFrom 27 rfl) ?_
  refine fm_aloadn (pc := 55) (n := 0) 0 rfl rfl (fm_dec dtX6_copyFrom 28 rfl) ?_
  refine fm_aloadn (pc := 56) (n := 1) 1 rfl rfl (fm_dec dtX6_copyFrom 29 rfl) ?_
  refine fm_getJ (k := 47) (j := 6) (ci := 6) (pc := 57) fl_X6_45 (by decide) rfl (by decide) rfl (fm_dec dtX6_copyFrom 30 rfl) ?_
  refine fm_putJ (k := 50) (j := 6) (ci := 6) (pc := 60) fl_X6_45 (by decide) rfl (by decide) rfl rfl (fm_dec dtX6_copyFrom 31 rfl) ?_
  exact fm_return (pc := 63) rfl (fm_dec dtX6_copyFrom 32 rfl) (hq _ (by intro k h1 h2; simp [fmI, fmJ, fmA, h1, h2]) (by intro k h1; simp [fmI, fmJ, fmA, h1]) (by simp [fmI, fmJ, fmA, upd, vp_updL]) (by simp [fmI, fmJ, fmA, upd, vp_updL]) (by simp [fmI, fmJ, fmA, upd, vp_updL]) (by simp [fmI, fmJ, fmA, upd, vp_updL]) (by simp [fmI, fmJ, fmA, upd, vp_updL]) (by simp [fmI, fmJ, fmA, upd, vp_updL]))

set_option maxRecDepth 20000 in
theorem c_cps_41_47 {l : Launch} {G : fmG} {M : fmM} {Q : fmR → fmM → Prop} (hst : l.stackTraces = false)  (hq : ∀ M', (∀ k, k ≠ 41 → k ≠ 42 → M'.1 k = M.1 k) → (∀ k, k ≠ 41 → M'.2 k = M.2 k) → M'.1 41 1 = M.1 47 1 → M'.1 41 2 = M.1 47 2 → M'.1 41 3 = M.1 47 3 → M'.1 41 4 = M.1 47 4 → M'.1 41 5 = M.1 47 5 → M'.2 41 6 = M.2 47 6 → Q (.inl none) M') : fmGood Tx l G 0 qX6_copyFrom [.ref (G.1 41), .ref (G.1 47)] M Q := by
  refine fmGood_of hst (by decide +kernel) (Nat.le_of_ble_eq_true rfl) ?_
  show fmEv Tx l G 0 qX6_copyFrom 0 [some (.ref (G.1 41)), some (.ref (G.1 47))] [] M Q
  refine fm_aloadn (pc := 0) (n := 1) 1 rfl rfl (fm_dec dtX6_copyFrom 0 rfl) ?_
  refine fm_getR (k := 47) (j := 0) (ci := 6) (pc := 1) 48 rfl fl_X6_9 (by decide) rfl (by decide) (by decide) (fm_dec dtX6_copyFrom 1 rfl) ?_
  refine fm_iconst (pc := 4) (v := 0) (by decide) (fm_dec dtX6_copyFrom 2 rfl) ?_
  refine fm_aloadn (pc := 5) (n := 0) 0 rfl rfl (fm_dec dtX6_copyFrom 3 rfl) ?_
  refine fm_getR (k := 41) (j := 0) (ci := 6) (pc := 6) 42 rfl fl_X6_9 (by decide) rfl (by decide) (by decide) (fm_dec dtX6_copyFrom 4 rfl) ?_
  refine fm_iconst (pc := 9) (v := 0) (by decide) (fm_dec dtX6_copyFrom 5 rfl) ?_
  refine fm_bipush (pc := 10) (v := 8) (by decide) (fm_dec dtX6_copyFrom 6 rfl) ?_
  refine fm_copy (k0 := 48) (k1 := 42) (n0 := 8) (n1 := 8) (pc := 12) ca_X6_20 na_copy (by decide) rfl rfl (by decide) rfl rfl (by decide) (by decide) (by decide) (by decide) (by decide) (Nat.le_of_ble_eq_true rfl) (fm_dec dtX6_copyFrom 7 rfl) ?_
  refine fm_aloadn (pc := 15) (n := 0) 0 rfl rfl (fm_dec dtX6_copyFrom 8 rfl) ?_
  refine fm_aloadn (pc := 16) (n := 1) 1 rfl rfl (fm_dec dtX6_copyFrom 9 rfl) ?_
  refine fm_getI (k := 47) (j := 1) (ci := 6) (pc := 17) fl_X6_26 (by decide) rfl (by decide) rfl (fm_dec dtX6_copyFrom 10 rfl) ?_
  refine fm_putI (k := 41) (j := 1) (ci := 6) (pc := 20) fl_X6_26 (by decide) rfl (by decide) rfl rfl (fm_dec dtX6_copyFrom 11 rfl) ?_
  refine fm_aloadn (pc := 23) (n := 0) 0 rfl rfl (fm_dec dtX6_copyFrom 12 rfl) ?_
  refine fm_aloadn (pc := 24) (n := 1) 1 rfl rfl (fm_dec dtX6_copyFrom 13 rfl) ?_
  refine fm_getI (k := 47) (j := 2) (ci := 6) (pc := 25) fl_X6_30 (by decide) rfl (by decide) rfl (fm_dec dtX6_copyFrom 14 rfl) ?_
  refine fm_putI (k := 41) (j := 2) (ci := 6) (pc := 28) fl_X6_30 (by decide) rfl (by decide) rfl rfl (fm_dec dtX6_copyFrom 15 rfl) ?_
  refine fm_aloadn (pc := 31) (n := 0) 0 rfl rfl (fm_dec dtX6_copyFrom 16 rfl) ?_
  refine fm_aloadn (pc := 32) (n := 1) 1 rfl rfl (fm_dec dtX6_copyFrom 17 rfl) ?_
  refine fm_getI (k := 47) (j := 3) (ci := 6) (pc := 33) fl_X6_36 (by decide) rfl (by decide) rfl (fm_dec dtX6_copyFrom 18 rfl) ?_
  refine fm_putI (k := 41) (j := 3) (ci := 6) (pc := 36) fl_X6_36 (by decide) rfl (by decide) rfl rfl (fm_dec dtX6_copyFrom 19 rfl) ?_
  refine fm_aloadn (pc := 39) (n := 0) 0 rfl rfl (fm_dec dtX6_copyFrom 20 rfl) ?_
  refine fm_aloadn (pc := 40) (n := 1) 1 rfl rfl (fm_dec dtX6_copyFrom 21 rfl) ?_
  refine fm_getI (k := 47) (j := 4) (ci := 6) (pc := 41) fl_X6_39 (by decide) rfl (by decide) rfl (fm_dec dtX6_copyFrom 22 rfl) ?_
  refine fm_putI (k := 41) (j := 4) (ci := 6) (pc := 44) fl_X6_39 (by decide) rfl (by decide) rfl rfl (fm_dec dtX6_copyFrom 23 rfl) ?_
  refine fm_aloadn (pc := 47) (n := 0) 0 rfl rfl (fm_dec dtX6_copyFrom 24 rfl) ?_
  refine fm_aloadn (pc := 48) (n := 1) 1 rfl rfl (fm_dec dtX6_copyFrom 25 rfl) ?_
  refine fm_getI (k := 47) (j := 5) (ci := 6) (pc := 49) fl_X6_42 (by decide) rfl (by decide) rfl (fm_dec dtX6_copyFrom 26 rfl) ?_
  refine fm_putI (k := 41) (j := 5) (ci := 6) (pc := 52) fl_X6_42 (by decide) rfl (by decide) rfl rfl (fm_dec dtX6_copyFrom 27 rfl) ?_
  refine fm_aloadn (pc := 55) (n := 0) 0 rfl rfl (fm_dec dtX6_copyFrom 28 rfl) ?_
  refine fm_aloadn (pc := 56) (n := 1) 1 rfl rfl (fm_dec dtX6_copyFrom 29 rfl) ?_
  refine fm_getJ (k := 47) (j := 6) (ci := 6) (pc := 57) fl_X6_45 (by decide) rfl (by decide) rfl (fm_dec dtX6_copyFrom 30 rfl) ?_
  refine fm_putJ (k := 41) (j := 6) (ci := 6) (pc := 60) fl_X6_45 (by decide) rfl (by decide) rfl rfl (fm_dec dtX6_copyFrom 31 rfl) ?_
  exact fm_return (pc := 63) rfl (fm_dec dtX6_copyFrom 32 rfl) (hq _ (by intro k h1 h2; simp [fmI, fmJ, fmA, h1, h2]) (by intro k h1; simp [fmI, fmJ, fmA, h1]) (by simp [fmI, fmJ, fmA, upd, vp_updL]) (by simp [fmI, fmJ, fmA, upd, vp_updL]) (by simp [fmI, fmJ, fmA, upd, vp_updL]) (by simp [fmI, fmJ, fmA, upd, vp_updL]) (by simp [fmI, fmJ, fmA, upd, vp_updL]) (by simp [fmI, fmJ, fmA, upd, vp_updL]))

set_option maxRecDepth 20000 in
theorem c_shelf82 {l : Launch} {G : fmG} {M : fmM} {Q : fmR → fmM → Prop} (hst : l.stackTraces = false)  (h1 : M.1 46 2 = 0) (hq : ∀ M', M'.1 0 = M.1 0 → Q (.inl none) M') : fmGood Tx l G 1 qX5_copyFrom [.ref (G.1 82), .ref (G.1 46)] M Q := by
  refine fmGood_of hst (by decide +kernel) (Nat.le_of_ble_eq_true rfl) ?_
  show fmEv Tx l G 1 qX5_copyFrom 0 [some (.ref (G.1 82)), some (.ref (G.1 46)), none] [] M Q
  refine fm_aloadn (pc := 0) (n := 0) 0 rfl rfl (fm_dec dtX5_copyFrom 0 rfl) ?_
  refine fm_getR (k := 82) (j := 0) (ci := 5) (pc := 1) 83 rfl fl_X5_12 (by decide) rfl (by decide) (by decide) (fm_dec dtX5_copyFrom 1 rfl) ?_
  refine fm_aloadn (pc := 4) (n := 1) 1 rfl rfl (fm_dec dtX5_copyFrom 2 rfl) ?_
  refine fm_getR (k := 46) (j := 0) (ci := 5) (pc := 5) 47 rfl fl_X5_12 (by decide) rfl (by decide) (by decide) (fm_dec dtX5_copyFrom 3 rfl) ?_
  refine fm_invV1 (k := 83) (d' := 0) (pc := 8) cv_X5_26 (by decide) rfl (Nat.le_of_ble_eq_true rfl) (by decide) (fm_dec dtX5_copyFrom 4 rfl) ?_
  refine c_cps_83_47 hst (fun M8 hf8 hg8 e18 e28 e38 e48 e58 e68 => ?_)
  refine fm_then0 ?_
  refine fm_aloadn (pc := 11) (n := 0) 0 rfl rfl (fm_dec dtX5_copyFrom 5 rfl) ?_
  refine fm_aloadn (pc := 12) (n := 1) 1 rfl rfl (fm_dec dtX5_copyFrom 6 rfl) ?_
  refine fm_getI (k := 46) (j := 2) (ci := 5) (pc := 13) fl_X5_22 (by decide) rfl (by decide) rfl (fm_dec dtX5_copyFrom 7 rfl) ?_
  refine fm_putI (k := 82) (j := 2) (ci := 5) (pc := 16) fl_X5_22 (by decide) rfl (by decide) rfl rfl (fm_dec dtX5_copyFrom 8 rfl) ?_
  refine fm_iconst (pc := 19) (v := 0) (by decide) (fm_dec dtX5_copyFrom 9 rfl) ?_
  refine fm_istoren (pc := 20) (n := 2) 2 rfl (by decide) rfl (fm_dec dtX5_copyFrom 10 rfl) ?_
  dsimp only [List.set_cons_zero, List.set_cons_succ]
  refine fm_iloadn (pc := 21) (n := 2) 2 rfl rfl (fm_dec dtX5_copyFrom 11 rfl) ?_
  refine fm_aloadn (pc := 22) (n := 0) 0 rfl rfl (fm_dec dtX5_copyFrom 12 rfl) ?_
  refine fm_getI (k := 82) (j := 2) (ci := 5) (pc := 23) fl_X5_22 (by decide) rfl (by decide) rfl (fm_dec dtX5_copyFrom 13 rfl) ?_
  refine fm_icmp_ge (pc := 26) 56 (by decide) (fm_dec dtX5_copyFrom 14 rfl) (fun _ => ?_) (fun hc26 => by exfalso; exact hc26 (by simp [fmI, upd, hf8, h1]))
  exact fm_return (pc := 56) rfl (fm_dec dtX5_copyFrom 29 rfl) (hq _ (by simp [fmI, hf8]))

set_option maxRecDepth 20000 in
theorem x_image {l : Launch} {G : fmG} {M : fmM} {Q : fmR → fmM → Prop} (hst : l.stackTraces = false)  (h1 : M.1 0 13 = 0) (h3 : M.1 46 2 = 0) (hq : ∀ M', Q (.inl (some (.int 1))) M') : fmGood Tx l G 2 qX10_image [.ref (G.1 0)] M Q := by
  refine fmGood_of hst (by decide +kernel) (Nat.le_of_ble_eq_true rfl) ?_
  show fmEv Tx l G 2 qX10_image 0 [some (.ref (G.1 0))] [] M Q
  refine fm_aloadn (pc := 0) (n := 0) 0 rfl rfl (fm_dec dtX10_image 0 rfl) ?_
  refine fm_getI (k := 0) (j := 13) (ci := 10) (pc := 1) fl_X10_129 (by decide) rfl (by decide) rfl (fm_dec dtX10_image 1 rfl) ?_
  refine fm_iconst (pc := 4) (v := 3) (by decide) (fm_dec dtX10_image 2 rfl) ?_
  refine fm_icmp_lt (pc := 5) 10 (by decide) (fm_dec dtX10_image 3 rfl) (fun _ => ?_) (fun hc5 => by exfalso; exact hc5 (by rw [h1]; decide))
  refine fm_aloadn (pc := 10) (n := 0) 0 rfl rfl (fm_dec dtX10_image 6 rfl) ?_
  refine fm_getR (k := 0) (j := 10) (ci := 10) (pc := 11) 43 rfl fl_X10_79 (by decide) rfl (by decide) (by decide) (fm_dec dtX10_image 7 rfl) ?_
  refine fm_aloadn (pc := 14) (n := 0) 0 rfl rfl (fm_dec dtX10_image 8 rfl) ?_
  refine fm_getI (k := 0) (j := 13) (ci := 10) (pc := 15) fl_X10_129 (by decide) rfl (by decide) rfl (fm_dec dtX10_image 9 rfl) ?_
  refine fm_aald (k := 43) (n := 3) (kd := 3) (r := 82) (pc := 18) (by decide) rfl (Or.inl ⟨rfl, rfl⟩) rfl (by rw [h1]; exact fm_inl (by decide)) (by rw [h1]; rfl) (fm_dec dtX10_image 10 rfl) ?_
  refine fm_aloadn (pc := 19) (n := 0) 0 rfl rfl (fm_dec dtX10_image 11 rfl) ?_
  refine fm_getR (k := 0) (j := 9) (ci := 10) (pc := 20) 46 rfl fl_X10_75 (by decide) rfl (by decide) (by decide) (fm_dec dtX10_image 12 rfl) ?_
  refine fm_invV1 (k := 82) (d' := 1) (pc := 23) cv_X10_360 (by decide) rfl (Nat.le_of_ble_eq_true rfl) (by decide) (fm_dec dtX10_image 13 rfl) ?_
  refine c_shelf82 hst h3 (fun M23 hf23 => ?_)
  refine fm_then0 ?_
  refine fm_aloadn (pc := 26) (n := 0) 0 rfl rfl (fm_dec dtX10_image 14 rfl) ?_
  refine fm_dup (pc := 27) rfl (fm_dec dtX10_image 15 rfl) ?_
  refine fm_getI (k := 0) (j := 13) (ci := 10) (pc := 28) fl_X10_129 (by decide) rfl (by decide) rfl (fm_dec dtX10_image 16 rfl) ?_
  refine fm_iconst (pc := 31) (v := 1) (by decide) (fm_dec dtX10_image 17 rfl) ?_
  refine fm_iadd (pc := 32) (fm_dec dtX10_image 18 rfl) ?_
  refine fm_putI (k := 0) (j := 13) (ci := 10) (pc := 33) fl_X10_129 (by decide) rfl (by decide) rfl rfl (fm_dec dtX10_image 19 rfl) ?_
  refine fm_aloadn (pc := 36) (n := 0) 0 rfl rfl (fm_dec dtX10_image 20 rfl) ?_
  refine fm_getI (k := 0) (j := 13) (ci := 10) (pc := 37) fl_X10_129 (by decide) rfl (by decide) rfl (fm_dec dtX10_image 21 rfl) ?_
  exact fm_ireturn (pc := 40) rfl (fm_dec dtX10_image 22 rfl) (by have hq := hq (fmI M23 0 13 (M23.1 0 13 + 1)); simpa [fmI, upd, hf23, h1] using hq)
