theorem fm_kill {T : fmT} {l : Launch} {G : fmG} {d : Nat} {y : fmY} {pc : Nat} {L : List (Option Value)} {st : List Value} {M : fmM} {Q : fmR → fmM → Prop} (i : Nat) (k : fmEv T l G d y pc (L.set i none) st M Q) : fmEv T l G d y pc L st M Q := fm_less (fun j v h => by
  rw [List.getElem?_set] at h
  by_cases e : i = j
  · subst e
    simp only [if_true] at h
    split at h <;> simp at h
  · simp only [e, if_false] at h
    exact h) k
theorem lg_00 : lg_cmp 0 0 = 0 := by decide
theorem lg_pos {x : Int64} (h : 0 < x) : ¬ lg_cmp x 0 ≤ 0 := by
  unfold lg_cmp
  rw [if_pos (show x > 0 from h)]
  decide

set_option maxRecDepth 20000 in
theorem c_termOf0 {l : Launch} {G : fmG} {M : fmM} {Q : fmR → fmM → Prop} (hst : l.stackTraces = false) (b : Int64) (p : Int32) (hb : 0 < b) (hd : b / b = 1) (hq : Q (.inl (some (.long (if p = 0 then 0 else 1)))) M) : fmGood Tx l G 0 qX10_termOf [.long 0, .long b, .int p] M Q := by
  refine fmGood_of hst (by decide +kernel) (Nat.le_of_ble_eq_true rfl) ?_
  show fmEv Tx l G 0 qX10_termOf 0 [some (.long 0), none, some (.long b), none, some (.int p), none, none, none, none, none, none, none] [] M Q
  refine fm_lloadn (pc := 0) (n := 0) 0 rfl rfl (fm_dec dtX10_termOf 0 rfl) ?_
  refine fm_lstore (pc := 1) (i := 5) (by decide) rfl (fm_dec dtX10_termOf 1 rfl) ?_
  dsimp only [List.set_cons_zero, List.set_cons_succ]
  refine fm_lloadn (pc := 3) (n := 2) 2 rfl rfl (fm_dec dtX10_termOf 2 rfl) ?_
  refine fm_lstore (pc := 4) (i := 7) (by decide) rfl (fm_dec dtX10_termOf 3 rfl) ?_
  dsimp only [List.set_cons_zero, List.set_cons_succ]
  refine fm_iconst (pc := 6) (v := 0) (by decide) (fm_dec dtX10_termOf 4 rfl) ?_
  refine fm_istore (pc := 7) (i := 9) (by decide) rfl (fm_dec dtX10_termOf 5 rfl) ?_
  dsimp only [List.set_cons_zero, List.set_cons_succ]
  refine fm_iload (pc := 9) (i := 9) rfl (fm_dec dtX10_termOf 6 rfl) ?_
  refine fm_sipush (pc := 11) (v := 200) (by decide) (fm_dec dtX10_termOf 7 rfl) ?_
  refine fm_icmp_ge (pc := 14) 45 (by decide) (fm_dec dtX10_termOf 8 rfl) (fun hc14 => by exfalso; exact absurd hc14 (by decide)) (fun _ => ?_)
  refine fm_lload (pc := 17) (i := 5) rfl (fm_dec dtX10_termOf 9 rfl) ?_
  refine fm_lconst (pc := 19) (v := 0) (by decide) (fm_dec dtX10_termOf 10 rfl) ?_
  refine fm_lcmp (pc := 20) (fm_dec dtX10_termOf 11 rfl) ?_
  refine fm_if_eq (pc := 21) 45 (by decide) (fm_dec dtX10_termOf 12 rfl) (fun _ => ?_) (fun hc21 => by exfalso; exact hc21 lg_00)
  refine fm_lload (pc := 45) (i := 7) rfl (fm_dec dtX10_termOf 23 rfl) ?_
  refine fm_lconst (pc := 47) (v := 0) (by decide) (fm_dec dtX10_termOf 24 rfl) ?_
  refine fm_lcmp (pc := 48) (fm_dec dtX10_termOf 25 rfl) ?_
  refine fm_if_le (pc := 49) 57 (by decide) (fm_dec dtX10_termOf 26 rfl) (fun hc49 => by exfalso; exact lg_pos hb hc49) (fun _ => ?_)
  refine fm_lload (pc := 52) (i := 7) rfl (fm_dec dtX10_termOf 27 rfl) ?_
  refine fm_goto (pc := 54) 58 (by decide) (fm_dec dtX10_termOf 28 rfl) ?_
  refine fm_lstore (pc := 58) (i := 9) (by decide) rfl (fm_dec dtX10_termOf 30 rfl) ?_
  dsimp only [List.set_cons_zero, List.set_cons_succ]
  refine fm_iload (pc := 60) (i := 4) rfl (fm_dec dtX10_termOf 31 rfl) ?_
  refine fm_if_ne (pc := 62) 69 (by decide) (fm_dec dtX10_termOf 32 rfl) (fun hc62 => ?_) (fun hc62 => ?_)
  · refine fm_lloadn (pc := 69) (n := 2) 2 rfl rfl (fm_dec dtX10_termOf 35 rfl) ?_
    refine fm_lload (pc := 70) (i := 9) rfl (fm_dec dtX10_termOf 36 rfl) ?_
    refine fm_ldiv (pc := 72) (fun q => by rw [q] at hb; exact absurd hb (by decide)) (fm_dec dtX10_termOf 37 rfl) ?_
    exact fm_lreturn (pc := 73) rfl (fm_dec dtX10_termOf 38 rfl) (by first | (rw [if_pos hc62] at hq; rw [show (0 : Int64) / b = 0 from Int64.zero_div]; exact hq) | (rw [if_neg hc62] at hq; rw [hd]; exact hq))
  · refine fm_lloadn (pc := 65) (n := 0) 0 rfl rfl (fm_dec dtX10_termOf 33 rfl) ?_
    refine fm_goto (pc := 66) 70 (by decide) (fm_dec dtX10_termOf 34 rfl) ?_
    refine fm_lload (pc := 70) (i := 9) rfl (fm_dec dtX10_termOf 36 rfl) ?_
    refine fm_ldiv (pc := 72) (fun q => by rw [q] at hb; exact absurd hb (by decide)) (fm_dec dtX10_termOf 37 rfl) ?_
    exact fm_lreturn (pc := 73) rfl (fm_dec dtX10_termOf 38 rfl) (by first | (rw [if_pos hc62] at hq; rw [show (0 : Int64) / b = 0 from Int64.zero_div]; exact hq) | (rw [if_neg hc62] at hq; rw [hd]; exact hq))

set_option maxRecDepth 20000 in
theorem x_loss {l : Launch} {G : fmG} {M : fmM} {Q : fmR → fmM → Prop} (hst : l.stackTraces = false) (p : Int32) (h6 : M.2 47 6 = 0) (hq : inR p 0 1 → Q (.inl (some (.long (if p = 0 then 0 else 1)))) M) (hx : ∀ M', ¬ (inR p 0 1) → Q (.inr fmIAE) M') : fmGood Tx l G 2 qX10_loss [.ref (G.1 0), .int p] M Q := by
  refine fmGood_of hst (by decide +kernel) (Nat.le_of_ble_eq_true rfl) ?_
  show fmEv Tx l G 2 qX10_loss 0 [some (.ref (G.1 0)), some (.int p)] [] M Q
  refine fm_aloadn (pc := 0) (n := 0) 0 rfl rfl (fm_dec dtX10_loss 0 rfl) ?_
  refine fm_iloadn (pc := 1) (n := 1) 1 rfl rfl (fm_dec dtX10_loss 1 rfl) ?_
  refine fm_invV1 (k := 0) (d' := 1) (pc := 2) cv_X10_244 (by decide) rfl (Nat.le_of_ble_eq_true rfl) (by decide) (fm_dec dtX10_loss 2 rfl) ?_
  refine c_needPart hst _ (fun hi2 => ?_) (fun _ hx2 => ?_)
  · refine fm_then0 ?_
    refine fm_aloadn (pc := 5) (n := 0) 0 rfl rfl (fm_dec dtX10_loss 3 rfl) ?_
    refine fm_getR (k := 0) (j := 9) (ci := 10) (pc := 6) 46 rfl fl_X10_75 (by decide) rfl (by decide) (by decide) (fm_dec dtX10_loss 4 rfl) ?_
    refine fm_getR (k := 46) (j := 0) (ci := 5) (pc := 9) 47 rfl fl_X10_90 (by decide) rfl (by decide) (by decide) (fm_dec dtX10_loss 5 rfl) ?_
    refine fm_getJ (k := 47) (j := 6) (ci := 6) (pc := 12) fl_X10_247 (by decide) rfl (by decide) rfl (fm_dec dtX10_loss 6 rfl) ?_
    rw [h6]
    refine fm_ldc2 (pc := 15) kc_X10_251 (fm_dec dtX10_loss 7 rfl) ?_
    refine fm_iloadn (pc := 18) (n := 1) 1 rfl rfl (fm_dec dtX10_loss 8 rfl) ?_
    refine fm_invS3 (d' := 0) (pc := 19) cs_X10_253 (Nat.le_of_ble_eq_true rfl) (by decide) (fm_dec dtX10_loss 9 rfl) ?_
    refine c_termOf0 hst _ _ (by decide) (by decide) ?_
    refine fm_then1 ?_
    exact fm_lreturn (pc := 22) rfl (fm_dec dtX10_loss 10 rfl) (hq hi2)
  · refine fm_thenX ?_
    exact hx _ hx2

set_option maxRecDepth 20000 in
theorem x_risk {l : Launch} {G : fmG} {M : fmM} {Q : fmR → fmM → Prop} (hst : l.stackTraces = false) (p : Int32) (hl : M.1 3 9 = 0) (hq : inR p 0 1 → Q (.inl (some (.long (if p = 0 then 0 else 1)))) M) (hx : ∀ M', ¬ (inR p 0 1) → Q (.inr fmIAE) M') : fmGood Tx l G 5 qX10_risk [.ref (G.1 0), .int p] M Q := by
  refine fmGood_of hst (by decide +kernel) (Nat.le_of_ble_eq_true rfl) ?_
  show fmEv Tx l G 5 qX10_risk 0 [some (.ref (G.1 0)), some (.int p)] [] M Q
  refine fm_aloadn (pc := 0) (n := 0) 0 rfl rfl (fm_dec dtX10_risk 0 rfl) ?_
  refine fm_iloadn (pc := 1) (n := 1) 1 rfl rfl (fm_dec dtX10_risk 1 rfl) ?_
  refine fm_invV1 (k := 0) (d' := 1) (pc := 2) cv_X10_244 (by decide) rfl (Nat.le_of_ble_eq_true rfl) (by decide) (fm_dec dtX10_risk 2 rfl) ?_
  refine c_needPart hst _ (fun hi2 => ?_) (fun _ hx2 => ?_)
  · refine fm_then0 ?_
    refine fm_aloadn (pc := 5) (n := 0) 0 rfl rfl (fm_dec dtX10_risk 3 rfl) ?_
    refine fm_getR (k := 0) (j := 6) (ci := 10) (pc := 6) 32 rfl fl_X10_52 (by decide) rfl (by decide) (by decide) (fm_dec dtX10_risk 4 rfl) ?_
    refine fm_aloadn (pc := 9) (n := 0) 0 rfl rfl (fm_dec dtX10_risk 5 rfl) ?_
    refine fm_getR (k := 0) (j := 9) (ci := 10) (pc := 10) 46 rfl fl_X10_75 (by decide) rfl (by decide) (by decide) (fm_dec dtX10_risk 6 rfl) ?_
    refine fm_getR (k := 46) (j := 0) (ci := 5) (pc := 13) 47 rfl fl_X10_90 (by decide) rfl (by decide) (by decide) (fm_dec dtX10_risk 7 rfl) ?_
    refine fm_iconst (pc := 16) (v := 0) (by decide) (fm_dec dtX10_risk 8 rfl) ?_
    refine fm_invV2 (k := 32) (d' := 4) (pc := 17) cv_X10_261 (by decide) rfl (Nat.le_of_ble_eq_true rfl) (by decide) (fm_dec dtX10_risk 9 rfl) ?_
    refine c_riskWhen0 hst _ hl ?_
    refine fm_then1 ?_
    refine fm_ldc2 (pc := 20) kc_X10_265 (fm_dec dtX10_risk 10 rfl) ?_
    refine fm_iloadn (pc := 23) (n := 1) 1 rfl rfl (fm_dec dtX10_risk 11 rfl) ?_
    refine fm_invS3 (d' := 0) (pc := 24) cs_X10_253 (Nat.le_of_ble_eq_true rfl) (by decide) (fm_dec dtX10_risk 12 rfl) ?_
    refine c_termOf0 hst _ _ (by decide) (by decide) ?_
    refine fm_then1 ?_
    exact fm_lreturn (pc := 27) rfl (fm_dec dtX10_risk 13 rfl) (hq hi2)
  · refine fm_thenX ?_
    exact hx _ hx2

set_option maxRecDepth 20000 in
theorem c_aheadMost0 {l : Launch} {G : fmG} {M : fmM} {Q : fmR → fmM → Prop} (hst : l.stackTraces = false)  (h1 : M.1 47 2 = 0) (hq : Q (.inl (some (.int 60))) M) : fmGood Tx l G 1 qX10_aheadMost [.ref (G.1 0)] M Q := by
  refine fmGood_of hst (by decide +kernel) (Nat.le_of_ble_eq_true rfl) ?_
  show fmEv Tx l G 1 qX10_aheadMost 0 [some (.ref (G.1 0))] [] M Q
  refine fm_bipush (pc := 0) (v := 60) (by decide) (fm_dec dtX10_aheadMost 0 rfl) ?_
  refine fm_sipush (pc := 2) (v := 200) (by decide) (fm_dec dtX10_aheadMost 1 rfl) ?_
  refine fm_aloadn (pc := 5) (n := 0) 0 rfl rfl (fm_dec dtX10_aheadMost 2 rfl) ?_
  refine fm_getR (k := 0) (j := 9) (ci := 10) (pc := 6) 46 rfl fl_X10_75 (by decide) rfl (by decide) (by decide) (fm_dec dtX10_aheadMost 3 rfl) ?_
  refine fm_getR (k := 46) (j := 0) (ci := 5) (pc := 9) 47 rfl fl_X10_90 (by decide) rfl (by decide) (by decide) (fm_dec dtX10_aheadMost 4 rfl) ?_
  refine fm_getI (k := 47) (j := 2) (ci := 6) (pc := 12) fl_X10_173 (by decide) rfl (by decide) rfl (fm_dec dtX10_aheadMost 5 rfl) ?_
  refine fm_isub (pc := 15) (fm_dec dtX10_aheadMost 6 rfl) ?_
  refine fm_mmin (pc := 16) cs_X10_352 (Nat.le_of_ble_eq_true rfl) (fm_dec dtX10_aheadMost 7 rfl) ?_
  rw [h1]
  rw [show (if (200 : Int32) - 0 < 60 then (200 : Int32) - 0 else 60) = 60 by decide]
  exact fm_ireturn (pc := 19) rfl (fm_dec dtX10_aheadMost 8 rfl) hq

set_option maxRecDepth 20000 in
theorem x_ahead {l : Launch} {G : fmG} {M : fmM} {Q : fmR → fmM → Prop} (hst : l.stackTraces = false) (w p : Int32) (hl : M.1 3 9 = 0) (h1 : M.1 47 2 = 0) (hq : inR w 0 60 → inR p 0 1 → Q (.inl (some (.long (if p = 0 then 0 else 1)))) M) (hx : ∀ M', ¬ (inR w 0 60 ∧ inR p 0 1) → Q (.inr fmIAE) M') : fmGood Tx l G 5 qX10_ahead [.ref (G.1 0), .int w, .int p] M Q := by
  refine fmGood_of hst (by decide +kernel) (Nat.le_of_ble_eq_true rfl) ?_
  show fmEv Tx l G 5 qX10_ahead 0 [some (.ref (G.1 0)), some (.int w), some (.int p)] [] M Q
  refine fm_aloadn (pc := 0) (n := 0) 0 rfl rfl (fm_dec dtX10_ahead 0 rfl) ?_
  refine fm_iloadn (pc := 1) (n := 1) 1 rfl rfl (fm_dec dtX10_ahead 1 rfl) ?_
  refine fm_iconst (pc := 2) (v := 0) (by decide) (fm_dec dtX10_ahead 2 rfl) ?_
  refine fm_aloadn (pc := 3) (n := 0) 0 rfl rfl (fm_dec dtX10_ahead 3 rfl) ?_
  refine fm_invV0 (k := 0) (d' := 1) (pc := 4) cv_X10_277 (by decide) rfl (Nat.le_of_ble_eq_true rfl) (by decide) (fm_dec dtX10_ahead 4 rfl) ?_
  refine c_aheadMost0 hst h1 ?_
  refine fm_then1 ?_
  refine fm_invV3 (k := 0) (d' := 0) (pc := 7) cv_X10_169 (by decide) rfl (Nat.le_of_ble_eq_true rfl) (by decide) (fm_dec dtX10_ahead 5 rfl) ?_
  refine c_needWithin hst _ _ _ (fun hi7 => ?_) (fun hx7 => ?_)
  · refine fm_then0 ?_
    refine fm_aloadn (pc := 10) (n := 0) 0 rfl rfl (fm_dec dtX10_ahead 6 rfl) ?_
    refine fm_iloadn (pc := 11) (n := 2) 2 rfl rfl (fm_dec dtX10_ahead 7 rfl) ?_
    refine fm_invV1 (k := 0) (d' := 1) (pc := 12) cv_X10_244 (by decide) rfl (Nat.le_of_ble_eq_true rfl) (by decide) (fm_dec dtX10_ahead 8 rfl) ?_
    refine c_needPart hst _ (fun hi12 => ?_) (fun _ hx12 => ?_)
    · refine fm_then0 ?_
      refine fm_aloadn (pc := 15) (n := 0) 0 rfl rfl (fm_dec dtX10_ahead 9 rfl) ?_
      refine fm_getR (k := 0) (j := 6) (ci := 10) (pc := 16) 32 rfl fl_X10_52 (by decide) rfl (by decide) (by decide) (fm_dec dtX10_ahead 10 rfl) ?_
      refine fm_aloadn (pc := 19) (n := 0) 0 rfl rfl (fm_dec dtX10_ahead 11 rfl) ?_
      refine fm_getR (k := 0) (j := 9) (ci := 10) (pc := 20) 46 rfl fl_X10_75 (by decide) rfl (by decide) (by decide) (fm_dec dtX10_ahead 12 rfl) ?_
      refine fm_getR (k := 46) (j := 0) (ci := 5) (pc := 23) 47 rfl fl_X10_90 (by decide) rfl (by decide) (by decide) (fm_dec dtX10_ahead 13 rfl) ?_
      refine fm_iloadn (pc := 26) (n := 1) 1 rfl rfl (fm_dec dtX10_ahead 14 rfl) ?_
      refine fm_invV2 (k := 32) (d' := 4) (pc := 27) cv_X10_261 (by decide) rfl (Nat.le_of_ble_eq_true rfl) (by decide) (fm_dec dtX10_ahead 15 rfl) ?_
      refine c_riskWhen0 hst _ hl ?_
      refine fm_then1 ?_
      refine fm_ldc2 (pc := 30) kc_X10_265 (fm_dec dtX10_ahead 16 rfl) ?_
      refine fm_iloadn (pc := 33) (n := 2) 2 rfl rfl (fm_dec dtX10_ahead 17 rfl) ?_
      refine fm_invS3 (d' := 0) (pc := 34) cs_X10_253 (Nat.le_of_ble_eq_true rfl) (by decide) (fm_dec dtX10_ahead 18 rfl) ?_
      refine c_termOf0 hst _ _ (by decide) (by decide) ?_
      refine fm_then1 ?_
      exact fm_lreturn (pc := 37) rfl (fm_dec dtX10_ahead 19 rfl) (hq hi7 hi12)
    · refine fm_thenX ?_
      exact hx _ (fun h => by first | exact hx12 h.1 | exact hx12 h.2)
  · refine fm_thenX ?_
    exact hx _ (fun h => by first | exact hx7 h.1 | exact hx7 h.2)

set_option maxRecDepth 20000 in
theorem wo_loop {l : Launch} {G : fmG} {Q : fmR → fmM → Prop} (hst : l.stackTraces = false) {M : fmM} (hl : M.1 3 9 = 0) (h1 : M.1 47 2 = 0) (hq : Q (.inl (some (.int 0))) M) : ∀ (n i : Nat), i + n = 61 → fmEv Tx l G 5 qX10_worst 9 [some (.ref (G.1 0)), some (.int 0), some (.long 0), none, some (.int (nI i)), none, none] [] M Q := by
  intro n
  induction n with
  | zero =>
    intro i hi
    have e : i = 61 := by omega
    subst e
    refine fm_iload (pc := 9) (i := 4) rfl (fm_dec dtX10_worst 6 rfl) ?_
    refine fm_aloadn (pc := 11) (n := 0) 0 rfl rfl (fm_dec dtX10_worst 7 rfl) ?_
    refine fm_invV0 (k := 0) (d' := 1) (pc := 12) cv_X10_277 (by decide) rfl (Nat.le_of_ble_eq_true rfl) (by decide) (fm_dec dtX10_worst 8 rfl) ?_
    refine c_aheadMost0 hst h1 ?_
    refine fm_then1 ?_
    refine fm_icmp_gt (pc := 15) 55 (by decide) (fm_dec dtX10_worst 9 rfl) (fun _ => ?_) (fun hc15 => by exfalso; exact hc15 (by decide))
    refine fm_iloadn (pc := 55) (n := 1) 1 rfl rfl (fm_dec dtX10_worst 28 rfl) ?_
    exact fm_ireturn (pc := 56) rfl (fm_dec dtX10_worst 29 rfl) hq
  | succ n ih =>
    intro i hi
    refine fm_iload (pc := 9) (i := 4) rfl (fm_dec dtX10_worst 6 rfl) ?_
    refine fm_aloadn (pc := 11) (n := 0) 0 rfl rfl (fm_dec dtX10_worst 7 rfl) ?_
    refine fm_invV0 (k := 0) (d' := 1) (pc := 12) cv_X10_277 (by decide) rfl (Nat.le_of_ble_eq_true rfl) (by decide) (fm_dec dtX10_worst 8 rfl) ?_
    refine c_aheadMost0 hst h1 ?_
    refine fm_then1 ?_
    refine fm_icmp_gt (pc := 15) 55 (by decide) (fm_dec dtX10_worst 9 rfl) (fun hc15 => by exfalso; exact absurd hc15 (by rw [show (60 : Int32) = nI 60 by decide]; exact nI_nlt (by omega) (by decide))) (fun _ => ?_)
    refine fm_aloadn (pc := 18) (n := 0) 0 rfl rfl (fm_dec dtX10_worst 10 rfl) ?_
    refine fm_getR (k := 0) (j := 6) (ci := 10) (pc := 19) 32 rfl fl_X10_52 (by decide) rfl (by decide) (by decide) (fm_dec dtX10_worst 11 rfl) ?_
    refine fm_aloadn (pc := 22) (n := 0) 0 rfl rfl (fm_dec dtX10_worst 12 rfl) ?_
    refine fm_getR (k := 0) (j := 9) (ci := 10) (pc := 23) 46 rfl fl_X10_75 (by decide) rfl (by decide) (by decide) (fm_dec dtX10_worst 13 rfl) ?_
    refine fm_getR (k := 46) (j := 0) (ci := 5) (pc := 26) 47 rfl fl_X10_90 (by decide) rfl (by decide) (by decide) (fm_dec dtX10_worst 14 rfl) ?_
    refine fm_iload (pc := 29) (i := 4) rfl (fm_dec dtX10_worst 15 rfl) ?_
    refine fm_invV2 (k := 32) (d' := 4) (pc := 31) cv_X10_261 (by decide) rfl (Nat.le_of_ble_eq_true rfl) (by decide) (fm_dec dtX10_worst 16 rfl) ?_
    refine c_riskWhen0 hst _ hl ?_
    refine fm_then1 ?_
    refine fm_lstore (pc := 34) (i := 5) (by decide) rfl (fm_dec dtX10_worst 17 rfl) ?_
    dsimp only [List.set_cons_zero, List.set_cons_succ]
    refine fm_lload (pc := 36) (i := 5) rfl (fm_dec dtX10_worst 18 rfl) ?_
    refine fm_lloadn (pc := 38) (n := 2) 2 rfl rfl (fm_dec dtX10_worst 19 rfl) ?_
    refine fm_lcmp (pc := 39) (fm_dec dtX10_worst 20 rfl) ?_
    refine fm_if_le (pc := 40) 49 (by decide) (fm_dec dtX10_worst 21 rfl) (fun _ => ?_) (fun hc40 => by exfalso; exact hc40 (by decide))
    refine fm_iincc (pc := 49) 4 1 (by decide) rfl (by decide) rfl (fm_dec dtX10_worst 26 rfl) ?_
    dsimp only [List.set_cons_zero, List.set_cons_succ]
    refine fm_goto (pc := 52) 9 (by decide) (fm_dec dtX10_worst 27 rfl) ?_
    rw [show nI i + 1 = nI (i + 1) from nI_1 i]
    refine fm_less ?_ (ih (i + 1) (by omega))
    intro k v hk
    match k, hk with
    | 0, hk => exact hk
    | 1, hk => exact hk
    | 2, hk => exact hk
    | 3, hk => simp at hk
    | 4, hk => exact hk
    | 5, hk => simp at hk
    | 6, hk => simp at hk
    | k + 7, hk => simp at hk

set_option maxRecDepth 20000 in
theorem x_worst {l : Launch} {G : fmG} {M : fmM} {Q : fmR → fmM → Prop} (hst : l.stackTraces = false)  (hl : M.1 3 9 = 0) (h1 : M.1 47 2 = 0) (hq : Q (.inl (some (.int 0))) M) : fmGood Tx l G 5 qX10_worst [.ref (G.1 0)] M Q := by
  refine fmGood_of hst (by decide +kernel) (Nat.le_of_ble_eq_true rfl) ?_
  show fmEv Tx l G 5 qX10_worst 0 [some (.ref (G.1 0)), none, none, none, none, none, none] [] M Q
  refine fm_iconst (pc := 0) (v := 0) (by decide) (fm_dec dtX10_worst 0 rfl) ?_
  refine fm_istoren (pc := 1) (n := 1) 1 rfl (by decide) rfl (fm_dec dtX10_worst 1 rfl) ?_
  dsimp only [List.set_cons_zero, List.set_cons_succ]
  refine fm_ldc2 (pc := 2) kc_X10_281 (fm_dec dtX10_worst 2 rfl) ?_
  refine fm_lstoren (pc := 5) (n := 2) 2 rfl (by decide) rfl (fm_dec dtX10_worst 3 rfl) ?_
  dsimp only [List.set_cons_zero, List.set_cons_succ]
  refine fm_iconst (pc := 6) (v := 0) (by decide) (fm_dec dtX10_worst 4 rfl) ?_
  refine fm_istore (pc := 7) (i := 4) (by decide) rfl (fm_dec dtX10_worst 5 rfl) ?_
  dsimp only [List.set_cons_zero, List.set_cons_succ]
  refine fm_iload (pc := 9) (i := 4) rfl (fm_dec dtX10_worst 6 rfl) ?_
  refine fm_aloadn (pc := 11) (n := 0) 0 rfl rfl (fm_dec dtX10_worst 7 rfl) ?_
  refine fm_invV0 (k := 0) (d' := 1) (pc := 12) cv_X10_277 (by decide) rfl (Nat.le_of_ble_eq_true rfl) (by decide) (fm_dec dtX10_worst 8 rfl) ?_
  refine c_aheadMost0 hst h1 ?_
  refine fm_then1 ?_
  refine fm_icmp_gt (pc := 15) 55 (by decide) (fm_dec dtX10_worst 9 rfl) (fun hc15 => by exfalso; exact absurd hc15 (by decide)) (fun _ => ?_)
  refine fm_aloadn (pc := 18) (n := 0) 0 rfl rfl (fm_dec dtX10_worst 10 rfl) ?_
  refine fm_getR (k := 0) (j := 6) (ci := 10) (pc := 19) 32 rfl fl_X10_52 (by decide) rfl (by decide) (by decide) (fm_dec dtX10_worst 11 rfl) ?_
  refine fm_aloadn (pc := 22) (n := 0) 0 rfl rfl (fm_dec dtX10_worst 12 rfl) ?_
  refine fm_getR (k := 0) (j := 9) (ci := 10) (pc := 23) 46 rfl fl_X10_75 (by decide) rfl (by decide) (by decide) (fm_dec dtX10_worst 13 rfl) ?_
  refine fm_getR (k := 46) (j := 0) (ci := 5) (pc := 26) 47 rfl fl_X10_90 (by decide) rfl (by decide) (by decide) (fm_dec dtX10_worst 14 rfl) ?_
  refine fm_iload (pc := 29) (i := 4) rfl (fm_dec dtX10_worst 15 rfl) ?_
  refine fm_invV2 (k := 32) (d' := 4) (pc := 31) cv_X10_261 (by decide) rfl (Nat.le_of_ble_eq_true rfl) (by decide) (fm_dec dtX10_worst 16 rfl) ?_
  refine c_riskWhen0 hst _ hl ?_
  refine fm_then1 ?_
  refine fm_lstore (pc := 34) (i := 5) (by decide) rfl (fm_dec dtX10_worst 17 rfl) ?_
  dsimp only [List.set_cons_zero, List.set_cons_succ]
  refine fm_lload (pc := 36) (i := 5) rfl (fm_dec dtX10_worst 18 rfl) ?_
  refine fm_lloadn (pc := 38) (n := 2) 2 rfl rfl (fm_dec dtX10_worst 19 rfl) ?_
  refine fm_lcmp (pc := 39) (fm_dec dtX10_worst 20 rfl) ?_
  refine fm_if_le (pc := 40) 49 (by decide) (fm_dec dtX10_worst 21 rfl) (fun hc40 => by exfalso; exact absurd hc40 (by decide)) (fun _ => ?_)
  refine fm_lload (pc := 43) (i := 5) rfl (fm_dec dtX10_worst 22 rfl) ?_
  refine fm_lstoren (pc := 45) (n := 2) 2 rfl (by decide) rfl (fm_dec dtX10_worst 23 rfl) ?_
  dsimp only [List.set_cons_zero, List.set_cons_succ]
  refine fm_iload (pc := 46) (i := 4) rfl (fm_dec dtX10_worst 24 rfl) ?_
  refine fm_istoren (pc := 48) (n := 1) 1 rfl (by decide) rfl (fm_dec dtX10_worst 25 rfl) ?_
  dsimp only [List.set_cons_zero, List.set_cons_succ]
  refine fm_iincc (pc := 49) 4 1 (by decide) rfl (by decide) rfl (fm_dec dtX10_worst 26 rfl) ?_
  dsimp only [List.set_cons_zero, List.set_cons_succ]
  refine fm_goto (pc := 52) 9 (by decide) (fm_dec dtX10_worst 27 rfl) ?_
  rw [show (0 : Int32) + 1 = nI 1 by decide]
  refine fm_less ?_ (wo_loop hst hl h1 hq 60 1 (by omega))
  intro k v hk
  match k, hk with
  | 0, hk => exact hk
  | 1, hk => exact hk
  | 2, hk => exact hk
  | 3, hk => simp at hk
  | 4, hk => exact hk
  | 5, hk => simp at hk
  | 6, hk => simp at hk
  | k + 7, hk => simp at hk

def meanE (t b v x y way : Int32) : Int32 := if way = 0 then 16 * (t * v - (16 - t) * x) else if way = 1 then 16 * (t * v - (16 - t) * y) else t * (16 - b) * v
def saysE (t b v x y : Int32) : Int32 := if meanE t b v x y 0 < meanE t b v x y 1 then (if meanE t b v x y 1 < meanE t b v x y 2 then 2 else 1) else (if meanE t b v x y 0 < meanE t b v x y 2 then 2 else 0)
def lineE (b v x y : Int32) : Nat → Nat → Int32
  | 0, _ => -1
  | n + 1, t => if saysE (nI t) b v x y = 0 then nI t else lineE b v x y n (t + 1)

set_option maxRecDepth 20000 in
theorem c_meanOf {l : Launch} {G : fmG} {M : fmM} {Q : fmR → fmM → Prop} (hst : l.stackTraces = false) (t b v x y w : Int32) (hq : Q (.inl (some (.int (meanE t b v x y w)))) M) : fmGood Tx l G 0 qX10_meanOf [.int t, .int b, .int v, .int x, .int y, .int w] M Q := by
  refine fmGood_of hst (by decide +kernel) (Nat.le_of_ble_eq_true rfl) ?_
  show fmEv Tx l G 0 qX10_meanOf 0 [some (.int t), some (.int b), some (.int v), some (.int x), some (.int y), some (.int w)] [] M Q
  refine fm_iload (pc := 0) (i := 5) rfl (fm_dec dtX10_meanOf 0 rfl) ?_
  rcases sw3 w with rfl | rfl | ⟨g0, g1, g2, g3⟩
  · refine fm_lookup (pc := 2) 28 (by decide) rfl (fm_dec dtX10_meanOf 1 rfl) ?_
    refine fm_bipush (pc := 28) (v := 16) (by decide) (fm_dec dtX10_meanOf 2 rfl) ?_
    refine fm_iloadn (pc := 30) (n := 0) 0 rfl rfl (fm_dec dtX10_meanOf 3 rfl) ?_
    refine fm_iloadn (pc := 31) (n := 2) 2 rfl rfl (fm_dec dtX10_meanOf 4 rfl) ?_
    refine fm_imul (pc := 32) (fm_dec dtX10_meanOf 5 rfl) ?_
    refine fm_bipush (pc := 33) (v := 16) (by decide) (fm_dec dtX10_meanOf 6 rfl) ?_
    refine fm_iloadn (pc := 35) (n := 0) 0 rfl rfl (fm_dec dtX10_meanOf 7 rfl) ?_
    refine fm_isub (pc := 36) (fm_dec dtX10_meanOf 8 rfl) ?_
    refine fm_iloadn (pc := 37) (n := 3) 3 rfl rfl (fm_dec dtX10_meanOf 9 rfl) ?_
    refine fm_imul (pc := 38) (fm_dec dtX10_meanOf 10 rfl) ?_
    refine fm_isub (pc := 39) (fm_dec dtX10_meanOf 11 rfl) ?_
    refine fm_imul (pc := 40) (fm_dec dtX10_meanOf 12 rfl) ?_
    exact fm_ireturn (pc := 41) rfl (fm_dec dtX10_meanOf 13 rfl) (by simpa [meanE] using hq)
  · refine fm_lookup (pc := 2) 42 (by decide) rfl (fm_dec dtX10_meanOf 1 rfl) ?_
    refine fm_bipush (pc := 42) (v := 16) (by decide) (fm_dec dtX10_meanOf 14 rfl) ?_
    refine fm_iloadn (pc := 44) (n := 0) 0 rfl rfl (fm_dec dtX10_meanOf 15 rfl) ?_
    refine fm_iloadn (pc := 45) (n := 2) 2 rfl rfl (fm_dec dtX10_meanOf 16 rfl) ?_
    refine fm_imul (pc := 46) (fm_dec dtX10_meanOf 17 rfl) ?_
    refine fm_bipush (pc := 47) (v := 16) (by decide) (fm_dec dtX10_meanOf 18 rfl) ?_
    refine fm_iloadn (pc := 49) (n := 0) 0 rfl rfl (fm_dec dtX10_meanOf 19 rfl) ?_
    refine fm_isub (pc := 50) (fm_dec dtX10_meanOf 20 rfl) ?_
    refine fm_iload (pc := 51) (i := 4) rfl (fm_dec dtX10_meanOf 21 rfl) ?_
    refine fm_imul (pc := 53) (fm_dec dtX10_meanOf 22 rfl) ?_
    refine fm_isub (pc := 54) (fm_dec dtX10_meanOf 23 rfl) ?_
    refine fm_imul (pc := 55) (fm_dec dtX10_meanOf 24 rfl) ?_
    exact fm_ireturn (pc := 56) rfl (fm_dec dtX10_meanOf 25 rfl) (by simpa [meanE] using hq)
  · refine fm_lookup (pc := 2) 57 (by decide) (by simp [Op.lookupswitch.offset, Ne.symm g2, Ne.symm g3]) (fm_dec dtX10_meanOf 1 rfl) ?_
    refine fm_iloadn (pc := 57) (n := 0) 0 rfl rfl (fm_dec dtX10_meanOf 26 rfl) ?_
    refine fm_bipush (pc := 58) (v := 16) (by decide) (fm_dec dtX10_meanOf 27 rfl) ?_
    refine fm_iloadn (pc := 60) (n := 1) 1 rfl rfl (fm_dec dtX10_meanOf 28 rfl) ?_
    refine fm_isub (pc := 61) (fm_dec dtX10_meanOf 29 rfl) ?_
    refine fm_imul (pc := 62) (fm_dec dtX10_meanOf 30 rfl) ?_
    refine fm_iloadn (pc := 63) (n := 2) 2 rfl rfl (fm_dec dtX10_meanOf 31 rfl) ?_
    refine fm_imul (pc := 64) (fm_dec dtX10_meanOf 32 rfl) ?_
    exact fm_ireturn (pc := 65) rfl (fm_dec dtX10_meanOf 33 rfl) (by simpa [meanE, g0, g1] using hq)

set_option maxRecDepth 20000 in
theorem bw3 {l : Launch} {G : fmG} {Q : fmR → fmM → Prop} (hst : l.stackTraces = false) {M : fmM} (t b v x y wh mo : Int32) (hq : Q (.inl (some (.int wh))) M) : fmEv Tx l G 1 qX10_bestWay 18 [some (.int t), some (.int b), some (.int v), some (.int x), some (.int y), some (.int wh), some (.int mo), some (.int 3), none] [] M Q := by
  refine fm_iload (pc := 18) (i := 7) rfl (fm_dec dtX10_bestWay 12 rfl) ?_
  refine fm_iconst (pc := 20) (v := 2) (by decide) (fm_dec dtX10_bestWay 13 rfl) ?_
  refine fm_icmp_gt (pc := 21) 58 (by decide) (fm_dec dtX10_bestWay 14 rfl) (fun _ => ?_) (fun hc21 => by exfalso; exact hc21 (by decide))
  refine fm_iload (pc := 58) (i := 5) rfl (fm_dec dtX10_bestWay 32 rfl) ?_
  exact fm_ireturn (pc := 60) rfl (fm_dec dtX10_bestWay 33 rfl) hq

theorem i32_nle {a b : Int32} (h : ¬ a ≤ b) : b < a := by
  rw [Int32.lt_iff_toInt_lt]; rw [Int32.le_iff_toInt_le] at h; omega
theorem i32_nlt {a b : Int32} (h : a ≤ b) : ¬ b < a := by
  rw [Int32.lt_iff_toInt_lt]; rw [Int32.le_iff_toInt_le] at h; omega
set_option maxRecDepth 20000 in
theorem bw2 {l : Launch} {G : fmG} {Q : fmR → fmM → Prop} (hst : l.stackTraces = false) {M : fmM} (t b v x y wh mo : Int32) (hq : Q (.inl (some (.int (if mo < meanE t b v x y 2 then 2 else wh)))) M) : fmEv Tx l G 1 qX10_bestWay 18 [some (.int t), some (.int b), some (.int v), some (.int x), some (.int y), some (.int wh), some (.int mo), some (.int 2), none] [] M Q := by
  refine fm_iload (pc := 18) (i := 7) rfl (fm_dec dtX10_bestWay 12 rfl) ?_
  refine fm_iconst (pc := 20) (v := 2) (by decide) (fm_dec dtX10_bestWay 13 rfl) ?_
  refine fm_icmp_gt (pc := 21) 58 (by decide) (fm_dec dtX10_bestWay 14 rfl) (fun hc21 => by exfalso; exact absurd hc21 (by decide)) (fun _ => ?_)
  refine fm_iloadn (pc := 24) (n := 0) 0 rfl rfl (fm_dec dtX10_bestWay 15 rfl) ?_
  refine fm_iloadn (pc := 25) (n := 1) 1 rfl rfl (fm_dec dtX10_bestWay 16 rfl) ?_
  refine fm_iloadn (pc := 26) (n := 2) 2 rfl rfl (fm_dec dtX10_bestWay 17 rfl) ?_
  refine fm_iloadn (pc := 27) (n := 3) 3 rfl rfl (fm_dec dtX10_bestWay 18 rfl) ?_
  refine fm_iload (pc := 28) (i := 4) rfl (fm_dec dtX10_bestWay 19 rfl) ?_
  refine fm_iload (pc := 30) (i := 7) rfl (fm_dec dtX10_bestWay 20 rfl) ?_
  refine fm_invS6 (d' := 0) (pc := 32) cs_X10_312 (Nat.le_of_ble_eq_true rfl) (by decide) (fm_dec dtX10_bestWay 21 rfl) ?_
  refine c_meanOf hst _ _ _ _ _ _ ?_
  refine fm_then1 ?_
  refine fm_istore (pc := 35) (i := 8) (by decide) rfl (fm_dec dtX10_bestWay 22 rfl) ?_
  dsimp only [List.set_cons_zero, List.set_cons_succ]
  refine fm_iload (pc := 37) (i := 8) rfl (fm_dec dtX10_bestWay 23 rfl) ?_
  refine fm_iload (pc := 39) (i := 6) rfl (fm_dec dtX10_bestWay 24 rfl) ?_
  refine fm_icmp_le (pc := 41) 52 (by decide) (fm_dec dtX10_bestWay 25 rfl) (fun hc41 => ?_) (fun hc41 => ?_)
  · refine fm_iincc (pc := 52) 7 1 (by decide) rfl (by decide) rfl (fm_dec dtX10_bestWay 30 rfl) ?_
    dsimp only [List.set_cons_zero, List.set_cons_succ]
    refine fm_goto (pc := 55) 18 (by decide) (fm_dec dtX10_bestWay 31 rfl) ?_
    rw [show (2 : Int32) + 1 = 3 by decide]
    refine fm_kill 8 ?_
    dsimp only [List.set_cons_zero, List.set_cons_succ]
    exact bw3 hst t b v x y _ _ (by first | (rw [if_pos (i32_nle hc41)] at hq; exact hq) | (rw [if_neg (i32_nlt hc41)] at hq; exact hq))
  · refine fm_iload (pc := 44) (i := 8) rfl (fm_dec dtX10_bestWay 26 rfl) ?_
    refine fm_istore (pc := 46) (i := 6) (by decide) rfl (fm_dec dtX10_bestWay 27 rfl) ?_
    dsimp only [List.set_cons_zero, List.set_cons_succ]
    refine fm_iload (pc := 48) (i := 7) rfl (fm_dec dtX10_bestWay 28 rfl) ?_
    refine fm_istore (pc := 50) (i := 5) (by decide) rfl (fm_dec dtX10_bestWay 29 rfl) ?_
    dsimp only [List.set_cons_zero, List.set_cons_succ]
    refine fm_iincc (pc := 52) 7 1 (by decide) rfl (by decide) rfl (fm_dec dtX10_bestWay 30 rfl) ?_
    dsimp only [List.set_cons_zero, List.set_cons_succ]
    refine fm_goto (pc := 55) 18 (by decide) (fm_dec dtX10_bestWay 31 rfl) ?_
    rw [show (2 : Int32) + 1 = 3 by decide]
    refine fm_kill 8 ?_
    dsimp only [List.set_cons_zero, List.set_cons_succ]
    exact bw3 hst t b v x y _ _ (by first | (rw [if_pos (i32_nle hc41)] at hq; exact hq) | (rw [if_neg (i32_nlt hc41)] at hq; exact hq))

set_option maxRecDepth 20000 in
theorem bw1 {l : Launch} {G : fmG} {Q : fmR → fmM → Prop} (hst : l.stackTraces = false) {M : fmM} (t b v x y wh mo : Int32) (hq : Q (.inl (some (.int (if mo < meanE t b v x y 1 then (if meanE t b v x y 1 < meanE t b v x y 2 then 2 else 1) else (if mo < meanE t b v x y 2 then 2 else wh))))) M) : fmEv Tx l G 1 qX10_bestWay 18 [some (.int t), some (.int b), some (.int v), some (.int x), some (.int y), some (.int wh), some (.int mo), some (.int 1), none] [] M Q := by
  refine fm_iload (pc := 18) (i := 7) rfl (fm_dec dtX10_bestWay 12 rfl) ?_
  refine fm_iconst (pc := 20) (v := 2) (by decide) (fm_dec dtX10_bestWay 13 rfl) ?_
  refine fm_icmp_gt (pc := 21) 58 (by decide) (fm_dec dtX10_bestWay 14 rfl) (fun hc21 => by exfalso; exact absurd hc21 (by decide)) (fun _ => ?_)
  refine fm_iloadn (pc := 24) (n := 0) 0 rfl rfl (fm_dec dtX10_bestWay 15 rfl) ?_
  refine fm_iloadn (pc := 25) (n := 1) 1 rfl rfl (fm_dec dtX10_bestWay 16 rfl) ?_
  refine fm_iloadn (pc := 26) (n := 2) 2 rfl rfl (fm_dec dtX10_bestWay 17 rfl) ?_
  refine fm_iloadn (pc := 27) (n := 3) 3 rfl rfl (fm_dec dtX10_bestWay 18 rfl) ?_
  refine fm_iload (pc := 28) (i := 4) rfl (fm_dec dtX10_bestWay 19 rfl) ?_
  refine fm_iload (pc := 30) (i := 7) rfl (fm_dec dtX10_bestWay 20 rfl) ?_
  refine fm_invS6 (d' := 0) (pc := 32) cs_X10_312 (Nat.le_of_ble_eq_true rfl) (by decide) (fm_dec dtX10_bestWay 21 rfl) ?_
  refine c_meanOf hst _ _ _ _ _ _ ?_
  refine fm_then1 ?_
  refine fm_istore (pc := 35) (i := 8) (by decide) rfl (fm_dec dtX10_bestWay 22 rfl) ?_
  dsimp only [List.set_cons_zero, List.set_cons_succ]
  refine fm_iload (pc := 37) (i := 8) rfl (fm_dec dtX10_bestWay 23 rfl) ?_
  refine fm_iload (pc := 39) (i := 6) rfl (fm_dec dtX10_bestWay 24 rfl) ?_
  refine fm_icmp_le (pc := 41) 52 (by decide) (fm_dec dtX10_bestWay 25 rfl) (fun hc41 => ?_) (fun hc41 => ?_)
  · refine fm_iincc (pc := 52) 7 1 (by decide) rfl (by decide) rfl (fm_dec dtX10_bestWay 30 rfl) ?_
    dsimp only [List.set_cons_zero, List.set_cons_succ]
    refine fm_goto (pc := 55) 18 (by decide) (fm_dec dtX10_bestWay 31 rfl) ?_
    rw [show (1 : Int32) + 1 = 2 by decide]
    refine fm_kill 8 ?_
    dsimp only [List.set_cons_zero, List.set_cons_succ]
    exact bw2 hst t b v x y _ _ (by first | (rw [if_pos (i32_nle hc41)] at hq; exact hq) | (rw [if_neg (i32_nlt hc41)] at hq; exact hq))
  · refine fm_iload (pc := 44) (i := 8) rfl (fm_dec dtX10_bestWay 26 rfl) ?_
    refine fm_istore (pc := 46) (i := 6) (by decide) rfl (fm_dec dtX10_bestWay 27 rfl) ?_
    dsimp only [List.set_cons_zero, List.set_cons_succ]
    refine fm_iload (pc := 48) (i := 7) rfl (fm_dec dtX10_bestWay 28 rfl) ?_
    refine fm_istore (pc := 50) (i := 5) (by decide) rfl (fm_dec dtX10_bestWay 29 rfl) ?_
    dsimp only [List.set_cons_zero, List.set_cons_succ]
    refine fm_iincc (pc := 52) 7 1 (by decide) rfl (by decide) rfl (fm_dec dtX10_bestWay 30 rfl) ?_
    dsimp only [List.set_cons_zero, List.set_cons_succ]
    refine fm_goto (pc := 55) 18 (by decide) (fm_dec dtX10_bestWay 31 rfl) ?_
    rw [show (1 : Int32) + 1 = 2 by decide]
    refine fm_kill 8 ?_
    dsimp only [List.set_cons_zero, List.set_cons_succ]
    exact bw2 hst t b v x y _ _ (by first | (rw [if_pos (i32_nle hc41)] at hq; exact hq) | (rw [if_neg (i32_nlt hc41)] at hq; exact hq))

set_option maxRecDepth 20000 in
theorem c_bestWay {l : Launch} {G : fmG} {M : fmM} {Q : fmR → fmM → Prop} (hst : l.stackTraces = false) (t b v x y : Int32) (hq : Q (.inl (some (.int (saysE t b v x y)))) M) : fmGood Tx l G 1 qX10_bestWay [.int t, .int b, .int v, .int x, .int y] M Q := by
  refine fmGood_of hst (by decide +kernel) (Nat.le_of_ble_eq_true rfl) ?_
  show fmEv Tx l G 1 qX10_bestWay 0 [some (.int t), some (.int b), some (.int v), some (.int x), some (.int y), none, none, none, none] [] M Q
  refine fm_iconst (pc := 0) (v := 0) (by decide) (fm_dec dtX10_bestWay 0 rfl) ?_
  refine fm_istore (pc := 1) (i := 5) (by decide) rfl (fm_dec dtX10_bestWay 1 rfl) ?_
  dsimp only [List.set_cons_zero, List.set_cons_succ]
  refine fm_iloadn (pc := 3) (n := 0) 0 rfl rfl (fm_dec dtX10_bestWay 2 rfl) ?_
  refine fm_iloadn (pc := 4) (n := 1) 1 rfl rfl (fm_dec dtX10_bestWay 3 rfl) ?_
  refine fm_iloadn (pc := 5) (n := 2) 2 rfl rfl (fm_dec dtX10_bestWay 4 rfl) ?_
  refine fm_iloadn (pc := 6) (n := 3) 3 rfl rfl (fm_dec dtX10_bestWay 5 rfl) ?_
  refine fm_iload (pc := 7) (i := 4) rfl (fm_dec dtX10_bestWay 6 rfl) ?_
  refine fm_iconst (pc := 9) (v := 0) (by decide) (fm_dec dtX10_bestWay 7 rfl) ?_
  refine fm_invS6 (d' := 0) (pc := 10) cs_X10_312 (Nat.le_of_ble_eq_true rfl) (by decide) (fm_dec dtX10_bestWay 8 rfl) ?_
  refine c_meanOf hst _ _ _ _ _ _ ?_
  refine fm_then1 ?_
  refine fm_istore (pc := 13) (i := 6) (by decide) rfl (fm_dec dtX10_bestWay 9 rfl) ?_
  dsimp only [List.set_cons_zero, List.set_cons_succ]
  refine fm_iconst (pc := 15) (v := 1) (by decide) (fm_dec dtX10_bestWay 10 rfl) ?_
  refine fm_istore (pc := 16) (i := 7) (by decide) rfl (fm_dec dtX10_bestWay 11 rfl) ?_
  dsimp only [List.set_cons_zero, List.set_cons_succ]
  exact bw1 hst t b v x y 0 _ hq

set_option maxRecDepth 20000 in
theorem x_brings {l : Launch} {G : fmG} {M : fmM} {Q : fmR → fmM → Prop} (hst : l.stackTraces = false) (t b v x y w : Int32) (hq : inR t 0 16 → (inR b 0 16 ∧ inR v 0 999 ∧ inR x 0 999 ∧ inR y 0 999) → inR w 0 2 → Q (.inl (some (.int (meanE t b v x y w)))) M) (hx : ∀ M', ¬ (inR t 0 16 ∧ (inR b 0 16 ∧ inR v 0 999 ∧ inR x 0 999 ∧ inR y 0 999) ∧ inR w 0 2) → Q (.inr fmIAE) M') : fmGood Tx l G 2 qX10_brings [.ref (G.1 0), .int t, .int b, .int v, .int x, .int y, .int w] M Q := by
  refine fmGood_of hst (by decide +kernel) (Nat.le_of_ble_eq_true rfl) ?_
  show fmEv Tx l G 2 qX10_brings 0 [some (.ref (G.1 0)), some (.int t), some (.int b), some (.int v), some (.int x), some (.int y), some (.int w)] [] M Q
  refine fm_aloadn (pc := 0) (n := 0) 0 rfl rfl (fm_dec dtX10_brings 0 rfl) ?_
  refine fm_iloadn (pc := 1) (n := 1) 1 rfl rfl (fm_dec dtX10_brings 1 rfl) ?_
  refine fm_iconst (pc := 2) (v := 0) (by decide) (fm_dec dtX10_brings 2 rfl) ?_
  refine fm_bipush (pc := 3) (v := 16) (by decide) (fm_dec dtX10_brings 3 rfl) ?_
  refine fm_invV3 (k := 0) (d' := 0) (pc := 5) cv_X10_169 (by decide) rfl (Nat.le_of_ble_eq_true rfl) (by decide) (fm_dec dtX10_brings 4 rfl) ?_
  refine c_needWithin hst _ _ _ (fun hi5 => ?_) (fun hx5 => ?_)
  · refine fm_then0 ?_
    refine fm_aloadn (pc := 8) (n := 0) 0 rfl rfl (fm_dec dtX10_brings 5 rfl) ?_
    refine fm_iloadn (pc := 9) (n := 2) 2 rfl rfl (fm_dec dtX10_brings 6 rfl) ?_
    refine fm_iloadn (pc := 10) (n := 3) 3 rfl rfl (fm_dec dtX10_brings 7 rfl) ?_
    refine fm_iload (pc := 11) (i := 4) rfl (fm_dec dtX10_brings 8 rfl) ?_
    refine fm_iload (pc := 13) (i := 5) rfl (fm_dec dtX10_brings 9 rfl) ?_
    refine fm_invV4 (k := 0) (d' := 1) (pc := 15) cv_X10_308 (by decide) rfl (Nat.le_of_ble_eq_true rfl) (by decide) (fm_dec dtX10_brings 10 rfl) ?_
    refine c_needRumour hst _ _ _ _ (fun hb15 hv15 hx15 hy15 => ?_) (fun _ hn15 => ?_)
    · refine fm_then0 ?_
      refine fm_aloadn (pc := 18) (n := 0) 0 rfl rfl (fm_dec dtX10_brings 11 rfl) ?_
      refine fm_iload (pc := 19) (i := 6) rfl (fm_dec dtX10_brings 12 rfl) ?_
      refine fm_iconst (pc := 21) (v := 0) (by decide) (fm_dec dtX10_brings 13 rfl) ?_
      refine fm_iconst (pc := 22) (v := 2) (by decide) (fm_dec dtX10_brings 14 rfl) ?_
      refine fm_invV3 (k := 0) (d' := 0) (pc := 23) cv_X10_169 (by decide) rfl (Nat.le_of_ble_eq_true rfl) (by decide) (fm_dec dtX10_brings 15 rfl) ?_
      refine c_needWithin hst _ _ _ (fun hi23 => ?_) (fun hx23 => ?_)
      · refine fm_then0 ?_
        refine fm_iloadn (pc := 26) (n := 1) 1 rfl rfl (fm_dec dtX10_brings 16 rfl) ?_
        refine fm_iloadn (pc := 27) (n := 2) 2 rfl rfl (fm_dec dtX10_brings 17 rfl) ?_
        refine fm_iloadn (pc := 28) (n := 3) 3 rfl rfl (fm_dec dtX10_brings 18 rfl) ?_
        refine fm_iload (pc := 29) (i := 4) rfl (fm_dec dtX10_brings 19 rfl) ?_
        refine fm_iload (pc := 31) (i := 5) rfl (fm_dec dtX10_brings 20 rfl) ?_
        refine fm_iload (pc := 33) (i := 6) rfl (fm_dec dtX10_brings 21 rfl) ?_
        refine fm_invS6 (d' := 0) (pc := 35) cs_X10_312 (Nat.le_of_ble_eq_true rfl) (by decide) (fm_dec dtX10_brings 22 rfl) ?_
        refine c_meanOf hst _ _ _ _ _ _ ?_
        refine fm_then1 ?_
        exact fm_ireturn (pc := 38) rfl (fm_dec dtX10_brings 23 rfl) (hq hi5 ⟨hb15, hv15, hx15, hy15⟩ hi23)
      · refine fm_thenX ?_
        exact hx _ (fun h => by first | exact hx23 h.1 | exact hn23 h.2.1 | exact hx23 h.2.2)
    · refine fm_thenX ?_
      exact hx _ (fun h => by first | exact hx15 h.1 | exact hn15 h.2.1 | exact hx15 h.2.2)
  · refine fm_thenX ?_
    exact hx _ (fun h => by first | exact hx5 h.1 | exact hn5 h.2.1 | exact hx5 h.2.2)

set_option maxRecDepth 20000 in
theorem x_says {l : Launch} {G : fmG} {M : fmM} {Q : fmR → fmM → Prop} (hst : l.stackTraces = false) (t b v x y : Int32) (hq : inR t 0 16 → (inR b 0 16 ∧ inR v 0 999 ∧ inR x 0 999 ∧ inR y 0 999) → Q (.inl (some (.int (saysE t b v x y)))) M) (hx : ∀ M', ¬ (inR t 0 16 ∧ (inR b 0 16 ∧ inR v 0 999 ∧ inR x 0 999 ∧ inR y 0 999)) → Q (.inr fmIAE) M') : fmGood Tx l G 2 qX10_says [.ref (G.1 0), .int t, .int b, .int v, .int x, .int y] M Q := by
  refine fmGood_of hst (by decide +kernel) (Nat.le_of_ble_eq_true rfl) ?_
  show fmEv Tx l G 2 qX10_says 0 [some (.ref (G.1 0)), some (.int t), some (.int b), some (.int v), some (.int x), some (.int y)] [] M Q
  refine fm_aloadn (pc := 0) (n := 0) 0 rfl rfl (fm_dec dtX10_says 0 rfl) ?_
  refine fm_iloadn (pc := 1) (n := 1) 1 rfl rfl (fm_dec dtX10_says 1 rfl) ?_
  refine fm_iconst (pc := 2) (v := 0) (by decide) (fm_dec dtX10_says 2 rfl) ?_
  refine fm_bipush (pc := 3) (v := 16) (by decide) (fm_dec dtX10_says 3 rfl) ?_
  refine fm_invV3 (k := 0) (d' := 0) (pc := 5) cv_X10_169 (by decide) rfl (Nat.le_of_ble_eq_true rfl) (by decide) (fm_dec dtX10_says 4 rfl) ?_
  refine c_needWithin hst _ _ _ (fun hi5 => ?_) (fun hx5 => ?_)
  · refine fm_then0 ?_
    refine fm_aloadn (pc := 8) (n := 0) 0 rfl rfl (fm_dec dtX10_says 5 rfl) ?_
    refine fm_iloadn (pc := 9) (n := 2) 2 rfl rfl (fm_dec dtX10_says 6 rfl) ?_
    refine fm_iloadn (pc := 10) (n := 3) 3 rfl rfl (fm_dec dtX10_says 7 rfl) ?_
    refine fm_iload (pc := 11) (i := 4) rfl (fm_dec dtX10_says 8 rfl) ?_
    refine fm_iload (pc := 13) (i := 5) rfl (fm_dec dtX10_says 9 rfl) ?_
    refine fm_invV4 (k := 0) (d' := 1) (pc := 15) cv_X10_308 (by decide) rfl (Nat.le_of_ble_eq_true rfl) (by decide) (fm_dec dtX10_says 10 rfl) ?_
    refine c_needRumour hst _ _ _ _ (fun hb15 hv15 hx15 hy15 => ?_) (fun _ hn15 => ?_)
    · refine fm_then0 ?_
      refine fm_iloadn (pc := 18) (n := 1) 1 rfl rfl (fm_dec dtX10_says 11 rfl) ?_
      refine fm_iloadn (pc := 19) (n := 2) 2 rfl rfl (fm_dec dtX10_says 12 rfl) ?_
      refine fm_iloadn (pc := 20) (n := 3) 3 rfl rfl (fm_dec dtX10_says 13 rfl) ?_
      refine fm_iload (pc := 21) (i := 4) rfl (fm_dec dtX10_says 14 rfl) ?_
      refine fm_iload (pc := 23) (i := 5) rfl (fm_dec dtX10_says 15 rfl) ?_
      refine fm_invS5 (d' := 1) (pc := 25) cs_X10_316 (Nat.le_of_ble_eq_true rfl) (by decide) (fm_dec dtX10_says 16 rfl) ?_
      refine c_bestWay hst _ _ _ _ _ ?_
      refine fm_then1 ?_
      exact fm_ireturn (pc := 28) rfl (fm_dec dtX10_says 17 rfl) (hq hi5 ⟨hb15, hv15, hx15, hy15⟩)
    · refine fm_thenX ?_
      exact hx _ (fun h => by first | exact hx15 h.1 | exact hn15 h.2)
  · refine fm_thenX ?_
    exact hx _ (fun h => by first | exact hx5 h.1 | exact hn5 h.2)

set_option maxRecDepth 20000 in
theorem li_loop {l : Launch} {G : fmG} {Q : fmR → fmM → Prop} (hst : l.stackTraces = false) {M : fmM} (b v x y : Int32) : ∀ (n i : Nat), i + n = 17 → Q (.inl (some (.int (lineE b v x y n i)))) M → fmEv Tx l G 2 qX10_line 12 [some (.ref (G.1 0)), some (.int b), some (.int v), some (.int x), some (.int y), some (.int (nI i))] [] M Q := by
  intro n
  induction n with
  | zero =>
    intro i hi hq
    have e : i = 17 := by omega
    subst e
    refine fm_iload (pc := 12) (i := 5) rfl (fm_dec dtX10_line 8 rfl) ?_
    refine fm_bipush (pc := 14) (v := 16) (by decide) (fm_dec dtX10_line 9 rfl) ?_
    refine fm_icmp_gt (pc := 16) 41 (by decide) (fm_dec dtX10_line 10 rfl) (fun _ => ?_) (fun hc16 => by exfalso; exact hc16 (by decide))
    refine fm_iconst (pc := 41) (v := (-1)) (by decide) (fm_dec dtX10_line 22 rfl) ?_
    exact fm_ireturn (pc := 42) rfl (fm_dec dtX10_line 23 rfl) hq
  | succ n ih =>
    intro i hi hq
    refine fm_iload (pc := 12) (i := 5) rfl (fm_dec dtX10_line 8 rfl) ?_
    refine fm_bipush (pc := 14) (v := 16) (by decide) (fm_dec dtX10_line 9 rfl) ?_
    refine fm_icmp_gt (pc := 16) 41 (by decide) (fm_dec dtX10_line 10 rfl) (fun hc16 => by exfalso; exact absurd hc16 (by rw [show (16 : Int32) = nI 16 by decide]; exact nI_nlt (by omega) (by decide))) (fun _ => ?_)
    refine fm_iload (pc := 19) (i := 5) rfl (fm_dec dtX10_line 11 rfl) ?_
    refine fm_iloadn (pc := 21) (n := 1) 1 rfl rfl (fm_dec dtX10_line 12 rfl) ?_
    refine fm_iloadn (pc := 22) (n := 2) 2 rfl rfl (fm_dec dtX10_line 13 rfl) ?_
    refine fm_iloadn (pc := 23) (n := 3) 3 rfl rfl (fm_dec dtX10_line 14 rfl) ?_
    refine fm_iload (pc := 24) (i := 4) rfl (fm_dec dtX10_line 15 rfl) ?_
    refine fm_invS5 (d' := 1) (pc := 26) cs_X10_316 (Nat.le_of_ble_eq_true rfl) (by decide) (fm_dec dtX10_line 16 rfl) ?_
    refine c_bestWay hst _ _ _ _ _ ?_
    refine fm_then1 ?_
    refine fm_if_ne (pc := 29) 35 (by decide) (fm_dec dtX10_line 17 rfl) (fun hc29 => ?_) (fun hc29 => ?_)
    · refine fm_iincc (pc := 35) 5 1 (by decide) rfl (by decide) rfl (fm_dec dtX10_line 20 rfl) ?_
      dsimp only [List.set_cons_zero, List.set_cons_succ]
      refine fm_goto (pc := 38) 12 (by decide) (fm_dec dtX10_line 21 rfl) ?_
      rw [show nI i + 1 = nI (i + 1) from nI_1 i]
      exact ih (i + 1) (by omega) (by have hq := hq; simp only [lineE] at hq; rw [if_neg hc29] at hq; exact hq)
    · refine fm_iload (pc := 32) (i := 5) rfl (fm_dec dtX10_line 18 rfl) ?_
      exact fm_ireturn (pc := 34) rfl (fm_dec dtX10_line 19 rfl) (by have hq := hq; simp only [lineE] at hq; rw [if_pos hc29] at hq; exact hq)

set_option maxRecDepth 20000 in
theorem x_line {l : Launch} {G : fmG} {M : fmM} {Q : fmR → fmM → Prop} (hst : l.stackTraces = false) (b v x y : Int32) (hq : (inR b 0 16 ∧ inR v 0 999 ∧ inR x 0 999 ∧ inR y 0 999) → Q (.inl (some (.int (lineE b v x y 17 0)))) M) (hx : ∀ M', ¬ (inR b 0 16 ∧ inR v 0 999 ∧ inR x 0 999 ∧ inR y 0 999) → Q (.inr fmIAE) M') : fmGood Tx l G 2 qX10_line [.ref (G.1 0), .int b, .int v, .int x, .int y] M Q := by
  refine fmGood_of hst (by decide +kernel) (Nat.le_of_ble_eq_true rfl) ?_
  show fmEv Tx l G 2 qX10_line 0 [some (.ref (G.1 0)), some (.int b), some (.int v), some (.int x), some (.int y), none] [] M Q
  refine fm_aloadn (pc := 0) (n := 0) 0 rfl rfl (fm_dec dtX10_line 0 rfl) ?_
  refine fm_iloadn (pc := 1) (n := 1) 1 rfl rfl (fm_dec dtX10_line 1 rfl) ?_
  refine fm_iloadn (pc := 2) (n := 2) 2 rfl rfl (fm_dec dtX10_line 2 rfl) ?_
  refine fm_iloadn (pc := 3) (n := 3) 3 rfl rfl (fm_dec dtX10_line 3 rfl) ?_
  refine fm_iload (pc := 4) (i := 4) rfl (fm_dec dtX10_line 4 rfl) ?_
  refine fm_invV4 (k := 0) (d' := 1) (pc := 6) cv_X10_308 (by decide) rfl (Nat.le_of_ble_eq_true rfl) (by decide) (fm_dec dtX10_line 5 rfl) ?_
  refine c_needRumour hst _ _ _ _ (fun hb6 hv6 hx6 hy6 => ?_) (fun _ hn6 => ?_)
  · refine fm_then0 ?_
    refine fm_iconst (pc := 9) (v := 0) (by decide) (fm_dec dtX10_line 6 rfl) ?_
    refine fm_istore (pc := 10) (i := 5) (by decide) rfl (fm_dec dtX10_line 7 rfl) ?_
    dsimp only [List.set_cons_zero, List.set_cons_succ]
    exact li_loop hst b v x y 17 0 (by omega) (hq ⟨hb6, hv6, hx6, hy6⟩)
  · refine fm_thenX ?_
    exact hx _ hn6
