set_option maxRecDepth 20000 in
theorem d_partOf0 {l : Launch} {G : fmG} {M : fmM} {Q : fmR → fmM → Prop} (hst : l.stackTraces = false) (b : Int64) (p : Int32) (hb : b ≠ 0) (hd : b / b = 1) (hq : Q (.inl (some (.long (if p = 0 then 0 else 1)))) M) : fmGood Tm l G 0 qX11_partOf [.long 0, .long b, .int p] M Q := by
  refine fmGood_of hst (by decide +kernel) (Nat.le_of_ble_eq_true rfl) ?_
  show fmEv Tm l G 0 qX11_partOf 0 [some (.long 0), none, some (.long b), none, some (.int p), none, none, none, none, none, none] [] M Q
  refine fm_lloadn (pc := 0) (n := 2) 2 rfl rfl (fm_dec dtX11_partOf 0 rfl) ?_
  refine fm_lstore (pc := 1) (i := 5) (by decide) rfl (fm_dec dtX11_partOf 1 rfl) ?_
  dsimp only [List.set_cons_zero, List.set_cons_succ]
  refine fm_lloadn (pc := 3) (n := 0) 0 rfl rfl (fm_dec dtX11_partOf 2 rfl) ?_
  refine fm_lstore (pc := 4) (i := 7) (by decide) rfl (fm_dec dtX11_partOf 3 rfl) ?_
  dsimp only [List.set_cons_zero, List.set_cons_succ]
  refine fm_lload (pc := 6) (i := 7) rfl (fm_dec dtX11_partOf 4 rfl) ?_
  refine fm_lconst (pc := 8) (v := 0) (by decide) (fm_dec dtX11_partOf 5 rfl) ?_
  refine fm_lcmp (pc := 9) (fm_dec dtX11_partOf 6 rfl) ?_
  refine fm_if_eq (pc := 10) 31 (by decide) (fm_dec dtX11_partOf 7 rfl) (fun _ => ?_) (fun hc10 => by exfalso; exact hc10 lg_00)
  refine fm_iload (pc := 31) (i := 4) rfl (fm_dec dtX11_partOf 17 rfl) ?_
  refine fm_if_ne (pc := 33) 43 (by decide) (fm_dec dtX11_partOf 18 rfl) (fun hc33 => ?_) (fun hc33 => ?_)
  · refine fm_lloadn (pc := 43) (n := 2) 2 rfl rfl (fm_dec dtX11_partOf 23 rfl) ?_
    refine fm_lload (pc := 44) (i := 5) rfl (fm_dec dtX11_partOf 24 rfl) ?_
    refine fm_ldiv (pc := 46) hb (fm_dec dtX11_partOf 25 rfl) ?_
    exact fm_lreturn (pc := 47) rfl (fm_dec dtX11_partOf 26 rfl) (by first | (rw [if_pos hc33] at hq; rw [show (0 : Int64) / b = 0 from Int64.zero_div]; exact hq) | (rw [if_neg hc33] at hq; rw [hd]; exact hq))
  · refine fm_lloadn (pc := 36) (n := 0) 0 rfl rfl (fm_dec dtX11_partOf 19 rfl) ?_
    refine fm_lload (pc := 37) (i := 5) rfl (fm_dec dtX11_partOf 20 rfl) ?_
    refine fm_ldiv (pc := 39) hb (fm_dec dtX11_partOf 21 rfl) ?_
    refine fm_goto (pc := 40) 47 (by decide) (fm_dec dtX11_partOf 22 rfl) ?_
    exact fm_lreturn (pc := 47) rfl (fm_dec dtX11_partOf 26 rfl) (by first | (rw [if_pos hc33] at hq; rw [show (0 : Int64) / b = 0 from Int64.zero_div]; exact hq) | (rw [if_neg hc33] at hq; rw [hd]; exact hq))

set_option maxRecDepth 20000 in
theorem m_loss {l : Launch} {G : fmG} {M : fmM} {Q : fmR → fmM → Prop} (hst : l.stackTraces = false) (p : Int32) (h13 : M.1 7 13 = 0) (hq : ∀ M', M'.1 0 0 = 0 → (inR p 0 1) → Q (.inl (some (.long (if p = 0 then 0 else 1)))) M') (hx : ∀ (r9 : Int64) M', M'.1 0 0 = 1 → ¬ (inR p 0 1) → Q (.inl (some (.long r9))) M') : fmGood Tm l G 2 qX11_loss [.ref (G.1 0), .int p] M Q := by
  refine fmGood_of hst (by decide +kernel) (Nat.le_of_ble_eq_true rfl) ?_
  show fmEv Tm l G 2 qX11_loss 0 [some (.ref (G.1 0)), some (.int p)] [] M Q
  refine fm_aloadn (pc := 0) (n := 0) 0 rfl rfl (fm_dec dtX11_loss 0 rfl) ?_
  refine fm_iconst (pc := 1) (v := 0) (by decide) (fm_dec dtX11_loss 1 rfl) ?_
  refine fm_putI (k := 0) (j := 0) (ci := 11) (pc := 2) fl_X11_101 (by decide) rfl (by decide) rfl rfl (fm_dec dtX11_loss 2 rfl) ?_
  refine fm_aloadn (pc := 5) (n := 0) 0 rfl rfl (fm_dec dtX11_loss 3 rfl) ?_
  refine fm_iloadn (pc := 6) (n := 1) 1 rfl rfl (fm_dec dtX11_loss 4 rfl) ?_
  refine fm_iconst (pc := 7) (v := 1) (by decide) (fm_dec dtX11_loss 5 rfl) ?_
  refine fm_invV2 (k := 0) (d' := 1) (pc := 8) cv_X11_340 (by decide) rfl (Nat.le_of_ble_eq_true rfl) (by decide) (fm_dec dtX11_loss 6 rfl) ?_
  refine d_noPart hst _ _ (by first | exact h0 | simp [fmI, upd]) (by decide) (fun hi8 => ?_) (fun Mb hb hn8 => ?_)
  · refine fm_then1 ?_
    refine fm_if_eq (pc := 11) 16 (by decide) (fm_dec dtX11_loss 7 rfl) (fun _ => ?_) (fun hc11 => by exfalso; revert hc11; decide)
    refine fm_aloadn (pc := 16) (n := 0) 0 rfl rfl (fm_dec dtX11_loss 10 rfl) ?_
    refine fm_getR (k := 0) (j := 27) (ci := 11) (pc := 17) 7 rfl fl_X11_61 (by decide) rfl (by decide) (by decide) (fm_dec dtX11_loss 11 rfl) ?_
    refine fm_bipush (pc := 20) (v := 13) (by decide) (fm_dec dtX11_loss 12 rfl) ?_
    refine fm_iald (k := 7) (n := 14) (pc := 22) (by decide) rfl rfl (fm_inl (by decide)) (fm_dec dtX11_loss 13 rfl) ?_
    refine fm_i2l (pc := 23) (fm_dec dtX11_loss 14 rfl) ?_
    refine fm_topJ (v := 0) (by simp [fmI, h13]) ?_
    refine fm_ldc2 (pc := 24) kc_X11_343 (fm_dec dtX11_loss 15 rfl) ?_
    refine fm_iloadn (pc := 27) (n := 1) 1 rfl rfl (fm_dec dtX11_loss 16 rfl) ?_
    refine fm_invS3 (d' := 0) (pc := 28) cs_X11_345 (Nat.le_of_ble_eq_true rfl) (by decide) (fm_dec dtX11_loss 17 rfl) ?_
    refine d_partOf0 hst _ _ (by decide) (by decide) ?_
    refine fm_then1 ?_
    exact fm_lreturn (pc := 31) rfl (fm_dec dtX11_loss 18 rfl) (hq _ (by first | exact hth | simp [fmI, fmJ, upd]) hi8)
  · refine fm_then1 ?_
    refine fm_if_eq (pc := 11) 16 (by decide) (fm_dec dtX11_loss 7 rfl) (fun hc11 => by exfalso; revert hc11; decide) (fun _ => ?_)
    refine fm_lconst (pc := 14) (v := 0) (by decide) (fm_dec dtX11_loss 8 rfl) ?_
    exact fm_lreturn (pc := 15) rfl (fm_dec dtX11_loss 9 rfl) (hx _ _ hb hn8)

set_option maxRecDepth 20000 in
theorem m_risk {l : Launch} {G : fmG} {M : fmM} {Q : fmR → fmM → Prop} (hst : l.stackTraces = false) (p : Int32) (hl : M.1 4 0 = 0) (hq : ∀ M', M'.1 0 0 = 0 → (inR p 0 1) → Q (.inl (some (.long (if p = 0 then 0 else 1)))) M') (hx : ∀ (r9 : Int64) M', M'.1 0 0 = 1 → ¬ (inR p 0 1) → Q (.inl (some (.long r9))) M') : fmGood Tm l G 8 qX11_risk [.ref (G.1 0), .int p] M Q := by
  refine fmGood_of hst (by decide +kernel) (Nat.le_of_ble_eq_true rfl) ?_
  show fmEv Tm l G 8 qX11_risk 0 [some (.ref (G.1 0)), some (.int p)] [] M Q
  refine fm_aloadn (pc := 0) (n := 0) 0 rfl rfl (fm_dec dtX11_risk 0 rfl) ?_
  refine fm_iconst (pc := 1) (v := 0) (by decide) (fm_dec dtX11_risk 1 rfl) ?_
  refine fm_putI (k := 0) (j := 0) (ci := 11) (pc := 2) fl_X11_101 (by decide) rfl (by decide) rfl rfl (fm_dec dtX11_risk 2 rfl) ?_
  refine fm_aloadn (pc := 5) (n := 0) 0 rfl rfl (fm_dec dtX11_risk 3 rfl) ?_
  refine fm_iloadn (pc := 6) (n := 1) 1 rfl rfl (fm_dec dtX11_risk 4 rfl) ?_
  refine fm_iconst (pc := 7) (v := 1) (by decide) (fm_dec dtX11_risk 5 rfl) ?_
  refine fm_invV2 (k := 0) (d' := 1) (pc := 8) cv_X11_340 (by decide) rfl (Nat.le_of_ble_eq_true rfl) (by decide) (fm_dec dtX11_risk 6 rfl) ?_
  refine d_noPart hst _ _ (by first | exact h0 | simp [fmI, upd]) (by decide) (fun hi8 => ?_) (fun Mb hb hn8 => ?_)
  · refine fm_then1 ?_
    refine fm_if_eq (pc := 11) 16 (by decide) (fm_dec dtX11_risk 7 rfl) (fun _ => ?_) (fun hc11 => by exfalso; revert hc11; decide)
    refine fm_aloadn (pc := 16) (n := 0) 0 rfl rfl (fm_dec dtX11_risk 10 rfl) ?_
    refine fm_aloadn (pc := 17) (n := 0) 0 rfl rfl (fm_dec dtX11_risk 11 rfl) ?_
    refine fm_getR (k := 0) (j := 27) (ci := 11) (pc := 18) 7 rfl fl_X11_61 (by decide) rfl (by decide) (by decide) (fm_dec dtX11_risk 12 rfl) ?_
    refine fm_invV1 (k := 0) (d' := 7) (pc := 21) cv_X11_349 (by decide) rfl (Nat.le_of_ble_eq_true rfl) (by decide) (fm_dec dtX11_risk 13 rfl) ?_
    refine d_riskOf0 hst _ (by first | exact hl | simp [fmI, fmJ, upd, hl]) ?_
    refine fm_then1 ?_
    refine fm_ldc2 (pc := 24) kc_X11_353 (fm_dec dtX11_risk 14 rfl) ?_
    refine fm_iloadn (pc := 27) (n := 1) 1 rfl rfl (fm_dec dtX11_risk 15 rfl) ?_
    refine fm_invS3 (d' := 0) (pc := 28) cs_X11_345 (Nat.le_of_ble_eq_true rfl) (by decide) (fm_dec dtX11_risk 16 rfl) ?_
    refine d_partOf0 hst _ _ (by decide) (by decide) ?_
    refine fm_then1 ?_
    exact fm_lreturn (pc := 31) rfl (fm_dec dtX11_risk 17 rfl) (hq _ (by first | exact hth | simp [fmI, fmJ, upd]) hi8)
  · refine fm_then1 ?_
    refine fm_if_eq (pc := 11) 16 (by decide) (fm_dec dtX11_risk 7 rfl) (fun hc11 => by exfalso; revert hc11; decide) (fun _ => ?_)
    refine fm_lconst (pc := 14) (v := 0) (by decide) (fm_dec dtX11_risk 8 rfl) ?_
    exact fm_lreturn (pc := 15) rfl (fm_dec dtX11_risk 9 rfl) (hx _ _ hb hn8)

set_option maxRecDepth 20000 in
theorem d_bringsBy0 {l : Launch} {G : fmG} {M : fmM} {Q : fmR → fmM → Prop} (hst : l.stackTraces = false) (t b v x y : Int32) (hq : Q (.inl (some (.int (meanE t b v x y 0)))) M) : fmGood Tm l G 0 qX11_bringsBy [.int t, .int b, .int v, .int x, .int y, .int 0] M Q := by
  refine fmGood_of hst (by decide +kernel) (Nat.le_of_ble_eq_true rfl) ?_
  show fmEv Tm l G 0 qX11_bringsBy 0 [some (.int t), some (.int b), some (.int v), some (.int x), some (.int y), some (.int 0)] [] M Q
  refine fm_iload (pc := 0) (i := 5) rfl (fm_dec dtX11_bringsBy 0 rfl) ?_
  refine fm_iconst (pc := 2) (v := 2) (by decide) (fm_dec dtX11_bringsBy 1 rfl) ?_
  refine fm_icmp_ne (pc := 3) 17 (by decide) (fm_dec dtX11_bringsBy 2 rfl) (fun _ => ?_) (fun hc3 => by exfalso; revert hc3; decide)
  refine fm_bipush (pc := 17) (v := 16) (by decide) (fm_dec dtX11_bringsBy 11 rfl) ?_
  refine fm_iloadn (pc := 19) (n := 0) 0 rfl rfl (fm_dec dtX11_bringsBy 12 rfl) ?_
  refine fm_iloadn (pc := 20) (n := 2) 2 rfl rfl (fm_dec dtX11_bringsBy 13 rfl) ?_
  refine fm_imul (pc := 21) (fm_dec dtX11_bringsBy 14 rfl) ?_
  refine fm_bipush (pc := 22) (v := 16) (by decide) (fm_dec dtX11_bringsBy 15 rfl) ?_
  refine fm_iloadn (pc := 24) (n := 0) 0 rfl rfl (fm_dec dtX11_bringsBy 16 rfl) ?_
  refine fm_isub (pc := 25) (fm_dec dtX11_bringsBy 17 rfl) ?_
  refine fm_iload (pc := 26) (i := 5) rfl (fm_dec dtX11_bringsBy 18 rfl) ?_
  refine fm_if_ne (pc := 28) 35 (by decide) (fm_dec dtX11_bringsBy 19 rfl) (fun hc28 => by exfalso; revert hc28; decide) (fun _ => ?_)
  refine fm_iloadn (pc := 31) (n := 3) 3 rfl rfl (fm_dec dtX11_bringsBy 20 rfl) ?_
  refine fm_goto (pc := 32) 37 (by decide) (fm_dec dtX11_bringsBy 21 rfl) ?_
  refine fm_imul (pc := 37) (fm_dec dtX11_bringsBy 23 rfl) ?_
  refine fm_isub (pc := 38) (fm_dec dtX11_bringsBy 24 rfl) ?_
  refine fm_imul (pc := 39) (fm_dec dtX11_bringsBy 25 rfl) ?_
  exact fm_ireturn (pc := 40) rfl (fm_dec dtX11_bringsBy 26 rfl) (by simpa [meanE] using hq)

set_option maxRecDepth 20000 in
theorem d_bringsBy1 {l : Launch} {G : fmG} {M : fmM} {Q : fmR → fmM → Prop} (hst : l.stackTraces = false) (t b v x y : Int32) (hq : Q (.inl (some (.int (meanE t b v x y 1)))) M) : fmGood Tm l G 0 qX11_bringsBy [.int t, .int b, .int v, .int x, .int y, .int 1] M Q := by
  refine fmGood_of hst (by decide +kernel) (Nat.le_of_ble_eq_true rfl) ?_
  show fmEv Tm l G 0 qX11_bringsBy 0 [some (.int t), some (.int b), some (.int v), some (.int x), some (.int y), some (.int 1)] [] M Q
  refine fm_iload (pc := 0) (i := 5) rfl (fm_dec dtX11_bringsBy 0 rfl) ?_
  refine fm_iconst (pc := 2) (v := 2) (by decide) (fm_dec dtX11_bringsBy 1 rfl) ?_
  refine fm_icmp_ne (pc := 3) 17 (by decide) (fm_dec dtX11_bringsBy 2 rfl) (fun _ => ?_) (fun hc3 => by exfalso; revert hc3; decide)
  refine fm_bipush (pc := 17) (v := 16) (by decide) (fm_dec dtX11_bringsBy 11 rfl) ?_
  refine fm_iloadn (pc := 19) (n := 0) 0 rfl rfl (fm_dec dtX11_bringsBy 12 rfl) ?_
  refine fm_iloadn (pc := 20) (n := 2) 2 rfl rfl (fm_dec dtX11_bringsBy 13 rfl) ?_
  refine fm_imul (pc := 21) (fm_dec dtX11_bringsBy 14 rfl) ?_
  refine fm_bipush (pc := 22) (v := 16) (by decide) (fm_dec dtX11_bringsBy 15 rfl) ?_
  refine fm_iloadn (pc := 24) (n := 0) 0 rfl rfl (fm_dec dtX11_bringsBy 16 rfl) ?_
  refine fm_isub (pc := 25) (fm_dec dtX11_bringsBy 17 rfl) ?_
  refine fm_iload (pc := 26) (i := 5) rfl (fm_dec dtX11_bringsBy 18 rfl) ?_
  refine fm_if_ne (pc := 28) 35 (by decide) (fm_dec dtX11_bringsBy 19 rfl) (fun _ => ?_) (fun hc28 => by exfalso; revert hc28; decide)
  refine fm_iload (pc := 35) (i := 4) rfl (fm_dec dtX11_bringsBy 22 rfl) ?_
  refine fm_imul (pc := 37) (fm_dec dtX11_bringsBy 23 rfl) ?_
  refine fm_isub (pc := 38) (fm_dec dtX11_bringsBy 24 rfl) ?_
  refine fm_imul (pc := 39) (fm_dec dtX11_bringsBy 25 rfl) ?_
  exact fm_ireturn (pc := 40) rfl (fm_dec dtX11_bringsBy 26 rfl) (by simpa [meanE] using hq)

set_option maxRecDepth 20000 in
theorem d_bringsBy2 {l : Launch} {G : fmG} {M : fmM} {Q : fmR → fmM → Prop} (hst : l.stackTraces = false) (t b v x y : Int32) (hq : Q (.inl (some (.int (meanE t b v x y 2)))) M) : fmGood Tm l G 0 qX11_bringsBy [.int t, .int b, .int v, .int x, .int y, .int 2] M Q := by
  refine fmGood_of hst (by decide +kernel) (Nat.le_of_ble_eq_true rfl) ?_
  show fmEv Tm l G 0 qX11_bringsBy 0 [some (.int t), some (.int b), some (.int v), some (.int x), some (.int y), some (.int 2)] [] M Q
  refine fm_iload (pc := 0) (i := 5) rfl (fm_dec dtX11_bringsBy 0 rfl) ?_
  refine fm_iconst (pc := 2) (v := 2) (by decide) (fm_dec dtX11_bringsBy 1 rfl) ?_
  refine fm_icmp_ne (pc := 3) 17 (by decide) (fm_dec dtX11_bringsBy 2 rfl) (fun hc3 => by exfalso; revert hc3; decide) (fun _ => ?_)
  refine fm_iloadn (pc := 6) (n := 0) 0 rfl rfl (fm_dec dtX11_bringsBy 3 rfl) ?_
  refine fm_bipush (pc := 7) (v := 16) (by decide) (fm_dec dtX11_bringsBy 4 rfl) ?_
  refine fm_iloadn (pc := 9) (n := 1) 1 rfl rfl (fm_dec dtX11_bringsBy 5 rfl) ?_
  refine fm_isub (pc := 10) (fm_dec dtX11_bringsBy 6 rfl) ?_
  refine fm_imul (pc := 11) (fm_dec dtX11_bringsBy 7 rfl) ?_
  refine fm_iloadn (pc := 12) (n := 2) 2 rfl rfl (fm_dec dtX11_bringsBy 8 rfl) ?_
  refine fm_imul (pc := 13) (fm_dec dtX11_bringsBy 9 rfl) ?_
  refine fm_goto (pc := 14) 40 (by decide) (fm_dec dtX11_bringsBy 10 rfl) ?_
  exact fm_ireturn (pc := 40) rfl (fm_dec dtX11_bringsBy 26 rfl) (by simpa [meanE] using hq)

theorem d_bringsBy {l : Launch} {G : fmG} {M : fmM} {Q : fmR → fmM → Prop} (hst : l.stackTraces = false) (t b v x y w : Int32) (hw : inR w 0 2) (hq : Q (.inl (some (.int (meanE t b v x y w)))) M) : fmGood Tm l G 0 qX11_bringsBy [.int t, .int b, .int v, .int x, .int y, .int w] M Q := by
  have h9 := inR_toInt hw
  rw [show (0 : Int32).toInt = 0 by decide, show (2 : Int32).toInt = 2 by decide] at h9
  rcases (show w.toInt = 0 ∨ w.toInt = 1 ∨ w.toInt = 2 by omega) with h | h | h
  · have e : w = 0 := i32_ext (by simp [h])
    subst e; exact d_bringsBy0 hst t b v x y hq
  · have e : w = 1 := i32_ext (by simp [h])
    subst e; exact d_bringsBy1 hst t b v x y hq
  · have e : w = 2 := i32_ext (by simp [h])
    subst e; exact d_bringsBy2 hst t b v x y hq

set_option maxRecDepth 20000 in
theorem d_saysBy {l : Launch} {G : fmG} {M : fmM} {Q : fmR → fmM → Prop} (hst : l.stackTraces = false) (t b v x y : Int32) (hq : Q (.inl (some (.int (saysE t b v x y)))) M) : fmGood Tm l G 1 qX11_saysBy [.int t, .int b, .int v, .int x, .int y] M Q := by
  refine fmGood_of hst (by decide +kernel) (Nat.le_of_ble_eq_true rfl) ?_
  show fmEv Tm l G 1 qX11_saysBy 0 [some (.int t), some (.int b), some (.int v), some (.int x), some (.int y), none, none] [] M Q
  refine fm_iconst (pc := 0) (v := 0) (by decide) (fm_dec dtX11_saysBy 0 rfl) ?_
  refine fm_istore (pc := 1) (i := 5) (by decide) rfl (fm_dec dtX11_saysBy 1 rfl) ?_
  dsimp only [List.set_cons_zero, List.set_cons_succ]
  refine fm_iconst (pc := 3) (v := 1) (by decide) (fm_dec dtX11_saysBy 2 rfl) ?_
  refine fm_istore (pc := 4) (i := 6) (by decide) rfl (fm_dec dtX11_saysBy 3 rfl) ?_
  dsimp only [List.set_cons_zero, List.set_cons_succ]
  refine fm_iload (pc := 6) (i := 6) rfl (fm_dec dtX11_saysBy 4 rfl) ?_
  refine fm_iconst (pc := 8) (v := 3) (by decide) (fm_dec dtX11_saysBy 5 rfl) ?_
  refine fm_icmp_ge (pc := 9) 52 (by decide) (fm_dec dtX11_saysBy 6 rfl) (fun hc9 => by exfalso; revert hc9; decide) (fun _ => ?_)
  refine fm_iloadn (pc := 12) (n := 0) 0 rfl rfl (fm_dec dtX11_saysBy 7 rfl) ?_
  refine fm_iloadn (pc := 13) (n := 1) 1 rfl rfl (fm_dec dtX11_saysBy 8 rfl) ?_
  refine fm_iloadn (pc := 14) (n := 2) 2 rfl rfl (fm_dec dtX11_saysBy 9 rfl) ?_
  refine fm_iloadn (pc := 15) (n := 3) 3 rfl rfl (fm_dec dtX11_saysBy 10 rfl) ?_
  refine fm_iload (pc := 16) (i := 4) rfl (fm_dec dtX11_saysBy 11 rfl) ?_
  refine fm_iload (pc := 18) (i := 6) rfl (fm_dec dtX11_saysBy 12 rfl) ?_
  refine fm_invS6 (d' := 0) (pc := 20) cs_X11_393 (Nat.le_of_ble_eq_true rfl) (by decide) (fm_dec dtX11_saysBy 13 rfl) ?_
  refine d_bringsBy1 hst _ _ _ _ _ ?_
  refine fm_then1 ?_
  refine fm_iloadn (pc := 23) (n := 0) 0 rfl rfl (fm_dec dtX11_saysBy 14 rfl) ?_
  refine fm_iloadn (pc := 24) (n := 1) 1 rfl rfl (fm_dec dtX11_saysBy 15 rfl) ?_
  refine fm_iloadn (pc := 25) (n := 2) 2 rfl rfl (fm_dec dtX11_saysBy 16 rfl) ?_
  refine fm_iloadn (pc := 26) (n := 3) 3 rfl rfl (fm_dec dtX11_saysBy 17 rfl) ?_
  refine fm_iload (pc := 27) (i := 4) rfl (fm_dec dtX11_saysBy 18 rfl) ?_
  refine fm_iload (pc := 29) (i := 5) rfl (fm_dec dtX11_saysBy 19 rfl) ?_
  refine fm_invS6 (d' := 0) (pc := 31) cs_X11_393 (Nat.le_of_ble_eq_true rfl) (by decide) (fm_dec dtX11_saysBy 20 rfl) ?_
  refine d_bringsBy0 hst _ _ _ _ _ ?_
  refine fm_then1 ?_
  refine fm_icmp_le (pc := 34) 42 (by decide) (fm_dec dtX11_saysBy 21 rfl) (fun hc34 => ?_) (fun hc34 => ?_)
  · refine fm_iload (pc := 42) (i := 5) rfl (fm_dec dtX11_saysBy 24 rfl) ?_
    refine fm_istore (pc := 44) (i := 5) (by decide) rfl (fm_dec dtX11_saysBy 25 rfl) ?_
    dsimp only [List.set_cons_zero, List.set_cons_succ]
    have hd1 := hc34
    refine fm_iincc (pc := 46) 6 1 (by decide) rfl (by decide) rfl (fm_dec dtX11_saysBy 26 rfl) ?_
    dsimp only [List.set_cons_zero, List.set_cons_succ]
    rw [show (1 : Int32) + 1 = 2 by decide]
    refine fm_goto (pc := 49) 6 (by decide) (fm_dec dtX11_saysBy 27 rfl) ?_
    refine fm_iload (pc := 6) (i := 6) rfl (fm_dec dtX11_saysBy 4 rfl) ?_
    refine fm_iconst (pc := 8) (v := 3) (by decide) (fm_dec dtX11_saysBy 5 rfl) ?_
    refine fm_icmp_ge (pc := 9) 52 (by decide) (fm_dec dtX11_saysBy 6 rfl) (fun hc9 => by exfalso; revert hc9; decide) (fun _ => ?_)
    refine fm_iloadn (pc := 12) (n := 0) 0 rfl rfl (fm_dec dtX11_saysBy 7 rfl) ?_
    refine fm_iloadn (pc := 13) (n := 1) 1 rfl rfl (fm_dec dtX11_saysBy 8 rfl) ?_
    refine fm_iloadn (pc := 14) (n := 2) 2 rfl rfl (fm_dec dtX11_saysBy 9 rfl) ?_
    refine fm_iloadn (pc := 15) (n := 3) 3 rfl rfl (fm_dec dtX11_saysBy 10 rfl) ?_
    refine fm_iload (pc := 16) (i := 4) rfl (fm_dec dtX11_saysBy 11 rfl) ?_
    refine fm_iload (pc := 18) (i := 6) rfl (fm_dec dtX11_saysBy 12 rfl) ?_
    refine fm_invS6 (d' := 0) (pc := 20) cs_X11_393 (Nat.le_of_ble_eq_true rfl) (by decide) (fm_dec dtX11_saysBy 13 rfl) ?_
    refine d_bringsBy2 hst _ _ _ _ _ ?_
    refine fm_then1 ?_
    refine fm_iloadn (pc := 23) (n := 0) 0 rfl rfl (fm_dec dtX11_saysBy 14 rfl) ?_
    refine fm_iloadn (pc := 24) (n := 1) 1 rfl rfl (fm_dec dtX11_saysBy 15 rfl) ?_
    refine fm_iloadn (pc := 25) (n := 2) 2 rfl rfl (fm_dec dtX11_saysBy 16 rfl) ?_
    refine fm_iloadn (pc := 26) (n := 3) 3 rfl rfl (fm_dec dtX11_saysBy 17 rfl) ?_
    refine fm_iload (pc := 27) (i := 4) rfl (fm_dec dtX11_saysBy 18 rfl) ?_
    refine fm_iload (pc := 29) (i := 5) rfl (fm_dec dtX11_saysBy 19 rfl) ?_
    refine fm_invS6 (d' := 0) (pc := 31) cs_X11_393 (Nat.le_of_ble_eq_true rfl) (by decide) (fm_dec dtX11_saysBy 20 rfl) ?_
    refine d_bringsBy0 hst _ _ _ _ _ ?_
    refine fm_then1 ?_
    refine fm_icmp_le (pc := 34) 42 (by decide) (fm_dec dtX11_saysBy 21 rfl) (fun hc34 => ?_) (fun hc34 => ?_)
    · refine fm_iload (pc := 42) (i := 5) rfl (fm_dec dtX11_saysBy 24 rfl) ?_
      refine fm_istore (pc := 44) (i := 5) (by decide) rfl (fm_dec dtX11_saysBy 25 rfl) ?_
      dsimp only [List.set_cons_zero, List.set_cons_succ]
      have hd2 := hc34
      refine fm_iincc (pc := 46) 6 1 (by decide) rfl (by decide) rfl (fm_dec dtX11_saysBy 26 rfl) ?_
      dsimp only [List.set_cons_zero, List.set_cons_succ]
      rw [show (2 : Int32) + 1 = 3 by decide]
      refine fm_goto (pc := 49) 6 (by decide) (fm_dec dtX11_saysBy 27 rfl) ?_
      refine fm_iload (pc := 6) (i := 6) rfl (fm_dec dtX11_saysBy 4 rfl) ?_
      refine fm_iconst (pc := 8) (v := 3) (by decide) (fm_dec dtX11_saysBy 5 rfl) ?_
      refine fm_icmp_ge (pc := 9) 52 (by decide) (fm_dec dtX11_saysBy 6 rfl) (fun _ => ?_) (fun hc9 => by exfalso; revert hc9; decide)
      refine fm_iload (pc := 52) (i := 5) rfl (fm_dec dtX11_saysBy 28 rfl) ?_
      exact fm_ireturn (pc := 54) rfl (fm_dec dtX11_saysBy 29 rfl) (by have h := hq; unfold saysE at h; first | (rw [if_neg (i32_nlt hd1), if_neg (i32_nlt hd2)] at h; exact h) | (rw [if_neg (i32_nlt hd1), if_pos (i32_nle hd2)] at h; exact h) | (rw [if_pos (i32_nle hd1), if_neg (i32_nlt hd2)] at h; exact h) | (rw [if_pos (i32_nle hd1), if_pos (i32_nle hd2)] at h; exact h))
    · refine fm_iload (pc := 37) (i := 6) rfl (fm_dec dtX11_saysBy 22 rfl) ?_
      refine fm_goto (pc := 39) 44 (by decide) (fm_dec dtX11_saysBy 23 rfl) ?_
      refine fm_istore (pc := 44) (i := 5) (by decide) rfl (fm_dec dtX11_saysBy 25 rfl) ?_
      dsimp only [List.set_cons_zero, List.set_cons_succ]
      have hd2 := hc34
      refine fm_iincc (pc := 46) 6 1 (by decide) rfl (by decide) rfl (fm_dec dtX11_saysBy 26 rfl) ?_
      dsimp only [List.set_cons_zero, List.set_cons_succ]
      rw [show (2 : Int32) + 1 = 3 by decide]
      refine fm_goto (pc := 49) 6 (by decide) (fm_dec dtX11_saysBy 27 rfl) ?_
      refine fm_iload (pc := 6) (i := 6) rfl (fm_dec dtX11_saysBy 4 rfl) ?_
      refine fm_iconst (pc := 8) (v := 3) (by decide) (fm_dec dtX11_saysBy 5 rfl) ?_
      refine fm_icmp_ge (pc := 9) 52 (by decide) (fm_dec dtX11_saysBy 6 rfl) (fun _ => ?_) (fun hc9 => by exfalso; revert hc9; decide)
      refine fm_iload (pc := 52) (i := 5) rfl (fm_dec dtX11_saysBy 28 rfl) ?_
      exact fm_ireturn (pc := 54) rfl (fm_dec dtX11_saysBy 29 rfl) (by have h := hq; unfold saysE at h; first | (rw [if_neg (i32_nlt hd1), if_neg (i32_nlt hd2)] at h; exact h) | (rw [if_neg (i32_nlt hd1), if_pos (i32_nle hd2)] at h; exact h) | (rw [if_pos (i32_nle hd1), if_neg (i32_nlt hd2)] at h; exact h) | (rw [if_pos (i32_nle hd1), if_pos (i32_nle hd2)] at h; exact h))
  · refine fm_iload (pc := 37) (i := 6) rfl (fm_dec dtX11_saysBy 22 rfl) ?_
    refine fm_goto (pc := 39) 44 (by decide) (fm_dec dtX11_saysBy 23 rfl) ?_
    refine fm_istore (pc := 44) (i := 5) (by decide) rfl (fm_dec dtX11_saysBy 25 rfl) ?_
    dsimp only [List.set_cons_zero, List.set_cons_succ]
    have hd1 := hc34
    refine fm_iincc (pc := 46) 6 1 (by decide) rfl (by decide) rfl (fm_dec dtX11_saysBy 26 rfl) ?_
    dsimp only [List.set_cons_zero, List.set_cons_succ]
    rw [show (1 : Int32) + 1 = 2 by decide]
    refine fm_goto (pc := 49) 6 (by decide) (fm_dec dtX11_saysBy 27 rfl) ?_
    refine fm_iload (pc := 6) (i := 6) rfl (fm_dec dtX11_saysBy 4 rfl) ?_
    refine fm_iconst (pc := 8) (v := 3) (by decide) (fm_dec dtX11_saysBy 5 rfl) ?_
    refine fm_icmp_ge (pc := 9) 52 (by decide) (fm_dec dtX11_saysBy 6 rfl) (fun hc9 => by exfalso; revert hc9; decide) (fun _ => ?_)
    refine fm_iloadn (pc := 12) (n := 0) 0 rfl rfl (fm_dec dtX11_saysBy 7 rfl) ?_
    refine fm_iloadn (pc := 13) (n := 1) 1 rfl rfl (fm_dec dtX11_saysBy 8 rfl) ?_
    refine fm_iloadn (pc := 14) (n := 2) 2 rfl rfl (fm_dec dtX11_saysBy 9 rfl) ?_
    refine fm_iloadn (pc := 15) (n := 3) 3 rfl rfl (fm_dec dtX11_saysBy 10 rfl) ?_
    refine fm_iload (pc := 16) (i := 4) rfl (fm_dec dtX11_saysBy 11 rfl) ?_
    refine fm_iload (pc := 18) (i := 6) rfl (fm_dec dtX11_saysBy 12 rfl) ?_
    refine fm_invS6 (d' := 0) (pc := 20) cs_X11_393 (Nat.le_of_ble_eq_true rfl) (by decide) (fm_dec dtX11_saysBy 13 rfl) ?_
    refine d_bringsBy2 hst _ _ _ _ _ ?_
    refine fm_then1 ?_
    refine fm_iloadn (pc := 23) (n := 0) 0 rfl rfl (fm_dec dtX11_saysBy 14 rfl) ?_
    refine fm_iloadn (pc := 24) (n := 1) 1 rfl rfl (fm_dec dtX11_saysBy 15 rfl) ?_
    refine fm_iloadn (pc := 25) (n := 2) 2 rfl rfl (fm_dec dtX11_saysBy 16 rfl) ?_
    refine fm_iloadn (pc := 26) (n := 3) 3 rfl rfl (fm_dec dtX11_saysBy 17 rfl) ?_
    refine fm_iload (pc := 27) (i := 4) rfl (fm_dec dtX11_saysBy 18 rfl) ?_
    refine fm_iload (pc := 29) (i := 5) rfl (fm_dec dtX11_saysBy 19 rfl) ?_
    refine fm_invS6 (d' := 0) (pc := 31) cs_X11_393 (Nat.le_of_ble_eq_true rfl) (by decide) (fm_dec dtX11_saysBy 20 rfl) ?_
    refine d_bringsBy1 hst _ _ _ _ _ ?_
    refine fm_then1 ?_
    refine fm_icmp_le (pc := 34) 42 (by decide) (fm_dec dtX11_saysBy 21 rfl) (fun hc34 => ?_) (fun hc34 => ?_)
    · refine fm_iload (pc := 42) (i := 5) rfl (fm_dec dtX11_saysBy 24 rfl) ?_
      refine fm_istore (pc := 44) (i := 5) (by decide) rfl (fm_dec dtX11_saysBy 25 rfl) ?_
      dsimp only [List.set_cons_zero, List.set_cons_succ]
      have hd2 := hc34
      refine fm_iincc (pc := 46) 6 1 (by decide) rfl (by decide) rfl (fm_dec dtX11_saysBy 26 rfl) ?_
      dsimp only [List.set_cons_zero, List.set_cons_succ]
      rw [show (2 : Int32) + 1 = 3 by decide]
      refine fm_goto (pc := 49) 6 (by decide) (fm_dec dtX11_saysBy 27 rfl) ?_
      refine fm_iload (pc := 6) (i := 6) rfl (fm_dec dtX11_saysBy 4 rfl) ?_
      refine fm_iconst (pc := 8) (v := 3) (by decide) (fm_dec dtX11_saysBy 5 rfl) ?_
      refine fm_icmp_ge (pc := 9) 52 (by decide) (fm_dec dtX11_saysBy 6 rfl) (fun _ => ?_) (fun hc9 => by exfalso; revert hc9; decide)
      refine fm_iload (pc := 52) (i := 5) rfl (fm_dec dtX11_saysBy 28 rfl) ?_
      exact fm_ireturn (pc := 54) rfl (fm_dec dtX11_saysBy 29 rfl) (by have h := hq; unfold saysE at h; first | (rw [if_neg (i32_nlt hd1), if_neg (i32_nlt hd2)] at h; exact h) | (rw [if_neg (i32_nlt hd1), if_pos (i32_nle hd2)] at h; exact h) | (rw [if_pos (i32_nle hd1), if_neg (i32_nlt hd2)] at h; exact h) | (rw [if_pos (i32_nle hd1), if_pos (i32_nle hd2)] at h; exact h))
    · refine fm_iload (pc := 37) (i := 6) rfl (fm_dec dtX11_saysBy 22 rfl) ?_
      refine fm_goto (pc := 39) 44 (by decide) (fm_dec dtX11_saysBy 23 rfl) ?_
      refine fm_istore (pc := 44) (i := 5) (by decide) rfl (fm_dec dtX11_saysBy 25 rfl) ?_
      dsimp only [List.set_cons_zero, List.set_cons_succ]
      have hd2 := hc34
      refine fm_iincc (pc := 46) 6 1 (by decide) rfl (by decide) rfl (fm_dec dtX11_saysBy 26 rfl) ?_
      dsimp only [List.set_cons_zero, List.set_cons_succ]
      rw [show (2 : Int32) + 1 = 3 by decide]
      refine fm_goto (pc := 49) 6 (by decide) (fm_dec dtX11_saysBy 27 rfl) ?_
      refine fm_iload (pc := 6) (i := 6) rfl (fm_dec dtX11_saysBy 4 rfl) ?_
      refine fm_iconst (pc := 8) (v := 3) (by decide) (fm_dec dtX11_saysBy 5 rfl) ?_
      refine fm_icmp_ge (pc := 9) 52 (by decide) (fm_dec dtX11_saysBy 6 rfl) (fun _ => ?_) (fun hc9 => by exfalso; revert hc9; decide)
      refine fm_iload (pc := 52) (i := 5) rfl (fm_dec dtX11_saysBy 28 rfl) ?_
      exact fm_ireturn (pc := 54) rfl (fm_dec dtX11_saysBy 29 rfl) (by have h := hq; unfold saysE at h; first | (rw [if_neg (i32_nlt hd1), if_neg (i32_nlt hd2)] at h; exact h) | (rw [if_neg (i32_nlt hd1), if_pos (i32_nle hd2)] at h; exact h) | (rw [if_pos (i32_nle hd1), if_neg (i32_nlt hd2)] at h; exact h) | (rw [if_pos (i32_nle hd1), if_pos (i32_nle hd2)] at h; exact h))

set_option maxRecDepth 20000 in
theorem d_isRumour {l : Launch} {G : fmG} {M : fmM} {Q : fmR → fmM → Prop} (hst : l.stackTraces = false) (b v x y : Int32) (hq : (inR b 0 16 ∧ inR v 0 999 ∧ inR x 0 999 ∧ inR y 0 999) → Q (.inl (some (.int 1))) M) (hn : ¬ (inR b 0 16 ∧ inR v 0 999 ∧ inR x 0 999 ∧ inR y 0 999) → Q (.inl (some (.int 0))) M) : fmGood Tm l G 1 qX11_isRumour [.int b, .int v, .int x, .int y] M Q := by
  refine fmGood_of hst (by decide +kernel) (Nat.le_of_ble_eq_true rfl) ?_
  show fmEv Tm l G 1 qX11_isRumour 0 [some (.int b), some (.int v), some (.int x), some (.int y)] [] M Q
  refine fm_iloadn (pc := 0) (n := 0) 0 rfl rfl (fm_dec dtX11_isRumour 0 rfl) ?_
  refine fm_iconst (pc := 1) (v := 0) (by decide) (fm_dec dtX11_isRumour 1 rfl) ?_
  refine fm_bipush (pc := 2) (v := 16) (by decide) (fm_dec dtX11_isRumour 2 rfl) ?_
  refine fm_invS3 (d' := 0) (pc := 4) cs_X11_135 (Nat.le_of_ble_eq_true rfl) (by decide) (fm_dec dtX11_isRumour 3 rfl) ?_
  refine d_in hst _ _ _ (fun hi4 => ?_) (fun hn4 => ?_)
  · refine fm_then1 ?_
    refine fm_if_eq (pc := 7) 47 (by decide) (fm_dec dtX11_isRumour 4 rfl) (fun hc7 => by exfalso; revert hc7; decide) (fun _ => ?_)
    refine fm_iloadn (pc := 10) (n := 1) 1 rfl rfl (fm_dec dtX11_isRumour 5 rfl) ?_
    refine fm_iconst (pc := 11) (v := 0) (by decide) (fm_dec dtX11_isRumour 6 rfl) ?_
    refine fm_sipush (pc := 12) (v := 999) (by decide) (fm_dec dtX11_isRumour 7 rfl) ?_
    refine fm_invS3 (d' := 0) (pc := 15) cs_X11_135 (Nat.le_of_ble_eq_true rfl) (by decide) (fm_dec dtX11_isRumour 8 rfl) ?_
    refine d_in hst _ _ _ (fun hi15 => ?_) (fun hn15 => ?_)
    · refine fm_then1 ?_
      refine fm_if_eq (pc := 18) 47 (by decide) (fm_dec dtX11_isRumour 9 rfl) (fun hc18 => by exfalso; revert hc18; decide) (fun _ => ?_)
      refine fm_iloadn (pc := 21) (n := 2) 2 rfl rfl (fm_dec dtX11_isRumour 10 rfl) ?_
      refine fm_iconst (pc := 22) (v := 0) (by decide) (fm_dec dtX11_isRumour 11 rfl) ?_
      refine fm_sipush (pc := 23) (v := 999) (by decide) (fm_dec dtX11_isRumour 12 rfl) ?_
      refine fm_invS3 (d' := 0) (pc := 26) cs_X11_135 (Nat.le_of_ble_eq_true rfl) (by decide) (fm_dec dtX11_isRumour 13 rfl) ?_
      refine d_in hst _ _ _ (fun hi26 => ?_) (fun hn26 => ?_)
      · refine fm_then1 ?_
        refine fm_if_eq (pc := 29) 47 (by decide) (fm_dec dtX11_isRumour 14 rfl) (fun hc29 => by exfalso; revert hc29; decide) (fun _ => ?_)
        refine fm_iloadn (pc := 32) (n := 3) 3 rfl rfl (fm_dec dtX11_isRumour 15 rfl) ?_
        refine fm_iconst (pc := 33) (v := 0) (by decide) (fm_dec dtX11_isRumour 16 rfl) ?_
        refine fm_sipush (pc := 34) (v := 999) (by decide) (fm_dec dtX11_isRumour 17 rfl) ?_
        refine fm_invS3 (d' := 0) (pc := 37) cs_X11_135 (Nat.le_of_ble_eq_true rfl) (by decide) (fm_dec dtX11_isRumour 18 rfl) ?_
        refine d_in hst _ _ _ (fun hi37 => ?_) (fun hn37 => ?_)
        · refine fm_then1 ?_
          refine fm_if_eq (pc := 40) 47 (by decide) (fm_dec dtX11_isRumour 19 rfl) (fun hc40 => by exfalso; revert hc40; decide) (fun _ => ?_)
          refine fm_iconst (pc := 43) (v := 1) (by decide) (fm_dec dtX11_isRumour 20 rfl) ?_
          refine fm_goto (pc := 44) 48 (by decide) (fm_dec dtX11_isRumour 21 rfl) ?_
          exact fm_zreturn (pc := 48) rfl rfl (fm_dec dtX11_isRumour 23 rfl) (by first | exact hq ⟨hi4, hi15, hi26, hi37⟩ | exact hn (fun h => hn4 h.1) | exact hn (fun h => hn15 h.2.1) | exact hn (fun h => hn26 h.2.2.1) | exact hn (fun h => hn37 h.2.2.2))
        · refine fm_then1 ?_
          refine fm_if_eq (pc := 40) 47 (by decide) (fm_dec dtX11_isRumour 19 rfl) (fun _ => ?_) (fun hc40 => by exfalso; revert hc40; decide)
          refine fm_iconst (pc := 47) (v := 0) (by decide) (fm_dec dtX11_isRumour 22 rfl) ?_
          exact fm_zreturn (pc := 48) rfl rfl (fm_dec dtX11_isRumour 23 rfl) (by first | exact hq ⟨hi4, hi15, hi26, hi37⟩ | exact hn (fun h => hn4 h.1) | exact hn (fun h => hn15 h.2.1) | exact hn (fun h => hn26 h.2.2.1) | exact hn (fun h => hn37 h.2.2.2))
      · refine fm_then1 ?_
        refine fm_if_eq (pc := 29) 47 (by decide) (fm_dec dtX11_isRumour 14 rfl) (fun _ => ?_) (fun hc29 => by exfalso; revert hc29; decide)
        refine fm_iconst (pc := 47) (v := 0) (by decide) (fm_dec dtX11_isRumour 22 rfl) ?_
        exact fm_zreturn (pc := 48) rfl rfl (fm_dec dtX11_isRumour 23 rfl) (by first | exact hq ⟨hi4, hi15, hi26, hi37⟩ | exact hn (fun h => hn4 h.1) | exact hn (fun h => hn15 h.2.1) | exact hn (fun h => hn26 h.2.2.1) | exact hn (fun h => hn37 h.2.2.2))
    · refine fm_then1 ?_
      refine fm_if_eq (pc := 18) 47 (by decide) (fm_dec dtX11_isRumour 9 rfl) (fun _ => ?_) (fun hc18 => by exfalso; revert hc18; decide)
      refine fm_iconst (pc := 47) (v := 0) (by decide) (fm_dec dtX11_isRumour 22 rfl) ?_
      exact fm_zreturn (pc := 48) rfl rfl (fm_dec dtX11_isRumour 23 rfl) (by first | exact hq ⟨hi4, hi15, hi26, hi37⟩ | exact hn (fun h => hn4 h.1) | exact hn (fun h => hn15 h.2.1) | exact hn (fun h => hn26 h.2.2.1) | exact hn (fun h => hn37 h.2.2.2))
  · refine fm_then1 ?_
    refine fm_if_eq (pc := 7) 47 (by decide) (fm_dec dtX11_isRumour 4 rfl) (fun _ => ?_) (fun hc7 => by exfalso; revert hc7; decide)
    refine fm_iconst (pc := 47) (v := 0) (by decide) (fm_dec dtX11_isRumour 22 rfl) ?_
    exact fm_zreturn (pc := 48) rfl rfl (fm_dec dtX11_isRumour 23 rfl) (by first | exact hq ⟨hi4, hi15, hi26, hi37⟩ | exact hn (fun h => hn4 h.1) | exact hn (fun h => hn15 h.2.1) | exact hn (fun h => hn26 h.2.2.1) | exact hn (fun h => hn37 h.2.2.2))

set_option maxRecDepth 20000 in
theorem m_brings {l : Launch} {G : fmG} {M : fmM} {Q : fmR → fmM → Prop} (hst : l.stackTraces = false) (t b v x y w : Int32) (hq : ∀ M', M'.1 0 0 = 0 → (inR t 0 16 ∧ (inR b 0 16 ∧ inR v 0 999 ∧ inR x 0 999 ∧ inR y 0 999) ∧ inR w 0 2) → Q (.inl (some (.int (meanE t b v x y w)))) M') (hx : ∀ (r9 : Int32) M', M'.1 0 0 = 1 → ¬ (inR t 0 16 ∧ (inR b 0 16 ∧ inR v 0 999 ∧ inR x 0 999 ∧ inR y 0 999) ∧ inR w 0 2) → Q (.inl (some (.int r9))) M') : fmGood Tm l G 2 qX11_brings [.ref (G.1 0), .int t, .int b, .int v, .int x, .int y, .int w] M Q := by
  refine fmGood_of hst (by decide +kernel) (Nat.le_of_ble_eq_true rfl) ?_
  show fmEv Tm l G 2 qX11_brings 0 [some (.ref (G.1 0)), some (.int t), some (.int b), some (.int v), some (.int x), some (.int y), some (.int w)] [] M Q
  refine fm_aloadn (pc := 0) (n := 0) 0 rfl rfl (fm_dec dtX11_brings 0 rfl) ?_
  refine fm_iconst (pc := 1) (v := 0) (by decide) (fm_dec dtX11_brings 1 rfl) ?_
  refine fm_putI (k := 0) (j := 0) (ci := 11) (pc := 2) fl_X11_101 (by decide) rfl (by decide) rfl rfl (fm_dec dtX11_brings 2 rfl) ?_
  refine fm_aloadn (pc := 5) (n := 0) 0 rfl rfl (fm_dec dtX11_brings 3 rfl) ?_
  refine fm_iloadn (pc := 6) (n := 1) 1 rfl rfl (fm_dec dtX11_brings 4 rfl) ?_
  refine fm_iconst (pc := 7) (v := 0) (by decide) (fm_dec dtX11_brings 5 rfl) ?_
  refine fm_bipush (pc := 8) (v := 16) (by decide) (fm_dec dtX11_brings 6 rfl) ?_
  refine fm_invS3 (d' := 0) (pc := 10) cs_X11_135 (Nat.le_of_ble_eq_true rfl) (by decide) (fm_dec dtX11_brings 7 rfl) ?_
  refine d_in hst _ _ _ (fun hi10 => ?_) (fun hn10 => ?_)
  · refine fm_then1 ?_
    refine fm_if_eq (pc := 13) 38 (by decide) (fm_dec dtX11_brings 8 rfl) (fun hc13 => by exfalso; revert hc13; decide) (fun _ => ?_)
    refine fm_iloadn (pc := 16) (n := 2) 2 rfl rfl (fm_dec dtX11_brings 9 rfl) ?_
    refine fm_iloadn (pc := 17) (n := 3) 3 rfl rfl (fm_dec dtX11_brings 10 rfl) ?_
    refine fm_iload (pc := 18) (i := 4) rfl (fm_dec dtX11_brings 11 rfl) ?_
    refine fm_iload (pc := 20) (i := 5) rfl (fm_dec dtX11_brings 12 rfl) ?_
    refine fm_invS4 (d' := 1) (pc := 22) cs_X11_389 (Nat.le_of_ble_eq_true rfl) (by decide) (fm_dec dtX11_brings 13 rfl) ?_
    refine d_isRumour hst _ _ _ _ (fun hi22 => ?_) (fun hn22 => ?_)
    · refine fm_then1 ?_
      refine fm_if_eq (pc := 25) 38 (by decide) (fm_dec dtX11_brings 14 rfl) (fun hc25 => by exfalso; revert hc25; decide) (fun _ => ?_)
      refine fm_iload (pc := 28) (i := 6) rfl (fm_dec dtX11_brings 15 rfl) ?_
      refine fm_iconst (pc := 30) (v := 0) (by decide) (fm_dec dtX11_brings 16 rfl) ?_
      refine fm_iconst (pc := 31) (v := 2) (by decide) (fm_dec dtX11_brings 17 rfl) ?_
      refine fm_invS3 (d' := 0) (pc := 32) cs_X11_135 (Nat.le_of_ble_eq_true rfl) (by decide) (fm_dec dtX11_brings 18 rfl) ?_
      refine d_in hst _ _ _ (fun hi32 => ?_) (fun hn32 => ?_)
      · refine fm_then1 ?_
        refine fm_if_ne (pc := 35) 42 (by decide) (fm_dec dtX11_brings 19 rfl) (fun _ => ?_) (fun hc35 => by exfalso; revert hc35; decide)
        refine fm_iconst (pc := 42) (v := 0) (by decide) (fm_dec dtX11_brings 22 rfl) ?_
        refine fm_iconst (pc := 43) (v := 1) (by decide) (fm_dec dtX11_brings 23 rfl) ?_
        refine fm_iconst (pc := 44) (v := 1) (by decide) (fm_dec dtX11_brings 24 rfl) ?_
        refine fm_invV3 (k := 0) (d' := 0) (pc := 45) cv_X11_177 (by decide) rfl (Nat.le_of_ble_eq_true rfl) (by decide) (fm_dec dtX11_brings 25 rfl) ?_
        refine d_bad0 hst _ _ (by first | exact h0 | simp [fmI, upd]) ?_
        refine fm_then1 ?_
        refine fm_if_eq (pc := 48) 53 (by decide) (fm_dec dtX11_brings 26 rfl) (fun _ => ?_) (fun hc48 => by exfalso; revert hc48; decide)
        refine fm_iloadn (pc := 53) (n := 1) 1 rfl rfl (fm_dec dtX11_brings 29 rfl) ?_
        refine fm_iloadn (pc := 54) (n := 2) 2 rfl rfl (fm_dec dtX11_brings 30 rfl) ?_
        refine fm_iloadn (pc := 55) (n := 3) 3 rfl rfl (fm_dec dtX11_brings 31 rfl) ?_
        refine fm_iload (pc := 56) (i := 4) rfl (fm_dec dtX11_brings 32 rfl) ?_
        refine fm_iload (pc := 58) (i := 5) rfl (fm_dec dtX11_brings 33 rfl) ?_
        refine fm_iload (pc := 60) (i := 6) rfl (fm_dec dtX11_brings 34 rfl) ?_
        refine fm_invS6 (d' := 0) (pc := 62) cs_X11_393 (Nat.le_of_ble_eq_true rfl) (by decide) (fm_dec dtX11_brings 35 rfl) ?_
        refine d_bringsBy hst _ _ _ _ _ _ hi32 ?_
        refine fm_then1 ?_
        exact fm_ireturn (pc := 65) rfl (fm_dec dtX11_brings 36 rfl) (hq _ (by first | exact hth | simp [fmI, fmJ, upd]) ⟨hi10, hi22, hi32⟩)
      · refine fm_then1 ?_
        refine fm_if_ne (pc := 35) 42 (by decide) (fm_dec dtX11_brings 19 rfl) (fun hc35 => by exfalso; revert hc35; decide) (fun _ => ?_)
        refine fm_iconst (pc := 38) (v := 1) (by decide) (fm_dec dtX11_brings 20 rfl) ?_
        refine fm_goto (pc := 39) 43 (by decide) (fm_dec dtX11_brings 21 rfl) ?_
        refine fm_iconst (pc := 43) (v := 1) (by decide) (fm_dec dtX11_brings 23 rfl) ?_
        refine fm_iconst (pc := 44) (v := 1) (by decide) (fm_dec dtX11_brings 24 rfl) ?_
        refine fm_invV3 (k := 0) (d' := 0) (pc := 45) cv_X11_177 (by decide) rfl (Nat.le_of_ble_eq_true rfl) (by decide) (fm_dec dtX11_brings 25 rfl) ?_
        refine d_bad1_1 hst _ (by first | exact h0 | simp [fmI, upd]) (by decide) (fun Mb hb => ?_)
        refine fm_then1 ?_
        refine fm_if_eq (pc := 48) 53 (by decide) (fm_dec dtX11_brings 26 rfl) (fun hc48 => by exfalso; revert hc48; decide) (fun _ => ?_)
        refine fm_iconst (pc := 51) (v := 0) (by decide) (fm_dec dtX11_brings 27 rfl) ?_
        exact fm_ireturn (pc := 52) rfl (fm_dec dtX11_brings 28 rfl) (hx _ _ hb (fun h => by first | exact hn10 h.1 | exact hn22 h.2.1 | exact hn32 h.2.2))
    · refine fm_then1 ?_
      refine fm_if_eq (pc := 25) 38 (by decide) (fm_dec dtX11_brings 14 rfl) (fun _ => ?_) (fun hc25 => by exfalso; revert hc25; decide)
      refine fm_iconst (pc := 38) (v := 1) (by decide) (fm_dec dtX11_brings 20 rfl) ?_
      refine fm_goto (pc := 39) 43 (by decide) (fm_dec dtX11_brings 21 rfl) ?_
      refine fm_iconst (pc := 43) (v := 1) (by decide) (fm_dec dtX11_brings 23 rfl) ?_
      refine fm_iconst (pc := 44) (v := 1) (by decide) (fm_dec dtX11_brings 24 rfl) ?_
      refine fm_invV3 (k := 0) (d' := 0) (pc := 45) cv_X11_177 (by decide) rfl (Nat.le_of_ble_eq_true rfl) (by decide) (fm_dec dtX11_brings 25 rfl) ?_
      refine d_bad1_1 hst _ (by first | exact h0 | simp [fmI, upd]) (by decide) (fun Mb hb => ?_)
      refine fm_then1 ?_
      refine fm_if_eq (pc := 48) 53 (by decide) (fm_dec dtX11_brings 26 rfl) (fun hc48 => by exfalso; revert hc48; decide) (fun _ => ?_)
      refine fm_iconst (pc := 51) (v := 0) (by decide) (fm_dec dtX11_brings 27 rfl) ?_
      exact fm_ireturn (pc := 52) rfl (fm_dec dtX11_brings 28 rfl) (hx _ _ hb (fun h => by first | exact hn10 h.1 | exact hn22 h.2.1 | exact hn32 h.2.2))
  · refine fm_then1 ?_
    refine fm_if_eq (pc := 13) 38 (by decide) (fm_dec dtX11_brings 8 rfl) (fun _ => ?_) (fun hc13 => by exfalso; revert hc13; decide)
    refine fm_iconst (pc := 38) (v := 1) (by decide) (fm_dec dtX11_brings 20 rfl) ?_
    refine fm_goto (pc := 39) 43 (by decide) (fm_dec dtX11_brings 21 rfl) ?_
    refine fm_iconst (pc := 43) (v := 1) (by decide) (fm_dec dtX11_brings 23 rfl) ?_
    refine fm_iconst (pc := 44) (v := 1) (by decide) (fm_dec dtX11_brings 24 rfl) ?_
    refine fm_invV3 (k := 0) (d' := 0) (pc := 45) cv_X11_177 (by decide) rfl (Nat.le_of_ble_eq_true rfl) (by decide) (fm_dec dtX11_brings 25 rfl) ?_
    refine d_bad1_1 hst _ (by first | exact h0 | simp [fmI, upd]) (by decide) (fun Mb hb => ?_)
    refine fm_then1 ?_
    refine fm_if_eq (pc := 48) 53 (by decide) (fm_dec dtX11_brings 26 rfl) (fun hc48 => by exfalso; revert hc48; decide) (fun _ => ?_)
    refine fm_iconst (pc := 51) (v := 0) (by decide) (fm_dec dtX11_brings 27 rfl) ?_
    exact fm_ireturn (pc := 52) rfl (fm_dec dtX11_brings 28 rfl) (hx _ _ hb (fun h => by first | exact hn10 h.1 | exact hn22 h.2.1 | exact hn32 h.2.2))

set_option maxRecDepth 20000 in
theorem m_says {l : Launch} {G : fmG} {M : fmM} {Q : fmR → fmM → Prop} (hst : l.stackTraces = false) (t b v x y : Int32) (hq : ∀ M', M'.1 0 0 = 0 → (inR t 0 16 ∧ (inR b 0 16 ∧ inR v 0 999 ∧ inR x 0 999 ∧ inR y 0 999)) → Q (.inl (some (.int (saysE t b v x y)))) M') (hx : ∀ (r9 : Int32) M', M'.1 0 0 = 1 → ¬ (inR t 0 16 ∧ (inR b 0 16 ∧ inR v 0 999 ∧ inR x 0 999 ∧ inR y 0 999)) → Q (.inl (some (.int r9))) M') : fmGood Tm l G 2 qX11_says [.ref (G.1 0), .int t, .int b, .int v, .int x, .int y] M Q := by
  refine fmGood_of hst (by decide +kernel) (Nat.le_of_ble_eq_true rfl) ?_
  show fmEv Tm l G 2 qX11_says 0 [some (.ref (G.1 0)), some (.int t), some (.int b), some (.int v), some (.int x), some (.int y)] [] M Q
  refine fm_aloadn (pc := 0) (n := 0) 0 rfl rfl (fm_dec dtX11_says 0 rfl) ?_
  refine fm_iconst (pc := 1) (v := 0) (by decide) (fm_dec dtX11_says 1 rfl) ?_
  refine fm_putI (k := 0) (j := 0) (ci := 11) (pc := 2) fl_X11_101 (by decide) rfl (by decide) rfl rfl (fm_dec dtX11_says 2 rfl) ?_
  refine fm_aloadn (pc := 5) (n := 0) 0 rfl rfl (fm_dec dtX11_says 3 rfl) ?_
  refine fm_iloadn (pc := 6) (n := 1) 1 rfl rfl (fm_dec dtX11_says 4 rfl) ?_
  refine fm_iconst (pc := 7) (v := 0) (by decide) (fm_dec dtX11_says 5 rfl) ?_
  refine fm_bipush (pc := 8) (v := 16) (by decide) (fm_dec dtX11_says 6 rfl) ?_
  refine fm_invS3 (d' := 0) (pc := 10) cs_X11_135 (Nat.le_of_ble_eq_true rfl) (by decide) (fm_dec dtX11_says 7 rfl) ?_
  refine d_in hst _ _ _ (fun hi10 => ?_) (fun hn10 => ?_)
  · refine fm_then1 ?_
    refine fm_if_eq (pc := 13) 28 (by decide) (fm_dec dtX11_says 8 rfl) (fun hc13 => by exfalso; revert hc13; decide) (fun _ => ?_)
    refine fm_iloadn (pc := 16) (n := 2) 2 rfl rfl (fm_dec dtX11_says 9 rfl) ?_
    refine fm_iloadn (pc := 17) (n := 3) 3 rfl rfl (fm_dec dtX11_says 10 rfl) ?_
    refine fm_iload (pc := 18) (i := 4) rfl (fm_dec dtX11_says 11 rfl) ?_
    refine fm_iload (pc := 20) (i := 5) rfl (fm_dec dtX11_says 12 rfl) ?_
    refine fm_invS4 (d' := 1) (pc := 22) cs_X11_389 (Nat.le_of_ble_eq_true rfl) (by decide) (fm_dec dtX11_says 13 rfl) ?_
    refine d_isRumour hst _ _ _ _ (fun hi22 => ?_) (fun hn22 => ?_)
    · refine fm_then1 ?_
      refine fm_if_ne (pc := 25) 32 (by decide) (fm_dec dtX11_says 14 rfl) (fun _ => ?_) (fun hc25 => by exfalso; revert hc25; decide)
      refine fm_iconst (pc := 32) (v := 0) (by decide) (fm_dec dtX11_says 17 rfl) ?_
      refine fm_iconst (pc := 33) (v := 1) (by decide) (fm_dec dtX11_says 18 rfl) ?_
      refine fm_iconst (pc := 34) (v := 1) (by decide) (fm_dec dtX11_says 19 rfl) ?_
      refine fm_invV3 (k := 0) (d' := 0) (pc := 35) cv_X11_177 (by decide) rfl (Nat.le_of_ble_eq_true rfl) (by decide) (fm_dec dtX11_says 20 rfl) ?_
      refine d_bad0 hst _ _ (by first | exact h0 | simp [fmI, upd]) ?_
      refine fm_then1 ?_
      refine fm_if_eq (pc := 38) 43 (by decide) (fm_dec dtX11_says 21 rfl) (fun _ => ?_) (fun hc38 => by exfalso; revert hc38; decide)
      refine fm_iloadn (pc := 43) (n := 1) 1 rfl rfl (fm_dec dtX11_says 24 rfl) ?_
      refine fm_iloadn (pc := 44) (n := 2) 2 rfl rfl (fm_dec dtX11_says 25 rfl) ?_
      refine fm_iloadn (pc := 45) (n := 3) 3 rfl rfl (fm_dec dtX11_says 26 rfl) ?_
      refine fm_iload (pc := 46) (i := 4) rfl (fm_dec dtX11_says 27 rfl) ?_
      refine fm_iload (pc := 48) (i := 5) rfl (fm_dec dtX11_says 28 rfl) ?_
      refine fm_invS5 (d' := 1) (pc := 50) cs_X11_397 (Nat.le_of_ble_eq_true rfl) (by decide) (fm_dec dtX11_says 29 rfl) ?_
      refine d_saysBy hst _ _ _ _ _ ?_
      refine fm_then1 ?_
      exact fm_ireturn (pc := 53) rfl (fm_dec dtX11_says 30 rfl) (hq _ (by first | exact hth | simp [fmI, fmJ, upd]) ⟨hi10, hi22⟩)
    · refine fm_then1 ?_
      refine fm_if_ne (pc := 25) 32 (by decide) (fm_dec dtX11_says 14 rfl) (fun hc25 => by exfalso; revert hc25; decide) (fun _ => ?_)
      refine fm_iconst (pc := 28) (v := 1) (by decide) (fm_dec dtX11_says 15 rfl) ?_
      refine fm_goto (pc := 29) 33 (by decide) (fm_dec dtX11_says 16 rfl) ?_
      refine fm_iconst (pc := 33) (v := 1) (by decide) (fm_dec dtX11_says 18 rfl) ?_
      refine fm_iconst (pc := 34) (v := 1) (by decide) (fm_dec dtX11_says 19 rfl) ?_
      refine fm_invV3 (k := 0) (d' := 0) (pc := 35) cv_X11_177 (by decide) rfl (Nat.le_of_ble_eq_true rfl) (by decide) (fm_dec dtX11_says 20 rfl) ?_
      refine d_bad1_1 hst _ (by first | exact h0 | simp [fmI, upd]) (by decide) (fun Mb hb => ?_)
      refine fm_then1 ?_
      refine fm_if_eq (pc := 38) 43 (by decide) (fm_dec dtX11_says 21 rfl) (fun hc38 => by exfalso; revert hc38; decide) (fun _ => ?_)
      refine fm_iconst (pc := 41) (v := 0) (by decide) (fm_dec dtX11_says 22 rfl) ?_
      exact fm_ireturn (pc := 42) rfl (fm_dec dtX11_says 23 rfl) (hx _ _ hb (fun h => by first | exact hn10 h.1 | exact hn22 h.2))
  · refine fm_then1 ?_
    refine fm_if_eq (pc := 13) 28 (by decide) (fm_dec dtX11_says 8 rfl) (fun _ => ?_) (fun hc13 => by exfalso; revert hc13; decide)
    refine fm_iconst (pc := 28) (v := 1) (by decide) (fm_dec dtX11_says 15 rfl) ?_
    refine fm_goto (pc := 29) 33 (by decide) (fm_dec dtX11_says 16 rfl) ?_
    refine fm_iconst (pc := 33) (v := 1) (by decide) (fm_dec dtX11_says 18 rfl) ?_
    refine fm_iconst (pc := 34) (v := 1) (by decide) (fm_dec dtX11_says 19 rfl) ?_
    refine fm_invV3 (k := 0) (d' := 0) (pc := 35) cv_X11_177 (by decide) rfl (Nat.le_of_ble_eq_true rfl) (by decide) (fm_dec dtX11_says 20 rfl) ?_
    refine d_bad1_1 hst _ (by first | exact h0 | simp [fmI, upd]) (by decide) (fun Mb hb => ?_)
    refine fm_then1 ?_
    refine fm_if_eq (pc := 38) 43 (by decide) (fm_dec dtX11_says 21 rfl) (fun hc38 => by exfalso; revert hc38; decide) (fun _ => ?_)
    refine fm_iconst (pc := 41) (v := 0) (by decide) (fm_dec dtX11_says 22 rfl) ?_
    exact fm_ireturn (pc := 42) rfl (fm_dec dtX11_says 23 rfl) (hx _ _ hb (fun h => by first | exact hn10 h.1 | exact hn22 h.2))

set_option maxRecDepth 20000 in
theorem mli_loop {l : Launch} {G : fmG} {Q : fmR → fmM → Prop} (hst : l.stackTraces = false) {M : fmM} (b v x y : Int32) : ∀ (n i : Nat), i + n = 17 → Q (.inl (some (.int (lineE b v x y n i)))) M → fmEv Tm l G 2 qX11_line 35 [some (.ref (G.1 0)), some (.int b), some (.int v), some (.int x), some (.int y), some (.int (nI i))] [] M Q := by
  intro n
  induction n with
  | zero =>
    intro i hi hq
    have e : i = 17 := by omega
    subst e
    refine fm_iload (pc := 35) (i := 5) rfl (fm_dec dtX11_line 21 rfl) ?_
    refine fm_bipush (pc := 37) (v := 16) (by decide) (fm_dec dtX11_line 22 rfl) ?_
    refine fm_icmp_gt (pc := 39) 64 (by decide) (fm_dec dtX11_line 23 rfl) (fun _ => ?_) (fun hc39 => by exfalso; revert hc39; decide)
    refine fm_iconst (pc := 64) (v := (-1)) (by decide) (fm_dec dtX11_line 35 rfl) ?_
    exact fm_ireturn (pc := 65) rfl (fm_dec dtX11_line 36 rfl) hq
  | succ n ih =>
    intro i hi hq
    refine fm_iload (pc := 35) (i := 5) rfl (fm_dec dtX11_line 21 rfl) ?_
    refine fm_bipush (pc := 37) (v := 16) (by decide) (fm_dec dtX11_line 22 rfl) ?_
    refine fm_icmp_gt (pc := 39) 64 (by decide) (fm_dec dtX11_line 23 rfl) (fun hc39 => by exfalso; exact absurd hc39 (by rw [show (16 : Int32) = nI 16 by decide]; exact nI_nlt (by omega) (by decide))) (fun _ => ?_)
    refine fm_iload (pc := 42) (i := 5) rfl (fm_dec dtX11_line 24 rfl) ?_
    refine fm_iloadn (pc := 44) (n := 1) 1 rfl rfl (fm_dec dtX11_line 25 rfl) ?_
    refine fm_iloadn (pc := 45) (n := 2) 2 rfl rfl (fm_dec dtX11_line 26 rfl) ?_
    refine fm_iloadn (pc := 46) (n := 3) 3 rfl rfl (fm_dec dtX11_line 27 rfl) ?_
    refine fm_iload (pc := 47) (i := 4) rfl (fm_dec dtX11_line 28 rfl) ?_
    refine fm_invS5 (d' := 1) (pc := 49) cs_X11_397 (Nat.le_of_ble_eq_true rfl) (by decide) (fm_dec dtX11_line 29 rfl) ?_
    refine d_saysBy hst _ _ _ _ _ ?_
    refine fm_then1 ?_
    refine fm_if_ne (pc := 52) 58 (by decide) (fm_dec dtX11_line 30 rfl) (fun hc52 => ?_) (fun hc52 => ?_)
    · refine fm_iincc (pc := 58) 5 1 (by decide) rfl (by decide) rfl (fm_dec dtX11_line 33 rfl) ?_
      dsimp only [List.set_cons_zero, List.set_cons_succ]
      refine fm_goto (pc := 61) 35 (by decide) (fm_dec dtX11_line 34 rfl) ?_
      rw [show nI i + 1 = nI (i + 1) from nI_1 i]
      exact ih (i + 1) (by omega) (by have hq := hq; simp only [lineE] at hq; rw [if_neg hc52] at hq; exact hq)
    · refine fm_iload (pc := 55) (i := 5) rfl (fm_dec dtX11_line 31 rfl) ?_
      exact fm_ireturn (pc := 57) rfl (fm_dec dtX11_line 32 rfl) (by have hq := hq; simp only [lineE] at hq; rw [if_pos hc52] at hq; exact hq)

set_option maxRecDepth 20000 in
theorem m_line {l : Launch} {G : fmG} {M : fmM} {Q : fmR → fmM → Prop} (hst : l.stackTraces = false) (b v x y : Int32) (hq : ∀ M', M'.1 0 0 = 0 → (inR b 0 16 ∧ inR v 0 999 ∧ inR x 0 999 ∧ inR y 0 999) → Q (.inl (some (.int (lineE b v x y 17 0)))) M') (hx : ∀ (r9 : Int32) M', M'.1 0 0 = 1 → ¬ (inR b 0 16 ∧ inR v 0 999 ∧ inR x 0 999 ∧ inR y 0 999) → Q (.inl (some (.int r9))) M') : fmGood Tm l G 2 qX11_line [.ref (G.1 0), .int b, .int v, .int x, .int y] M Q := by
  refine fmGood_of hst (by decide +kernel) (Nat.le_of_ble_eq_true rfl) ?_
  show fmEv Tm l G 2 qX11_line 0 [some (.ref (G.1 0)), some (.int b), some (.int v), some (.int x), some (.int y), none] [] M Q
  refine fm_aloadn (pc := 0) (n := 0) 0 rfl rfl (fm_dec dtX11_line 0 rfl) ?_
  refine fm_iconst (pc := 1) (v := 0) (by decide) (fm_dec dtX11_line 1 rfl) ?_
  refine fm_putI (k := 0) (j := 0) (ci := 11) (pc := 2) fl_X11_101 (by decide) rfl (by decide) rfl rfl (fm_dec dtX11_line 2 rfl) ?_
  refine fm_aloadn (pc := 5) (n := 0) 0 rfl rfl (fm_dec dtX11_line 3 rfl) ?_
  refine fm_iloadn (pc := 6) (n := 1) 1 rfl rfl (fm_dec dtX11_line 4 rfl) ?_
  refine fm_iloadn (pc := 7) (n := 2) 2 rfl rfl (fm_dec dtX11_line 5 rfl) ?_
  refine fm_iloadn (pc := 8) (n := 3) 3 rfl rfl (fm_dec dtX11_line 6 rfl) ?_
  refine fm_iload (pc := 9) (i := 4) rfl (fm_dec dtX11_line 7 rfl) ?_
  refine fm_invS4 (d' := 1) (pc := 11) cs_X11_389 (Nat.le_of_ble_eq_true rfl) (by decide) (fm_dec dtX11_line 8 rfl) ?_
  refine d_isRumour hst _ _ _ _ (fun hi11 => ?_) (fun hn11 => ?_)
  · refine fm_then1 ?_
    refine fm_if_ne (pc := 14) 21 (by decide) (fm_dec dtX11_line 9 rfl) (fun _ => ?_) (fun hc14 => by exfalso; revert hc14; decide)
    refine fm_iconst (pc := 21) (v := 0) (by decide) (fm_dec dtX11_line 12 rfl) ?_
    refine fm_iconst (pc := 22) (v := 1) (by decide) (fm_dec dtX11_line 13 rfl) ?_
    refine fm_iconst (pc := 23) (v := 1) (by decide) (fm_dec dtX11_line 14 rfl) ?_
    refine fm_invV3 (k := 0) (d' := 0) (pc := 24) cv_X11_177 (by decide) rfl (Nat.le_of_ble_eq_true rfl) (by decide) (fm_dec dtX11_line 15 rfl) ?_
    refine d_bad0 hst _ _ (by first | exact h0 | simp [fmI, upd]) ?_
    refine fm_then1 ?_
    refine fm_if_eq (pc := 27) 32 (by decide) (fm_dec dtX11_line 16 rfl) (fun _ => ?_) (fun hc27 => by exfalso; revert hc27; decide)
    refine fm_iconst (pc := 32) (v := 0) (by decide) (fm_dec dtX11_line 19 rfl) ?_
    refine fm_istore (pc := 33) (i := 5) (by decide) rfl (fm_dec dtX11_line 20 rfl) ?_
    dsimp only [List.set_cons_zero, List.set_cons_succ]
    exact mli_loop hst b v x y 17 0 (by omega) (hq _ (by first | exact hth | simp [fmI, fmJ, upd]) hi11)
  · refine fm_then1 ?_
    refine fm_if_ne (pc := 14) 21 (by decide) (fm_dec dtX11_line 9 rfl) (fun hc14 => by exfalso; revert hc14; decide) (fun _ => ?_)
    refine fm_iconst (pc := 17) (v := 1) (by decide) (fm_dec dtX11_line 10 rfl) ?_
    refine fm_goto (pc := 18) 22 (by decide) (fm_dec dtX11_line 11 rfl) ?_
    refine fm_iconst (pc := 22) (v := 1) (by decide) (fm_dec dtX11_line 13 rfl) ?_
    refine fm_iconst (pc := 23) (v := 1) (by decide) (fm_dec dtX11_line 14 rfl) ?_
    refine fm_invV3 (k := 0) (d' := 0) (pc := 24) cv_X11_177 (by decide) rfl (Nat.le_of_ble_eq_true rfl) (by decide) (fm_dec dtX11_line 15 rfl) ?_
    refine d_bad1_1 hst _ (by first | exact h0 | simp [fmI, upd]) (by decide) (fun Mb hb => ?_)
    refine fm_then1 ?_
    refine fm_if_eq (pc := 27) 32 (by decide) (fm_dec dtX11_line 16 rfl) (fun hc27 => by exfalso; revert hc27; decide) (fun _ => ?_)
    refine fm_iconst (pc := 30) (v := 0) (by decide) (fm_dec dtX11_line 17 rfl) ?_
    exact fm_ireturn (pc := 31) rfl (fm_dec dtX11_line 18 rfl) (hx _ _ hb hn11)

set_option maxRecDepth 20000 in
theorem d_areLives0 {l : Launch} {G : fmG} {M : fmM} {Q : fmR → fmM → Prop} (hst : l.stackTraces = false) (b : Int32) (hl : M.1 4 0 = 0) (hq : inR b 0 0 → Q (.inl (some (.int 1))) M) (hn : ¬ inR b 0 0 → Q (.inl (some (.int 0))) M) : fmGood Tm l G 1 qX11_areLives [.ref (G.1 0), .int b] M Q := by
  refine fmGood_of hst (by decide +kernel) (Nat.le_of_ble_eq_true rfl) ?_
  show fmEv Tm l G 1 qX11_areLives 0 [some (.ref (G.1 0)), some (.int b)] [] M Q
  refine fm_iloadn (pc := 0) (n := 1) 1 rfl rfl (fm_dec dtX11_areLives 0 rfl) ?_
  refine fm_iconst (pc := 1) (v := 0) (by decide) (fm_dec dtX11_areLives 1 rfl) ?_
  refine fm_iconst (pc := 2) (v := 1) (by decide) (fm_dec dtX11_areLives 2 rfl) ?_
  refine fm_aloadn (pc := 3) (n := 0) 0 rfl rfl (fm_dec dtX11_areLives 3 rfl) ?_
  refine fm_getR (k := 0) (j := 12) (ci := 11) (pc := 4) 4 rfl fl_X11_23 (by decide) rfl (by decide) (by decide) (fm_dec dtX11_areLives 4 rfl) ?_
  refine fm_iconst (pc := 7) (v := 0) (by decide) (fm_dec dtX11_areLives 5 rfl) ?_
  refine fm_iald (k := 4) (n := 6) (pc := 8) (by decide) rfl rfl (fm_inl (by decide)) (fm_dec dtX11_areLives 6 rfl) ?_
  refine fm_ishl (pc := 9) (fm_dec dtX11_areLives 7 rfl) ?_
  refine fm_iconst (pc := 10) (v := 1) (by decide) (fm_dec dtX11_areLives 8 rfl) ?_
  refine fm_isub (pc := 11) (fm_dec dtX11_areLives 9 rfl) ?_
  refine fm_topE (v := 0) (by show ((1 : Int32) <<< (M.1 4 0 &&& 31)) - 1 = 0; rw [hl]; decide) ?_
  refine fm_invS3 (d' := 0) (pc := 12) cs_X11_135 (Nat.le_of_ble_eq_true rfl) (by decide) (fm_dec dtX11_areLives 10 rfl) ?_
  refine d_in hst _ _ _ (fun hi12 => ?_) (fun hn12 => ?_)
  · refine fm_then1 ?_
    exact fm_zreturn (pc := 15) rfl rfl (fm_dec dtX11_areLives 11 rfl) (by first | exact hq hi12 | exact hn hn12)
  · refine fm_then1 ?_
    exact fm_zreturn (pc := 15) rfl rfl (fm_dec dtX11_areLives 11 rfl) (by first | exact hq hi12 | exact hn hn12)

set_option maxRecDepth 20000 in
theorem d_rooms0 {l : Launch} {G : fmG} {M : fmM} {Q : fmR → fmM → Prop} (hst : l.stackTraces = false) (b r : Int32) (hl : M.1 4 0 = 0) (h46 : M.1 0 46 = -1) (hq : ∀ M', M'.1 0 46 = 0 → M'.1 0 0 = M.1 0 0 → Q (.inl none) M') : fmGood Tm l G 1 qX11_rooms [.ref (G.1 0), .int 0, .int b, .int r, .int 0] M Q := by
  refine fmGood_of hst (by decide +kernel) (Nat.le_of_ble_eq_true rfl) ?_
  show fmEv Tm l G 1 qX11_rooms 0 [some (.ref (G.1 0)), some (.int 0), some (.int b), some (.int r), some (.int 0), none] [] M Q
  refine fm_iloadn (pc := 0) (n := 1) 1 rfl rfl (fm_dec dtX11_rooms 0 rfl) ?_
  refine fm_aloadn (pc := 1) (n := 0) 0 rfl rfl (fm_dec dtX11_rooms 1 rfl) ?_
  refine fm_getR (k := 0) (j := 12) (ci := 11) (pc := 2) 4 rfl fl_X11_23 (by decide) rfl (by decide) (by decide) (fm_dec dtX11_rooms 2 rfl) ?_
  refine fm_iconst (pc := 5) (v := 0) (by decide) (fm_dec dtX11_rooms 3 rfl) ?_
  refine fm_iald (k := 4) (n := 6) (pc := 6) (by decide) rfl rfl (fm_inl (by decide)) (fm_dec dtX11_rooms 4 rfl) ?_
  refine fm_icmp_ne (pc := 7) 57 (by decide) (fm_dec dtX11_rooms 5 rfl) (fun hc7 => by exfalso; exact hc7 hl.symm) (fun _ => ?_)
  refine fm_iload (pc := 10) (i := 4) rfl (fm_dec dtX11_rooms 6 rfl) ?_
  refine fm_aloadn (pc := 12) (n := 0) 0 rfl rfl (fm_dec dtX11_rooms 7 rfl) ?_
  refine fm_getI (k := 0) (j := 46) (ci := 11) (pc := 13) fl_X11_400 (by decide) rfl (by decide) rfl (fm_dec dtX11_rooms 8 rfl) ?_
  refine fm_icmp_gt (pc := 16) 20 (by decide) (fm_dec dtX11_rooms 9 rfl) (fun _ => ?_) (fun hc16 => by exfalso; rw [h46] at hc16; exact hc16 (by decide))
  refine fm_aloadn (pc := 20) (n := 0) 0 rfl rfl (fm_dec dtX11_rooms 11 rfl) ?_
  refine fm_iload (pc := 21) (i := 4) rfl (fm_dec dtX11_rooms 12 rfl) ?_
  refine fm_putI (k := 0) (j := 46) (ci := 11) (pc := 23) fl_X11_400 (by decide) rfl (by decide) rfl rfl (fm_dec dtX11_rooms 13 rfl) ?_
  refine fm_iconst (pc := 26) (v := 0) (by decide) (fm_dec dtX11_rooms 14 rfl) ?_
  refine fm_istore (pc := 27) (i := 5) (by decide) rfl (fm_dec dtX11_rooms 15 rfl) ?_
  dsimp only [List.set_cons_zero, List.set_cons_succ]
  refine fm_iload (pc := 29) (i := 5) rfl (fm_dec dtX11_rooms 16 rfl) ?_
  refine fm_bipush (pc := 31) (v := 8) (by decide) (fm_dec dtX11_rooms 17 rfl) ?_
  refine fm_icmp_ge (pc := 33) 56 (by decide) (fm_dec dtX11_rooms 18 rfl) (fun hc33 => by exfalso; revert hc33; decide) (fun _ => ?_)
  refine fm_aloadn (pc := 36) (n := 0) 0 rfl rfl (fm_dec dtX11_rooms 19 rfl) ?_
  refine fm_getR (k := 0) (j := 45) (ci := 11) (pc := 37) 15 rfl fl_X11_92 (by decide) rfl (by decide) (by decide) (fm_dec dtX11_rooms 20 rfl) ?_
  refine fm_iload (pc := 40) (i := 5) rfl (fm_dec dtX11_rooms 21 rfl) ?_
  refine fm_aloadn (pc := 42) (n := 0) 0 rfl rfl (fm_dec dtX11_rooms 22 rfl) ?_
  refine fm_getR (k := 0) (j := 44) (ci := 11) (pc := 43) 14 rfl fl_X11_89 (by decide) rfl (by decide) (by decide) (fm_dec dtX11_rooms 23 rfl) ?_
  refine fm_iload (pc := 46) (i := 5) rfl (fm_dec dtX11_rooms 24 rfl) ?_
  refine fm_iald (k := 14) (n := 8) (pc := 48) (by decide) rfl rfl (fm_inl (by decide)) (fm_dec dtX11_rooms 25 rfl) ?_
  refine fm_iast (k := 15) (n := 8) (pc := 49) (by decide) rfl rfl (fm_inl (by decide)) (fm_dec dtX11_rooms 26 rfl) ?_
  refine fm_iincc (pc := 50) 5 1 (by decide) rfl (by decide) rfl (fm_dec dtX11_rooms 27 rfl) ?_
  dsimp only [List.set_cons_zero, List.set_cons_succ]
  rw [show (0 : Int32) + 1 = 1 by decide]
  refine fm_goto (pc := 53) 29 (by decide) (fm_dec dtX11_rooms 28 rfl) ?_
  refine fm_iload (pc := 29) (i := 5) rfl (fm_dec dtX11_rooms 16 rfl) ?_
  refine fm_bipush (pc := 31) (v := 8) (by decide) (fm_dec dtX11_rooms 17 rfl) ?_
  refine fm_icmp_ge (pc := 33) 56 (by decide) (fm_dec dtX11_rooms 18 rfl) (fun hc33 => by exfalso; revert hc33; decide) (fun _ => ?_)
  refine fm_aloadn (pc := 36) (n := 0) 0 rfl rfl (fm_dec dtX11_rooms 19 rfl) ?_
  refine fm_getR (k := 0) (j := 45) (ci := 11) (pc := 37) 15 rfl fl_X11_92 (by decide) rfl (by decide) (by decide) (fm_dec dtX11_rooms 20 rfl) ?_
  refine fm_iload (pc := 40) (i := 5) rfl (fm_dec dtX11_rooms 21 rfl) ?_
  refine fm_aloadn (pc := 42) (n := 0) 0 rfl rfl (fm_dec dtX11_rooms 22 rfl) ?_
  refine fm_getR (k := 0) (j := 44) (ci := 11) (pc := 43) 14 rfl fl_X11_89 (by decide) rfl (by decide) (by decide) (fm_dec dtX11_rooms 23 rfl) ?_
  refine fm_iload (pc := 46) (i := 5) rfl (fm_dec dtX11_rooms 24 rfl) ?_
  refine fm_iald (k := 14) (n := 8) (pc := 48) (by decide) rfl rfl (fm_inl (by decide)) (fm_dec dtX11_rooms 25 rfl) ?_
  refine fm_iast (k := 15) (n := 8) (pc := 49) (by decide) rfl rfl (fm_inl (by decide)) (fm_dec dtX11_rooms 26 rfl) ?_
  refine fm_iincc (pc := 50) 5 1 (by decide) rfl (by decide) rfl (fm_dec dtX11_rooms 27 rfl) ?_
  dsimp only [List.set_cons_zero, List.set_cons_succ]
  rw [show (1 : Int32) + 1 = 2 by decide]
  refine fm_goto (pc := 53) 29 (by decide) (fm_dec dtX11_rooms 28 rfl) ?_
  refine fm_iload (pc := 29) (i := 5) rfl (fm_dec dtX11_rooms 16 rfl) ?_
  refine fm_bipush (pc := 31) (v := 8) (by decide) (fm_dec dtX11_rooms 17 rfl) ?_
  refine fm_icmp_ge (pc := 33) 56 (by decide) (fm_dec dtX11_rooms 18 rfl) (fun hc33 => by exfalso; revert hc33; decide) (fun _ => ?_)
  refine fm_aloadn (pc := 36) (n := 0) 0 rfl rfl (fm_dec dtX11_rooms 19 rfl) ?_
  refine fm_getR (k := 0) (j := 45) (ci := 11) (pc := 37) 15 rfl fl_X11_92 (by decide) rfl (by decide) (by decide) (fm_dec dtX11_rooms 20 rfl) ?_
  refine fm_iload (pc := 40) (i := 5) rfl (fm_dec dtX11_rooms 21 rfl) ?_
  refine fm_aloadn (pc := 42) (n := 0) 0 rfl rfl (fm_dec dtX11_rooms 22 rfl) ?_
  refine fm_getR (k := 0) (j := 44) (ci := 11) (pc := 43) 14 rfl fl_X11_89 (by decide) rfl (by decide) (by decide) (fm_dec dtX11_rooms 23 rfl) ?_
  refine fm_iload (pc := 46) (i := 5) rfl (fm_dec dtX11_rooms 24 rfl) ?_
  refine fm_iald (k := 14) (n := 8) (pc := 48) (by decide) rfl rfl (fm_inl (by decide)) (fm_dec dtX11_rooms 25 rfl) ?_
  refine fm_iast (k := 15) (n := 8) (pc := 49) (by decide) rfl rfl (fm_inl (by decide)) (fm_dec dtX11_rooms 26 rfl) ?_
  refine fm_iincc (pc := 50) 5 1 (by decide) rfl (by decide) rfl (fm_dec dtX11_rooms 27 rfl) ?_
  dsimp only [List.set_cons_zero, List.set_cons_succ]
  rw [show (2 : Int32) + 1 = 3 by decide]
  refine fm_goto (pc := 53) 29 (by decide) (fm_dec dtX11_rooms 28 rfl) ?_
  refine fm_iload (pc := 29) (i := 5) rfl (fm_dec dtX11_rooms 16 rfl) ?_
  refine fm_bipush (pc := 31) (v := 8) (by decide) (fm_dec dtX11_rooms 17 rfl) ?_
  refine fm_icmp_ge (pc := 33) 56 (by decide) (fm_dec dtX11_rooms 18 rfl) (fun hc33 => by exfalso; revert hc33; decide) (fun _ => ?_)
  refine fm_aloadn (pc := 36) (n := 0) 0 rfl rfl (fm_dec dtX11_rooms 19 rfl) ?_
  refine fm_getR (k := 0) (j := 45) (ci := 11) (pc := 37) 15 rfl fl_X11_92 (by decide) rfl (by decide) (by decide) (fm_dec dtX11_rooms 20 rfl) ?_
  refine fm_iload (pc := 40) (i := 5) rfl (fm_dec dtX11_rooms 21 rfl) ?_
  refine fm_aloadn (pc := 42) (n := 0) 0 rfl rfl (fm_dec dtX11_rooms 22 rfl) ?_
  refine fm_getR (k := 0) (j := 44) (ci := 11) (pc := 43) 14 rfl fl_X11_89 (by decide) rfl (by decide) (by decide) (fm_dec dtX11_rooms 23 rfl) ?_
  refine fm_iload (pc := 46) (i := 5) rfl (fm_dec dtX11_rooms 24 rfl) ?_
  refine fm_iald (k := 14) (n := 8) (pc := 48) (by decide) rfl rfl (fm_inl (by decide)) (fm_dec dtX11_rooms 25 rfl) ?_
  refine fm_iast (k := 15) (n := 8) (pc := 49) (by decide) rfl rfl (fm_inl (by decide)) (fm_dec dtX11_rooms 26 rfl) ?_
  refine fm_iincc (pc := 50) 5 1 (by decide) rfl (by decide) rfl (fm_dec dtX11_rooms 27 rfl) ?_
  dsimp only [List.set_cons_zero, List.set_cons_succ]
  rw [show (3 : Int32) + 1 = 4 by decide]
  refine fm_goto (pc := 53) 29 (by decide) (fm_dec dtX11_rooms 28 rfl) ?_
  refine fm_iload (pc := 29) (i := 5) rfl (fm_dec dtX11_rooms 16 rfl) ?_
  refine fm_bipush (pc := 31) (v := 8) (by decide) (fm_dec dtX11_rooms 17 rfl) ?_
  refine fm_icmp_ge (pc := 33) 56 (by decide) (fm_dec dtX11_rooms 18 rfl) (fun hc33 => by exfalso; revert hc33; decide) (fun _ => ?_)
  refine fm_aloadn (pc := 36) (n := 0) 0 rfl rfl (fm_dec dtX11_rooms 19 rfl) ?_
  refine fm_getR (k := 0) (j := 45) (ci := 11) (pc := 37) 15 rfl fl_X11_92 (by decide) rfl (by decide) (by decide) (fm_dec dtX11_rooms 20 rfl) ?_
  refine fm_iload (pc := 40) (i := 5) rfl (fm_dec dtX11_rooms 21 rfl) ?_
  refine fm_aloadn (pc := 42) (n := 0) 0 rfl rfl (fm_dec dtX11_rooms 22 rfl) ?_
  refine fm_getR (k := 0) (j := 44) (ci := 11) (pc := 43) 14 rfl fl_X11_89 (by decide) rfl (by decide) (by decide) (fm_dec dtX11_rooms 23 rfl) ?_
  refine fm_iload (pc := 46) (i := 5) rfl (fm_dec dtX11_rooms 24 rfl) ?_
  refine fm_iald (k := 14) (n := 8) (pc := 48) (by decide) rfl rfl (fm_inl (by decide)) (fm_dec dtX11_rooms 25 rfl) ?_
  refine fm_iast (k := 15) (n := 8) (pc := 49) (by decide) rfl rfl (fm_inl (by decide)) (fm_dec dtX11_rooms 26 rfl) ?_
  refine fm_iincc (pc := 50) 5 1 (by decide) rfl (by decide) rfl (fm_dec dtX11_rooms 27 rfl) ?_
  dsimp only [List.set_cons_zero, List.set_cons_succ]
  rw [show (4 : Int32) + 1 = 5 by decide]
  refine fm_goto (pc := 53) 29 (by decide) (fm_dec dtX11_rooms 28 rfl) ?_
  refine fm_iload (pc := 29) (i := 5) rfl (fm_dec dtX11_rooms 16 rfl) ?_
  refine fm_bipush (pc := 31) (v := 8) (by decide) (fm_dec dtX11_rooms 17 rfl) ?_
  refine fm_icmp_ge (pc := 33) 56 (by decide) (fm_dec dtX11_rooms 18 rfl) (fun hc33 => by exfalso; revert hc33; decide) (fun _ => ?_)
  refine fm_aloadn (pc := 36) (n := 0) 0 rfl rfl (fm_dec dtX11_rooms 19 rfl) ?_
  refine fm_getR (k := 0) (j := 45) (ci := 11) (pc := 37) 15 rfl fl_X11_92 (by decide) rfl (by decide) (by decide) (fm_dec dtX11_rooms 20 rfl) ?_
  refine fm_iload (pc := 40) (i := 5) rfl (fm_dec dtX11_rooms 21 rfl) ?_
  refine fm_aloadn (pc := 42) (n := 0) 0 rfl rfl (fm_dec dtX11_rooms 22 rfl) ?_
  refine fm_getR (k := 0) (j := 44) (ci := 11) (pc := 43) 14 rfl fl_X11_89 (by decide) rfl (by decide) (by decide) (fm_dec dtX11_rooms 23 rfl) ?_
  refine fm_iload (pc := 46) (i := 5) rfl (fm_dec dtX11_rooms 24 rfl) ?_
  refine fm_iald (k := 14) (n := 8) (pc := 48) (by decide) rfl rfl (fm_inl (by decide)) (fm_dec dtX11_rooms 25 rfl) ?_
  refine fm_iast (k := 15) (n := 8) (pc := 49) (by decide) rfl rfl (fm_inl (by decide)) (fm_dec dtX11_rooms 26 rfl) ?_
  refine fm_iincc (pc := 50) 5 1 (by decide) rfl (by decide) rfl (fm_dec dtX11_rooms 27 rfl) ?_
  dsimp only [List.set_cons_zero, List.set_cons_succ]
  rw [show (5 : Int32) + 1 = 6 by decide]
  refine fm_goto (pc := 53) 29 (by decide) (fm_dec dtX11_rooms 28 rfl) ?_
  refine fm_iload (pc := 29) (i := 5) rfl (fm_dec dtX11_rooms 16 rfl) ?_
  refine fm_bipush (pc := 31) (v := 8) (by decide) (fm_dec dtX11_rooms 17 rfl) ?_
  refine fm_icmp_ge (pc := 33) 56 (by decide) (fm_dec dtX11_rooms 18 rfl) (fun hc33 => by exfalso; revert hc33; decide) (fun _ => ?_)
  refine fm_aloadn (pc := 36) (n := 0) 0 rfl rfl (fm_dec dtX11_rooms 19 rfl) ?_
  refine fm_getR (k := 0) (j := 45) (ci := 11) (pc := 37) 15 rfl fl_X11_92 (by decide) rfl (by decide) (by decide) (fm_dec dtX11_rooms 20 rfl) ?_
  refine fm_iload (pc := 40) (i := 5) rfl (fm_dec dtX11_rooms 21 rfl) ?_
  refine fm_aloadn (pc := 42) (n := 0) 0 rfl rfl (fm_dec dtX11_rooms 22 rfl) ?_
  refine fm_getR (k := 0) (j := 44) (ci := 11) (pc := 43) 14 rfl fl_X11_89 (by decide) rfl (by decide) (by decide) (fm_dec dtX11_rooms 23 rfl) ?_
  refine fm_iload (pc := 46) (i := 5) rfl (fm_dec dtX11_rooms 24 rfl) ?_
  refine fm_iald (k := 14) (n := 8) (pc := 48) (by decide) rfl rfl (fm_inl (by decide)) (fm_dec dtX11_rooms 25 rfl) ?_
  refine fm_iast (k := 15) (n := 8) (pc := 49) (by decide) rfl rfl (fm_inl (by decide)) (fm_dec dtX11_rooms 26 rfl) ?_
  refine fm_iincc (pc := 50) 5 1 (by decide) rfl (by decide) rfl (fm_dec dtX11_rooms 27 rfl) ?_
  dsimp only [List.set_cons_zero, List.set_cons_succ]
  rw [show (6 : Int32) + 1 = 7 by decide]
  refine fm_goto (pc := 53) 29 (by decide) (fm_dec dtX11_rooms 28 rfl) ?_
  refine fm_iload (pc := 29) (i := 5) rfl (fm_dec dtX11_rooms 16 rfl) ?_
  refine fm_bipush (pc := 31) (v := 8) (by decide) (fm_dec dtX11_rooms 17 rfl) ?_
  refine fm_icmp_ge (pc := 33) 56 (by decide) (fm_dec dtX11_rooms 18 rfl) (fun hc33 => by exfalso; revert hc33; decide) (fun _ => ?_)
  refine fm_aloadn (pc := 36) (n := 0) 0 rfl rfl (fm_dec dtX11_rooms 19 rfl) ?_
  refine fm_getR (k := 0) (j := 45) (ci := 11) (pc := 37) 15 rfl fl_X11_92 (by decide) rfl (by decide) (by decide) (fm_dec dtX11_rooms 20 rfl) ?_
  refine fm_iload (pc := 40) (i := 5) rfl (fm_dec dtX11_rooms 21 rfl) ?_
  refine fm_aloadn (pc := 42) (n := 0) 0 rfl rfl (fm_dec dtX11_rooms 22 rfl) ?_
  refine fm_getR (k := 0) (j := 44) (ci := 11) (pc := 43) 14 rfl fl_X11_89 (by decide) rfl (by decide) (by decide) (fm_dec dtX11_rooms 23 rfl) ?_
  refine fm_iload (pc := 46) (i := 5) rfl (fm_dec dtX11_rooms 24 rfl) ?_
  refine fm_iald (k := 14) (n := 8) (pc := 48) (by decide) rfl rfl (fm_inl (by decide)) (fm_dec dtX11_rooms 25 rfl) ?_
  refine fm_iast (k := 15) (n := 8) (pc := 49) (by decide) rfl rfl (fm_inl (by decide)) (fm_dec dtX11_rooms 26 rfl) ?_
  refine fm_iincc (pc := 50) 5 1 (by decide) rfl (by decide) rfl (fm_dec dtX11_rooms 27 rfl) ?_
  dsimp only [List.set_cons_zero, List.set_cons_succ]
  rw [show (7 : Int32) + 1 = 8 by decide]
  refine fm_goto (pc := 53) 29 (by decide) (fm_dec dtX11_rooms 28 rfl) ?_
  refine fm_iload (pc := 29) (i := 5) rfl (fm_dec dtX11_rooms 16 rfl) ?_
  refine fm_bipush (pc := 31) (v := 8) (by decide) (fm_dec dtX11_rooms 17 rfl) ?_
  refine fm_icmp_ge (pc := 33) 56 (by decide) (fm_dec dtX11_rooms 18 rfl) (fun _ => ?_) (fun hc33 => by exfalso; revert hc33; decide)
  exact fm_return (pc := 56) rfl (fm_dec dtX11_rooms 29 rfl) (hq _ (by simp [fmI, upd]) (by simp [fmI, upd]))

set_option maxRecDepth 20000 in
theorem d_laysRoom0 {l : Launch} {G : fmG} {M : fmM} {Q : fmR → fmM → Prop} (hst : l.stackTraces = false) (b r : Int32) (hl : M.1 4 0 = 0) (hq : ∀ M', M'.1 0 46 = 0 → M'.1 0 0 = M.1 0 0 → Q (.inl none) M') : fmGood Tm l G 2 qX11_laysRoom [.ref (G.1 0), .int b, .int r] M Q := by
  refine fmGood_of hst (by decide +kernel) (Nat.le_of_ble_eq_true rfl) ?_
  show fmEv Tm l G 2 qX11_laysRoom 0 [some (.ref (G.1 0)), some (.int b), some (.int r), none] [] M Q
  refine fm_aloadn (pc := 0) (n := 0) 0 rfl rfl (fm_dec dtX11_laysRoom 0 rfl) ?_
  refine fm_iconst (pc := 1) (v := (-1)) (by decide) (fm_dec dtX11_laysRoom 1 rfl) ?_
  refine fm_putI (k := 0) (j := 46) (ci := 11) (pc := 2) fl_X11_400 (by decide) rfl (by decide) rfl rfl (fm_dec dtX11_laysRoom 2 rfl) ?_
  refine fm_iconst (pc := 5) (v := 0) (by decide) (fm_dec dtX11_laysRoom 3 rfl) ?_
  refine fm_istoren (pc := 6) (n := 3) 3 rfl (by decide) rfl (fm_dec dtX11_laysRoom 4 rfl) ?_
  dsimp only [List.set_cons_zero, List.set_cons_succ]
  refine fm_iloadn (pc := 7) (n := 3) 3 rfl rfl (fm_dec dtX11_laysRoom 5 rfl) ?_
  refine fm_bipush (pc := 8) (v := 8) (by decide) (fm_dec dtX11_laysRoom 6 rfl) ?_
  refine fm_icmp_ge (pc := 10) 26 (by decide) (fm_dec dtX11_laysRoom 7 rfl) (fun hc10 => by exfalso; revert hc10; decide) (fun _ => ?_)
  refine fm_aloadn (pc := 13) (n := 0) 0 rfl rfl (fm_dec dtX11_laysRoom 8 rfl) ?_
  refine fm_getR (k := 0) (j := 44) (ci := 11) (pc := 14) 14 rfl fl_X11_89 (by decide) rfl (by decide) (by decide) (fm_dec dtX11_laysRoom 9 rfl) ?_
  refine fm_iloadn (pc := 17) (n := 3) 3 rfl rfl (fm_dec dtX11_laysRoom 10 rfl) ?_
  refine fm_iconst (pc := 18) (v := 0) (by decide) (fm_dec dtX11_laysRoom 11 rfl) ?_
  refine fm_iast (k := 14) (n := 8) (pc := 19) (by decide) rfl rfl (fm_inl (by decide)) (fm_dec dtX11_laysRoom 12 rfl) ?_
  refine fm_iincc (pc := 20) 3 1 (by decide) rfl (by decide) rfl (fm_dec dtX11_laysRoom 13 rfl) ?_
  dsimp only [List.set_cons_zero, List.set_cons_succ]
  rw [show (0 : Int32) + 1 = 1 by decide]
  refine fm_goto (pc := 23) 7 (by decide) (fm_dec dtX11_laysRoom 14 rfl) ?_
  refine fm_iloadn (pc := 7) (n := 3) 3 rfl rfl (fm_dec dtX11_laysRoom 5 rfl) ?_
  refine fm_bipush (pc := 8) (v := 8) (by decide) (fm_dec dtX11_laysRoom 6 rfl) ?_
  refine fm_icmp_ge (pc := 10) 26 (by decide) (fm_dec dtX11_laysRoom 7 rfl) (fun hc10 => by exfalso; revert hc10; decide) (fun _ => ?_)
  refine fm_aloadn (pc := 13) (n := 0) 0 rfl rfl (fm_dec dtX11_laysRoom 8 rfl) ?_
  refine fm_getR (k := 0) (j := 44) (ci := 11) (pc := 14) 14 rfl fl_X11_89 (by decide) rfl (by decide) (by decide) (fm_dec dtX11_laysRoom 9 rfl) ?_
  refine fm_iloadn (pc := 17) (n := 3) 3 rfl rfl (fm_dec dtX11_laysRoom 10 rfl) ?_
  refine fm_iconst (pc := 18) (v := 0) (by decide) (fm_dec dtX11_laysRoom 11 rfl) ?_
  refine fm_iast (k := 14) (n := 8) (pc := 19) (by decide) rfl rfl (fm_inl (by decide)) (fm_dec dtX11_laysRoom 12 rfl) ?_
  refine fm_iincc (pc := 20) 3 1 (by decide) rfl (by decide) rfl (fm_dec dtX11_laysRoom 13 rfl) ?_
  dsimp only [List.set_cons_zero, List.set_cons_succ]
  rw [show (1 : Int32) + 1 = 2 by decide]
  refine fm_goto (pc := 23) 7 (by decide) (fm_dec dtX11_laysRoom 14 rfl) ?_
  refine fm_iloadn (pc := 7) (n := 3) 3 rfl rfl (fm_dec dtX11_laysRoom 5 rfl) ?_
  refine fm_bipush (pc := 8) (v := 8) (by decide) (fm_dec dtX11_laysRoom 6 rfl) ?_
  refine fm_icmp_ge (pc := 10) 26 (by decide) (fm_dec dtX11_laysRoom 7 rfl) (fun hc10 => by exfalso; revert hc10; decide) (fun _ => ?_)
  refine fm_aloadn (pc := 13) (n := 0) 0 rfl rfl (fm_dec dtX11_laysRoom 8 rfl) ?_
  refine fm_getR (k := 0) (j := 44) (ci := 11) (pc := 14) 14 rfl fl_X11_89 (by decide) rfl (by decide) (by decide) (fm_dec dtX11_laysRoom 9 rfl) ?_
  refine fm_iloadn (pc := 17) (n := 3) 3 rfl rfl (fm_dec dtX11_laysRoom 10 rfl) ?_
  refine fm_iconst (pc := 18) (v := 0) (by decide) (fm_dec dtX11_laysRoom 11 rfl) ?_
  refine fm_iast (k := 14) (n := 8) (pc := 19) (by decide) rfl rfl (fm_inl (by decide)) (fm_dec dtX11_laysRoom 12 rfl) ?_
  refine fm_iincc (pc := 20) 3 1 (by decide) rfl (by decide) rfl (fm_dec dtX11_laysRoom 13 rfl) ?_
  dsimp only [List.set_cons_zero, List.set_cons_succ]
  rw [show (2 : Int32) + 1 = 3 by decide]
  refine fm_goto (pc := 23) 7 (by decide) (fm_dec dtX11_laysRoom 14 rfl) ?_
  refine fm_iloadn (pc := 7) (n := 3) 3 rfl rfl (fm_dec dtX11_laysRoom 5 rfl) ?_
  refine fm_bipush (pc := 8) (v := 8) (by decide) (fm_dec dtX11_laysRoom 6 rfl) ?_
  refine fm_icmp_ge (pc := 10) 26 (by decide) (fm_dec dtX11_laysRoom 7 rfl) (fun hc10 => by exfalso; revert hc10; decide) (fun _ => ?_)
  refine fm_aloadn (pc := 13) (n := 0) 0 rfl rfl (fm_dec dtX11_laysRoom 8 rfl) ?_
  refine fm_getR (k := 0) (j := 44) (ci := 11) (pc := 14) 14 rfl fl_X11_89 (by decide) rfl (by decide) (by decide) (fm_dec dtX11_laysRoom 9 rfl) ?_
  refine fm_iloadn (pc := 17) (n := 3) 3 rfl rfl (fm_dec dtX11_laysRoom 10 rfl) ?_
  refine fm_iconst (pc := 18) (v := 0) (by decide) (fm_dec dtX11_laysRoom 11 rfl) ?_
  refine fm_iast (k := 14) (n := 8) (pc := 19) (by decide) rfl rfl (fm_inl (by decide)) (fm_dec dtX11_laysRoom 12 rfl) ?_
  refine fm_iincc (pc := 20) 3 1 (by decide) rfl (by decide) rfl (fm_dec dtX11_laysRoom 13 rfl) ?_
  dsimp only [List.set_cons_zero, List.set_cons_succ]
  rw [show (3 : Int32) + 1 = 4 by decide]
  refine fm_goto (pc := 23) 7 (by decide) (fm_dec dtX11_laysRoom 14 rfl) ?_
  refine fm_iloadn (pc := 7) (n := 3) 3 rfl rfl (fm_dec dtX11_laysRoom 5 rfl) ?_
  refine fm_bipush (pc := 8) (v := 8) (by decide) (fm_dec dtX11_laysRoom 6 rfl) ?_
  refine fm_icmp_ge (pc := 10) 26 (by decide) (fm_dec dtX11_laysRoom 7 rfl) (fun hc10 => by exfalso; revert hc10; decide) (fun _ => ?_)
  refine fm_aloadn (pc := 13) (n := 0) 0 rfl rfl (fm_dec dtX11_laysRoom 8 rfl) ?_
  refine fm_getR (k := 0) (j := 44) (ci := 11) (pc := 14) 14 rfl fl_X11_89 (by decide) rfl (by decide) (by decide) (fm_dec dtX11_laysRoom 9 rfl) ?_
  refine fm_iloadn (pc := 17) (n := 3) 3 rfl rfl (fm_dec dtX11_laysRoom 10 rfl) ?_
  refine fm_iconst (pc := 18) (v := 0) (by decide) (fm_dec dtX11_laysRoom 11 rfl) ?_
  refine fm_iast (k := 14) (n := 8) (pc := 19) (by decide) rfl rfl (fm_inl (by decide)) (fm_dec dtX11_laysRoom 12 rfl) ?_
  refine fm_iincc (pc := 20) 3 1 (by decide) rfl (by decide) rfl (fm_dec dtX11_laysRoom 13 rfl) ?_
  dsimp only [List.set_cons_zero, List.set_cons_succ]
  rw [show (4 : Int32) + 1 = 5 by decide]
  refine fm_goto (pc := 23) 7 (by decide) (fm_dec dtX11_laysRoom 14 rfl) ?_
  refine fm_iloadn (pc := 7) (n := 3) 3 rfl rfl (fm_dec dtX11_laysRoom 5 rfl) ?_
  refine fm_bipush (pc := 8) (v := 8) (by decide) (fm_dec dtX11_laysRoom 6 rfl) ?_
  refine fm_icmp_ge (pc := 10) 26 (by decide) (fm_dec dtX11_laysRoom 7 rfl) (fun hc10 => by exfalso; revert hc10; decide) (fun _ => ?_)
  refine fm_aloadn (pc := 13) (n := 0) 0 rfl rfl (fm_dec dtX11_laysRoom 8 rfl) ?_
  refine fm_getR (k := 0) (j := 44) (ci := 11) (pc := 14) 14 rfl fl_X11_89 (by decide) rfl (by decide) (by decide) (fm_dec dtX11_laysRoom 9 rfl) ?_
  refine fm_iloadn (pc := 17) (n := 3) 3 rfl rfl (fm_dec dtX11_laysRoom 10 rfl) ?_
  refine fm_iconst (pc := 18) (v := 0) (by decide) (fm_dec dtX11_laysRoom 11 rfl) ?_
  refine fm_iast (k := 14) (n := 8) (pc := 19) (by decide) rfl rfl (fm_inl (by decide)) (fm_dec dtX11_laysRoom 12 rfl) ?_
  refine fm_iincc (pc := 20) 3 1 (by decide) rfl (by decide) rfl (fm_dec dtX11_laysRoom 13 rfl) ?_
  dsimp only [List.set_cons_zero, List.set_cons_succ]
  rw [show (5 : Int32) + 1 = 6 by decide]
  refine fm_goto (pc := 23) 7 (by decide) (fm_dec dtX11_laysRoom 14 rfl) ?_
  refine fm_iloadn (pc := 7) (n := 3) 3 rfl rfl (fm_dec dtX11_laysRoom 5 rfl) ?_
  refine fm_bipush (pc := 8) (v := 8) (by decide) (fm_dec dtX11_laysRoom 6 rfl) ?_
  refine fm_icmp_ge (pc := 10) 26 (by decide) (fm_dec dtX11_laysRoom 7 rfl) (fun hc10 => by exfalso; revert hc10; decide) (fun _ => ?_)
  refine fm_aloadn (pc := 13) (n := 0) 0 rfl rfl (fm_dec dtX11_laysRoom 8 rfl) ?_
  refine fm_getR (k := 0) (j := 44) (ci := 11) (pc := 14) 14 rfl fl_X11_89 (by decide) rfl (by decide) (by decide) (fm_dec dtX11_laysRoom 9 rfl) ?_
  refine fm_iloadn (pc := 17) (n := 3) 3 rfl rfl (fm_dec dtX11_laysRoom 10 rfl) ?_
  refine fm_iconst (pc := 18) (v := 0) (by decide) (fm_dec dtX11_laysRoom 11 rfl) ?_
  refine fm_iast (k := 14) (n := 8) (pc := 19) (by decide) rfl rfl (fm_inl (by decide)) (fm_dec dtX11_laysRoom 12 rfl) ?_
  refine fm_iincc (pc := 20) 3 1 (by decide) rfl (by decide) rfl (fm_dec dtX11_laysRoom 13 rfl) ?_
  dsimp only [List.set_cons_zero, List.set_cons_succ]
  rw [show (6 : Int32) + 1 = 7 by decide]
  refine fm_goto (pc := 23) 7 (by decide) (fm_dec dtX11_laysRoom 14 rfl) ?_
  refine fm_iloadn (pc := 7) (n := 3) 3 rfl rfl (fm_dec dtX11_laysRoom 5 rfl) ?_
  refine fm_bipush (pc := 8) (v := 8) (by decide) (fm_dec dtX11_laysRoom 6 rfl) ?_
  refine fm_icmp_ge (pc := 10) 26 (by decide) (fm_dec dtX11_laysRoom 7 rfl) (fun hc10 => by exfalso; revert hc10; decide) (fun _ => ?_)
  refine fm_aloadn (pc := 13) (n := 0) 0 rfl rfl (fm_dec dtX11_laysRoom 8 rfl) ?_
  refine fm_getR (k := 0) (j := 44) (ci := 11) (pc := 14) 14 rfl fl_X11_89 (by decide) rfl (by decide) (by decide) (fm_dec dtX11_laysRoom 9 rfl) ?_
  refine fm_iloadn (pc := 17) (n := 3) 3 rfl rfl (fm_dec dtX11_laysRoom 10 rfl) ?_
  refine fm_iconst (pc := 18) (v := 0) (by decide) (fm_dec dtX11_laysRoom 11 rfl) ?_
  refine fm_iast (k := 14) (n := 8) (pc := 19) (by decide) rfl rfl (fm_inl (by decide)) (fm_dec dtX11_laysRoom 12 rfl) ?_
  refine fm_iincc (pc := 20) 3 1 (by decide) rfl (by decide) rfl (fm_dec dtX11_laysRoom 13 rfl) ?_
  dsimp only [List.set_cons_zero, List.set_cons_succ]
  rw [show (7 : Int32) + 1 = 8 by decide]
  refine fm_goto (pc := 23) 7 (by decide) (fm_dec dtX11_laysRoom 14 rfl) ?_
  refine fm_iloadn (pc := 7) (n := 3) 3 rfl rfl (fm_dec dtX11_laysRoom 5 rfl) ?_
  refine fm_bipush (pc := 8) (v := 8) (by decide) (fm_dec dtX11_laysRoom 6 rfl) ?_
  refine fm_icmp_ge (pc := 10) 26 (by decide) (fm_dec dtX11_laysRoom 7 rfl) (fun _ => ?_) (fun hc10 => by exfalso; revert hc10; decide)
  refine fm_aloadn (pc := 26) (n := 0) 0 rfl rfl (fm_dec dtX11_laysRoom 15 rfl) ?_
  refine fm_iconst (pc := 27) (v := 0) (by decide) (fm_dec dtX11_laysRoom 16 rfl) ?_
  refine fm_iloadn (pc := 28) (n := 1) 1 rfl rfl (fm_dec dtX11_laysRoom 17 rfl) ?_
  refine fm_iloadn (pc := 29) (n := 2) 2 rfl rfl (fm_dec dtX11_laysRoom 18 rfl) ?_
  refine fm_iconst (pc := 30) (v := 0) (by decide) (fm_dec dtX11_laysRoom 19 rfl) ?_
  refine fm_invV4 (k := 0) (d' := 1) (pc := 31) cv_X11_403 (by decide) rfl (Nat.le_of_ble_eq_true rfl) (by decide) (fm_dec dtX11_laysRoom 20 rfl) ?_
  refine d_rooms0 hst _ _ (by simp [fmI, hl]) (by simp [fmI, upd]) (fun M31 e31 f31 => ?_)
  refine fm_then0 ?_
  exact fm_return (pc := 34) rfl (fm_dec dtX11_laysRoom 21 rfl) (hq _ e31 (by rw [f31]; simp [fmI, upd]))

set_option maxRecDepth 20000 in
theorem m_room {l : Launch} {G : fmG} {M : fmM} {Q : fmR → fmM → Prop} (hst : l.stackTraces = false) (b r : Int32) (hl : M.1 4 0 = 0) (hq : ∀ M', M'.1 0 0 = 0 → (inR b 0 0 ∧ inR r 0 200) → Q (.inl (some (.int 0))) M') (hx : ∀ (r9 : Int32) M', M'.1 0 0 = 1 → ¬ (inR b 0 0 ∧ inR r 0 200) → Q (.inl (some (.int r9))) M') : fmGood Tm l G 3 qX11_room [.ref (G.1 0), .int b, .int r] M Q := by
  refine fmGood_of hst (by decide +kernel) (Nat.le_of_ble_eq_true rfl) ?_
  show fmEv Tm l G 3 qX11_room 0 [some (.ref (G.1 0)), some (.int b), some (.int r)] [] M Q
  refine fm_aloadn (pc := 0) (n := 0) 0 rfl rfl (fm_dec dtX11_room 0 rfl) ?_
  refine fm_iconst (pc := 1) (v := 0) (by decide) (fm_dec dtX11_room 1 rfl) ?_
  refine fm_putI (k := 0) (j := 0) (ci := 11) (pc := 2) fl_X11_101 (by decide) rfl (by decide) rfl rfl (fm_dec dtX11_room 2 rfl) ?_
  refine fm_aloadn (pc := 5) (n := 0) 0 rfl rfl (fm_dec dtX11_room 3 rfl) ?_
  refine fm_aloadn (pc := 6) (n := 0) 0 rfl rfl (fm_dec dtX11_room 4 rfl) ?_
  refine fm_iloadn (pc := 7) (n := 1) 1 rfl rfl (fm_dec dtX11_room 5 rfl) ?_
  refine fm_invV1 (k := 0) (d' := 1) (pc := 8) cv_X11_407 (by decide) rfl (Nat.le_of_ble_eq_true rfl) (by decide) (fm_dec dtX11_room 6 rfl) ?_
  refine d_areLives0 hst _ (by first | exact hl | simp [fmI, fmJ, upd, hl]) (fun hi8 => ?_) (fun hn8 => ?_)
  · refine fm_then1 ?_
    refine fm_if_eq (pc := 11) 25 (by decide) (fm_dec dtX11_room 7 rfl) (fun hc11 => by exfalso; revert hc11; decide) (fun _ => ?_)
    refine fm_iloadn (pc := 14) (n := 2) 2 rfl rfl (fm_dec dtX11_room 8 rfl) ?_
    refine fm_iconst (pc := 15) (v := 0) (by decide) (fm_dec dtX11_room 9 rfl) ?_
    refine fm_sipush (pc := 16) (v := 200) (by decide) (fm_dec dtX11_room 10 rfl) ?_
    refine fm_invS3 (d' := 0) (pc := 19) cs_X11_135 (Nat.le_of_ble_eq_true rfl) (by decide) (fm_dec dtX11_room 11 rfl) ?_
    refine d_in hst _ _ _ (fun hi19 => ?_) (fun hn19 => ?_)
    · refine fm_then1 ?_
      refine fm_if_ne (pc := 22) 29 (by decide) (fm_dec dtX11_room 12 rfl) (fun _ => ?_) (fun hc22 => by exfalso; revert hc22; decide)
      refine fm_iconst (pc := 29) (v := 0) (by decide) (fm_dec dtX11_room 15 rfl) ?_
      refine fm_iconst (pc := 30) (v := 1) (by decide) (fm_dec dtX11_room 16 rfl) ?_
      refine fm_iconst (pc := 31) (v := 1) (by decide) (fm_dec dtX11_room 17 rfl) ?_
      refine fm_invV3 (k := 0) (d' := 0) (pc := 32) cv_X11_177 (by decide) rfl (Nat.le_of_ble_eq_true rfl) (by decide) (fm_dec dtX11_room 18 rfl) ?_
      refine d_bad0 hst _ _ (by first | exact h0 | simp [fmI, upd]) ?_
      refine fm_then1 ?_
      refine fm_if_eq (pc := 35) 40 (by decide) (fm_dec dtX11_room 19 rfl) (fun _ => ?_) (fun hc35 => by exfalso; revert hc35; decide)
      refine fm_aloadn (pc := 40) (n := 0) 0 rfl rfl (fm_dec dtX11_room 22 rfl) ?_
      refine fm_iloadn (pc := 41) (n := 1) 1 rfl rfl (fm_dec dtX11_room 23 rfl) ?_
      refine fm_iloadn (pc := 42) (n := 2) 2 rfl rfl (fm_dec dtX11_room 24 rfl) ?_
      refine fm_invV2 (k := 0) (d' := 2) (pc := 43) cv_X11_410 (by decide) rfl (Nat.le_of_ble_eq_true rfl) (by decide) (fm_dec dtX11_room 25 rfl) ?_
      refine d_laysRoom0 hst _ _ (by first | exact hl | simp [fmI, fmJ, upd, hl]) (fun M43 e43 f43 => ?_)
      refine fm_then0 ?_
      refine fm_aloadn (pc := 46) (n := 0) 0 rfl rfl (fm_dec dtX11_room 26 rfl) ?_
      refine fm_getI (k := 0) (j := 46) (ci := 11) (pc := 47) fl_X11_400 (by decide) rfl (by decide) rfl (fm_dec dtX11_room 27 rfl) ?_
      exact fm_ireturn (pc := 50) rfl (fm_dec dtX11_room 28 rfl) (by rw [e43]; exact hq _ (by rw [f43]; simp [fmI, upd]) ⟨hi8, hi19⟩)
    · refine fm_then1 ?_
      refine fm_if_ne (pc := 22) 29 (by decide) (fm_dec dtX11_room 12 rfl) (fun hc22 => by exfalso; revert hc22; decide) (fun _ => ?_)
      refine fm_iconst (pc := 25) (v := 1) (by decide) (fm_dec dtX11_room 13 rfl) ?_
      refine fm_goto (pc := 26) 30 (by decide) (fm_dec dtX11_room 14 rfl) ?_
      refine fm_iconst (pc := 30) (v := 1) (by decide) (fm_dec dtX11_room 16 rfl) ?_
      refine fm_iconst (pc := 31) (v := 1) (by decide) (fm_dec dtX11_room 17 rfl) ?_
      refine fm_invV3 (k := 0) (d' := 0) (pc := 32) cv_X11_177 (by decide) rfl (Nat.le_of_ble_eq_true rfl) (by decide) (fm_dec dtX11_room 18 rfl) ?_
      refine d_bad1_1 hst _ (by first | exact h0 | simp [fmI, upd]) (by decide) (fun Mb hb => ?_)
      refine fm_then1 ?_
      refine fm_if_eq (pc := 35) 40 (by decide) (fm_dec dtX11_room 19 rfl) (fun hc35 => by exfalso; revert hc35; decide) (fun _ => ?_)
      refine fm_iconst (pc := 38) (v := 0) (by decide) (fm_dec dtX11_room 20 rfl) ?_
      exact fm_ireturn (pc := 39) rfl (fm_dec dtX11_room 21 rfl) (hx _ _ hb (fun h => by first | exact hn8 h.1 | exact hn19 h.2))
  · refine fm_then1 ?_
    refine fm_if_eq (pc := 11) 25 (by decide) (fm_dec dtX11_room 7 rfl) (fun _ => ?_) (fun hc11 => by exfalso; revert hc11; decide)
    refine fm_iconst (pc := 25) (v := 1) (by decide) (fm_dec dtX11_room 13 rfl) ?_
    refine fm_goto (pc := 26) 30 (by decide) (fm_dec dtX11_room 14 rfl) ?_
    refine fm_iconst (pc := 30) (v := 1) (by decide) (fm_dec dtX11_room 16 rfl) ?_
    refine fm_iconst (pc := 31) (v := 1) (by decide) (fm_dec dtX11_room 17 rfl) ?_
    refine fm_invV3 (k := 0) (d' := 0) (pc := 32) cv_X11_177 (by decide) rfl (Nat.le_of_ble_eq_true rfl) (by decide) (fm_dec dtX11_room 18 rfl) ?_
    refine d_bad1_1 hst _ (by first | exact h0 | simp [fmI, upd]) (by decide) (fun Mb hb => ?_)
    refine fm_then1 ?_
    refine fm_if_eq (pc := 35) 40 (by decide) (fm_dec dtX11_room 19 rfl) (fun hc35 => by exfalso; revert hc35; decide) (fun _ => ?_)
    refine fm_iconst (pc := 38) (v := 0) (by decide) (fm_dec dtX11_room 20 rfl) ?_
    exact fm_ireturn (pc := 39) rfl (fm_dec dtX11_room 21 rfl) (hx _ _ hb (fun h => by first | exact hn8 h.1 | exact hn19 h.2))

def onesE (x : Int32) : Int32 := 0 + ((x >>> ((0 : Int32) &&& 31)) &&& 1) + ((x >>> ((1 : Int32) &&& 31)) &&& 1) + ((x >>> ((2 : Int32) &&& 31)) &&& 1) + ((x >>> ((3 : Int32) &&& 31)) &&& 1) + ((x >>> ((4 : Int32) &&& 31)) &&& 1) + ((x >>> ((5 : Int32) &&& 31)) &&& 1) + ((x >>> ((6 : Int32) &&& 31)) &&& 1) + ((x >>> ((7 : Int32) &&& 31)) &&& 1)
theorem onesE_pos : ∀ i, i < 64 → 0 ≤ onesE (nI i) := by decide +kernel
theorem onesE_0 : onesE 0 = 0 := by decide +kernel
set_option maxRecDepth 20000 in
theorem d_ones {l : Launch} {G : fmG} {M : fmM} {Q : fmR → fmM → Prop} (hst : l.stackTraces = false) (x : Int32) (hq : Q (.inl (some (.int (onesE x)))) M) : fmGood Tm l G 0 qX11_ones [.int x] M Q := by
  refine fmGood_of hst (by decide +kernel) (Nat.le_of_ble_eq_true rfl) ?_
  show fmEv Tm l G 0 qX11_ones 0 [some (.int x), none, none] [] M Q
  refine fm_iconst (pc := 0) (v := 0) (by decide) (fm_dec dtX11_ones 0 rfl) ?_
  refine fm_istoren (pc := 1) (n := 1) 1 rfl (by decide) rfl (fm_dec dtX11_ones 1 rfl) ?_
  dsimp only [List.set_cons_zero, List.set_cons_succ]
  refine fm_iconst (pc := 2) (v := 0) (by decide) (fm_dec dtX11_ones 2 rfl) ?_
  refine fm_istoren (pc := 3) (n := 2) 2 rfl (by decide) rfl (fm_dec dtX11_ones 3 rfl) ?_
  dsimp only [List.set_cons_zero, List.set_cons_succ]
  refine fm_iloadn (pc := 4) (n := 2) 2 rfl rfl (fm_dec dtX11_ones 4 rfl) ?_
  refine fm_bipush (pc := 5) (v := 8) (by decide) (fm_dec dtX11_ones 5 rfl) ?_
  refine fm_icmp_ge (pc := 7) 24 (by decide) (fm_dec dtX11_ones 6 rfl) (fun hc7 => by exfalso; revert hc7; decide) (fun _ => ?_)
  refine fm_iloadn (pc := 10) (n := 1) 1 rfl rfl (fm_dec dtX11_ones 7 rfl) ?_
  refine fm_iloadn (pc := 11) (n := 0) 0 rfl rfl (fm_dec dtX11_ones 8 rfl) ?_
  refine fm_iloadn (pc := 12) (n := 2) 2 rfl rfl (fm_dec dtX11_ones 9 rfl) ?_
  refine fm_ishr (pc := 13) (fm_dec dtX11_ones 10 rfl) ?_
  refine fm_iconst (pc := 14) (v := 1) (by decide) (fm_dec dtX11_ones 11 rfl) ?_
  refine fm_iand (pc := 15) (fm_dec dtX11_ones 12 rfl) ?_
  refine fm_iadd (pc := 16) (fm_dec dtX11_ones 13 rfl) ?_
  refine fm_istoren (pc := 17) (n := 1) 1 rfl (by decide) rfl (fm_dec dtX11_ones 14 rfl) ?_
  dsimp only [List.set_cons_zero, List.set_cons_succ]
  refine fm_iincc (pc := 18) 2 1 (by decide) rfl (by decide) rfl (fm_dec dtX11_ones 15 rfl) ?_
  dsimp only [List.set_cons_zero, List.set_cons_succ]
  rw [show (0 : Int32) + 1 = 1 by decide]
  refine fm_goto (pc := 21) 4 (by decide) (fm_dec dtX11_ones 16 rfl) ?_
  refine fm_iloadn (pc := 4) (n := 2) 2 rfl rfl (fm_dec dtX11_ones 4 rfl) ?_
  refine fm_bipush (pc := 5) (v := 8) (by decide) (fm_dec dtX11_ones 5 rfl) ?_
  refine fm_icmp_ge (pc := 7) 24 (by decide) (fm_dec dtX11_ones 6 rfl) (fun hc7 => by exfalso; revert hc7; decide) (fun _ => ?_)
  refine fm_iloadn (pc := 10) (n := 1) 1 rfl rfl (fm_dec dtX11_ones 7 rfl) ?_
  refine fm_iloadn (pc := 11) (n := 0) 0 rfl rfl (fm_dec dtX11_ones 8 rfl) ?_
  refine fm_iloadn (pc := 12) (n := 2) 2 rfl rfl (fm_dec dtX11_ones 9 rfl) ?_
  refine fm_ishr (pc := 13) (fm_dec dtX11_ones 10 rfl) ?_
  refine fm_iconst (pc := 14) (v := 1) (by decide) (fm_dec dtX11_ones 11 rfl) ?_
  refine fm_iand (pc := 15) (fm_dec dtX11_ones 12 rfl) ?_
  refine fm_iadd (pc := 16) (fm_dec dtX11_ones 13 rfl) ?_
  refine fm_istoren (pc := 17) (n := 1) 1 rfl (by decide) rfl (fm_dec dtX11_ones 14 rfl) ?_
  dsimp only [List.set_cons_zero, List.set_cons_succ]
  refine fm_iincc (pc := 18) 2 1 (by decide) rfl (by decide) rfl (fm_dec dtX11_ones 15 rfl) ?_
  dsimp only [List.set_cons_zero, List.set_cons_succ]
  rw [show (1 : Int32) + 1 = 2 by decide]
  refine fm_goto (pc := 21) 4 (by decide) (fm_dec dtX11_ones 16 rfl) ?_
  refine fm_iloadn (pc := 4) (n := 2) 2 rfl rfl (fm_dec dtX11_ones 4 rfl) ?_
  refine fm_bipush (pc := 5) (v := 8) (by decide) (fm_dec dtX11_ones 5 rfl) ?_
  refine fm_icmp_ge (pc := 7) 24 (by decide) (fm_dec dtX11_ones 6 rfl) (fun hc7 => by exfalso; revert hc7; decide) (fun _ => ?_)
  refine fm_iloadn (pc := 10) (n := 1) 1 rfl rfl (fm_dec dtX11_ones 7 rfl) ?_
  refine fm_iloadn (pc := 11) (n := 0) 0 rfl rfl (fm_dec dtX11_ones 8 rfl) ?_
  refine fm_iloadn (pc := 12) (n := 2) 2 rfl rfl (fm_dec dtX11_ones 9 rfl) ?_
  refine fm_ishr (pc := 13) (fm_dec dtX11_ones 10 rfl) ?_
  refine fm_iconst (pc := 14) (v := 1) (by decide) (fm_dec dtX11_ones 11 rfl) ?_
  refine fm_iand (pc := 15) (fm_dec dtX11_ones 12 rfl) ?_
  refine fm_iadd (pc := 16) (fm_dec dtX11_ones 13 rfl) ?_
  refine fm_istoren (pc := 17) (n := 1) 1 rfl (by decide) rfl (fm_dec dtX11_ones 14 rfl) ?_
  dsimp only [List.set_cons_zero, List.set_cons_succ]
  refine fm_iincc (pc := 18) 2 1 (by decide) rfl (by decide) rfl (fm_dec dtX11_ones 15 rfl) ?_
  dsimp only [List.set_cons_zero, List.set_cons_succ]
  rw [show (2 : Int32) + 1 = 3 by decide]
  refine fm_goto (pc := 21) 4 (by decide) (fm_dec dtX11_ones 16 rfl) ?_
  refine fm_iloadn (pc := 4) (n := 2) 2 rfl rfl (fm_dec dtX11_ones 4 rfl) ?_
  refine fm_bipush (pc := 5) (v := 8) (by decide) (fm_dec dtX11_ones 5 rfl) ?_
  refine fm_icmp_ge (pc := 7) 24 (by decide) (fm_dec dtX11_ones 6 rfl) (fun hc7 => by exfalso; revert hc7; decide) (fun _ => ?_)
  refine fm_iloadn (pc := 10) (n := 1) 1 rfl rfl (fm_dec dtX11_ones 7 rfl) ?_
  refine fm_iloadn (pc := 11) (n := 0) 0 rfl rfl (fm_dec dtX11_ones 8 rfl) ?_
  refine fm_iloadn (pc := 12) (n := 2) 2 rfl rfl (fm_dec dtX11_ones 9 rfl) ?_
  refine fm_ishr (pc := 13) (fm_dec dtX11_ones 10 rfl) ?_
  refine fm_iconst (pc := 14) (v := 1) (by decide) (fm_dec dtX11_ones 11 rfl) ?_
  refine fm_iand (pc := 15) (fm_dec dtX11_ones 12 rfl) ?_
  refine fm_iadd (pc := 16) (fm_dec dtX11_ones 13 rfl) ?_
  refine fm_istoren (pc := 17) (n := 1) 1 rfl (by decide) rfl (fm_dec dtX11_ones 14 rfl) ?_
  dsimp only [List.set_cons_zero, List.set_cons_succ]
  refine fm_iincc (pc := 18) 2 1 (by decide) rfl (by decide) rfl (fm_dec dtX11_ones 15 rfl) ?_
  dsimp only [List.set_cons_zero, List.set_cons_succ]
  rw [show (3 : Int32) + 1 = 4 by decide]
  refine fm_goto (pc := 21) 4 (by decide) (fm_dec dtX11_ones 16 rfl) ?_
  refine fm_iloadn (pc := 4) (n := 2) 2 rfl rfl (fm_dec dtX11_ones 4 rfl) ?_
  refine fm_bipush (pc := 5) (v := 8) (by decide) (fm_dec dtX11_ones 5 rfl) ?_
  refine fm_icmp_ge (pc := 7) 24 (by decide) (fm_dec dtX11_ones 6 rfl) (fun hc7 => by exfalso; revert hc7; decide) (fun _ => ?_)
  refine fm_iloadn (pc := 10) (n := 1) 1 rfl rfl (fm_dec dtX11_ones 7 rfl) ?_
  refine fm_iloadn (pc := 11) (n := 0) 0 rfl rfl (fm_dec dtX11_ones 8 rfl) ?_
  refine fm_iloadn (pc := 12) (n := 2) 2 rfl rfl (fm_dec dtX11_ones 9 rfl) ?_
  refine fm_ishr (pc := 13) (fm_dec dtX11_ones 10 rfl) ?_
  refine fm_iconst (pc := 14) (v := 1) (by decide) (fm_dec dtX11_ones 11 rfl) ?_
  refine fm_iand (pc := 15) (fm_dec dtX11_ones 12 rfl) ?_
  refine fm_iadd (pc := 16) (fm_dec dtX11_ones 13 rfl) ?_
  refine fm_istoren (pc := 17) (n := 1) 1 rfl (by decide) rfl (fm_dec dtX11_ones 14 rfl) ?_
  dsimp only [List.set_cons_zero, List.set_cons_succ]
  refine fm_iincc (pc := 18) 2 1 (by decide) rfl (by decide) rfl (fm_dec dtX11_ones 15 rfl) ?_
  dsimp only [List.set_cons_zero, List.set_cons_succ]
  rw [show (4 : Int32) + 1 = 5 by decide]
  refine fm_goto (pc := 21) 4 (by decide) (fm_dec dtX11_ones 16 rfl) ?_
  refine fm_iloadn (pc := 4) (n := 2) 2 rfl rfl (fm_dec dtX11_ones 4 rfl) ?_
  refine fm_bipush (pc := 5) (v := 8) (by decide) (fm_dec dtX11_ones 5 rfl) ?_
  refine fm_icmp_ge (pc := 7) 24 (by decide) (fm_dec dtX11_ones 6 rfl) (fun hc7 => by exfalso; revert hc7; decide) (fun _ => ?_)
  refine fm_iloadn (pc := 10) (n := 1) 1 rfl rfl (fm_dec dtX11_ones 7 rfl) ?_
  refine fm_iloadn (pc := 11) (n := 0) 0 rfl rfl (fm_dec dtX11_ones 8 rfl) ?_
  refine fm_iloadn (pc := 12) (n := 2) 2 rfl rfl (fm_dec dtX11_ones 9 rfl) ?_
  refine fm_ishr (pc := 13) (fm_dec dtX11_ones 10 rfl) ?_
  refine fm_iconst (pc := 14) (v := 1) (by decide) (fm_dec dtX11_ones 11 rfl) ?_
  refine fm_iand (pc := 15) (fm_dec dtX11_ones 12 rfl) ?_
  refine fm_iadd (pc := 16) (fm_dec dtX11_ones 13 rfl) ?_
  refine fm_istoren (pc := 17) (n := 1) 1 rfl (by decide) rfl (fm_dec dtX11_ones 14 rfl) ?_
  dsimp only [List.set_cons_zero, List.set_cons_succ]
  refine fm_iincc (pc := 18) 2 1 (by decide) rfl (by decide) rfl (fm_dec dtX11_ones 15 rfl) ?_
  dsimp only [List.set_cons_zero, List.set_cons_succ]
  rw [show (5 : Int32) + 1 = 6 by decide]
  refine fm_goto (pc := 21) 4 (by decide) (fm_dec dtX11_ones 16 rfl) ?_
  refine fm_iloadn (pc := 4) (n := 2) 2 rfl rfl (fm_dec dtX11_ones 4 rfl) ?_
  refine fm_bipush (pc := 5) (v := 8) (by decide) (fm_dec dtX11_ones 5 rfl) ?_
  refine fm_icmp_ge (pc := 7) 24 (by decide) (fm_dec dtX11_ones 6 rfl) (fun hc7 => by exfalso; revert hc7; decide) (fun _ => ?_)
  refine fm_iloadn (pc := 10) (n := 1) 1 rfl rfl (fm_dec dtX11_ones 7 rfl) ?_
  refine fm_iloadn (pc := 11) (n := 0) 0 rfl rfl (fm_dec dtX11_ones 8 rfl) ?_
  refine fm_iloadn (pc := 12) (n := 2) 2 rfl rfl (fm_dec dtX11_ones 9 rfl) ?_
  refine fm_ishr (pc := 13) (fm_dec dtX11_ones 10 rfl) ?_
  refine fm_iconst (pc := 14) (v := 1) (by decide) (fm_dec dtX11_ones 11 rfl) ?_
  refine fm_iand (pc := 15) (fm_dec dtX11_ones 12 rfl) ?_
  refine fm_iadd (pc := 16) (fm_dec dtX11_ones 13 rfl) ?_
  refine fm_istoren (pc := 17) (n := 1) 1 rfl (by decide) rfl (fm_dec dtX11_ones 14 rfl) ?_
  dsimp only [List.set_cons_zero, List.set_cons_succ]
  refine fm_iincc (pc := 18) 2 1 (by decide) rfl (by decide) rfl (fm_dec dtX11_ones 15 rfl) ?_
  dsimp only [List.set_cons_zero, List.set_cons_succ]
  rw [show (6 : Int32) + 1 = 7 by decide]
  refine fm_goto (pc := 21) 4 (by decide) (fm_dec dtX11_ones 16 rfl) ?_
  refine fm_iloadn (pc := 4) (n := 2) 2 rfl rfl (fm_dec dtX11_ones 4 rfl) ?_
  refine fm_bipush (pc := 5) (v := 8) (by decide) (fm_dec dtX11_ones 5 rfl) ?_
  refine fm_icmp_ge (pc := 7) 24 (by decide) (fm_dec dtX11_ones 6 rfl) (fun hc7 => by exfalso; revert hc7; decide) (fun _ => ?_)
  refine fm_iloadn (pc := 10) (n := 1) 1 rfl rfl (fm_dec dtX11_ones 7 rfl) ?_
  refine fm_iloadn (pc := 11) (n := 0) 0 rfl rfl (fm_dec dtX11_ones 8 rfl) ?_
  refine fm_iloadn (pc := 12) (n := 2) 2 rfl rfl (fm_dec dtX11_ones 9 rfl) ?_
  refine fm_ishr (pc := 13) (fm_dec dtX11_ones 10 rfl) ?_
  refine fm_iconst (pc := 14) (v := 1) (by decide) (fm_dec dtX11_ones 11 rfl) ?_
  refine fm_iand (pc := 15) (fm_dec dtX11_ones 12 rfl) ?_
  refine fm_iadd (pc := 16) (fm_dec dtX11_ones 13 rfl) ?_
  refine fm_istoren (pc := 17) (n := 1) 1 rfl (by decide) rfl (fm_dec dtX11_ones 14 rfl) ?_
  dsimp only [List.set_cons_zero, List.set_cons_succ]
  refine fm_iincc (pc := 18) 2 1 (by decide) rfl (by decide) rfl (fm_dec dtX11_ones 15 rfl) ?_
  dsimp only [List.set_cons_zero, List.set_cons_succ]
  rw [show (7 : Int32) + 1 = 8 by decide]
  refine fm_goto (pc := 21) 4 (by decide) (fm_dec dtX11_ones 16 rfl) ?_
  refine fm_iloadn (pc := 4) (n := 2) 2 rfl rfl (fm_dec dtX11_ones 4 rfl) ?_
  refine fm_bipush (pc := 5) (v := 8) (by decide) (fm_dec dtX11_ones 5 rfl) ?_
  refine fm_icmp_ge (pc := 7) 24 (by decide) (fm_dec dtX11_ones 6 rfl) (fun _ => ?_) (fun hc7 => by exfalso; revert hc7; decide)
  refine fm_iloadn (pc := 24) (n := 1) 1 rfl rfl (fm_dec dtX11_ones 17 rfl) ?_
  exact fm_ireturn (pc := 25) rfl (fm_dec dtX11_ones 18 rfl) (by simpa only [onesE] using hq)

set_option maxRecDepth 20000 in
theorem d_isApart0 {l : Launch} {G : fmG} {M : fmM} {Q : fmR → fmM → Prop} (hst : l.stackTraces = false) (b k : Int32) (hl : M.1 4 0 = 0) (hq : Q (.inl (some (.int 1))) M) : fmGood Tm l G 1 qX11_isApart [.ref (G.1 0), .int b, .int k] M Q := by
  refine fmGood_of hst (by decide +kernel) (Nat.le_of_ble_eq_true rfl) ?_
  show fmEv Tm l G 1 qX11_isApart 0 [some (.ref (G.1 0)), some (.int b), some (.int k), none, none] [] M Q
  refine fm_iconst (pc := 0) (v := 0) (by decide) (fm_dec dtX11_isApart 0 rfl) ?_
  refine fm_istoren (pc := 1) (n := 3) 3 rfl (by decide) rfl (fm_dec dtX11_isApart 1 rfl) ?_
  dsimp only [List.set_cons_zero, List.set_cons_succ]
  refine fm_iloadn (pc := 2) (n := 3) 3 rfl rfl (fm_dec dtX11_isApart 2 rfl) ?_
  refine fm_aloadn (pc := 3) (n := 0) 0 rfl rfl (fm_dec dtX11_isApart 3 rfl) ?_
  refine fm_getR (k := 0) (j := 12) (ci := 11) (pc := 4) 4 rfl fl_X11_23 (by decide) rfl (by decide) (by decide) (fm_dec dtX11_isApart 4 rfl) ?_
  refine fm_iconst (pc := 7) (v := 0) (by decide) (fm_dec dtX11_isApart 5 rfl) ?_
  refine fm_iald (k := 4) (n := 6) (pc := 8) (by decide) rfl rfl (fm_inl (by decide)) (fm_dec dtX11_isApart 6 rfl) ?_
  refine fm_icmp_ge (pc := 9) 83 (by decide) (fm_dec dtX11_isApart 7 rfl) (fun _ => ?_) (fun hc9 => by exfalso; exact hc9 (by simp [fmI, fmJ, upd, hl]))
  refine fm_iconst (pc := 83) (v := 1) (by decide) (fm_dec dtX11_isApart 45 rfl) ?_
  exact fm_zreturn (pc := 84) rfl rfl (fm_dec dtX11_isApart 46 rfl) hq

set_option maxRecDepth 20000 in
theorem map_loop {l : Launch} {G : fmG} {Q : fmR → fmM → Prop} (hst : l.stackTraces = false) {M : fmM} (b w : Int32) (hl : M.1 4 0 = 0) (hq : Q (.inl (some (.int 0))) M) : ∀ (n i : Nat), i + n = 64 → fmEv Tm l G 2 qX11_apart 43 [some (.ref (G.1 0)), some (.int b), some (.int w), some (.int 0), some (.int (nI i))] [] M Q := by
  intro n
  induction n with
  | zero =>
    intro i hi
    have e : i = 64 := by omega
    subst e
    refine fm_iload (pc := 43) (i := 4) rfl (fm_dec dtX11_apart 26 rfl) ?_
    refine fm_bipush (pc := 45) (v := 64) (by decide) (fm_dec dtX11_apart 27 rfl) ?_
    refine fm_icmp_ge (pc := 47) 86 (by decide) (fm_dec dtX11_apart 28 rfl) (fun _ => ?_) (fun hc47 => by exfalso; revert hc47; decide)
    refine fm_iloadn (pc := 86) (n := 2) 2 rfl rfl (fm_dec dtX11_apart 46 rfl) ?_
    refine fm_iconst (pc := 87) (v := 1) (by decide) (fm_dec dtX11_apart 47 rfl) ?_
    refine fm_icmp_eq (pc := 88) 96 (by decide) (fm_dec dtX11_apart 48 rfl) (fun hc88 => ?_) (fun hc88 => ?_)
    · refine fm_iloadn (pc := 96) (n := 3) 3 rfl rfl (fm_dec dtX11_apart 52 rfl) ?_
      refine fm_goto (pc := 97) 104 (by decide) (fm_dec dtX11_apart 53 rfl) ?_
      exact fm_ireturn (pc := 104) rfl (fm_dec dtX11_apart 56 rfl) (by first | exact hq | (rw [onesE_0]; exact hq))
    · refine fm_iloadn (pc := 91) (n := 3) 3 rfl rfl (fm_dec dtX11_apart 49 rfl) ?_
      refine fm_iconst (pc := 92) (v := (-1)) (by decide) (fm_dec dtX11_apart 50 rfl) ?_
      refine fm_icmp_ne (pc := 93) 100 (by decide) (fm_dec dtX11_apart 51 rfl) (fun _ => ?_) (fun hc93 => by exfalso; revert hc93; decide)
      refine fm_iloadn (pc := 100) (n := 3) 3 rfl rfl (fm_dec dtX11_apart 54 rfl) ?_
      refine fm_invS1 (d' := 0) (pc := 101) cs_X11_416 (Nat.le_of_ble_eq_true rfl) (by decide) (fm_dec dtX11_apart 55 rfl) ?_
      refine d_ones hst _ ?_
      refine fm_then1 ?_
      exact fm_ireturn (pc := 104) rfl (fm_dec dtX11_apart 56 rfl) (by first | exact hq | (rw [onesE_0]; exact hq))
  | succ n ih =>
    intro i hi
    refine fm_iload (pc := 43) (i := 4) rfl (fm_dec dtX11_apart 26 rfl) ?_
    refine fm_bipush (pc := 45) (v := 64) (by decide) (fm_dec dtX11_apart 27 rfl) ?_
    refine fm_icmp_ge (pc := 47) 86 (by decide) (fm_dec dtX11_apart 28 rfl) (fun hc47 => by exfalso; rw [show (64 : Int32) = nI 64 by decide] at hc47; exact nI_ge (show i < 64 by omega) (by decide) hc47) (fun _ => ?_)
    refine fm_aloadn (pc := 50) (n := 0) 0 rfl rfl (fm_dec dtX11_apart 29 rfl) ?_
    refine fm_iloadn (pc := 51) (n := 1) 1 rfl rfl (fm_dec dtX11_apart 30 rfl) ?_
    refine fm_iload (pc := 52) (i := 4) rfl (fm_dec dtX11_apart 31 rfl) ?_
    refine fm_invV2 (k := 0) (d' := 1) (pc := 54) cv_X11_413 (by decide) rfl (Nat.le_of_ble_eq_true rfl) (by decide) (fm_dec dtX11_apart 32 rfl) ?_
    refine d_isApart0 hst _ _ (by first | exact hl | simp [fmI, fmJ, upd, hl]) ?_
    refine fm_then1 ?_
    refine fm_if_eq (pc := 57) 80 (by decide) (fm_dec dtX11_apart 33 rfl) (fun hc57 => by exfalso; revert hc57; decide) (fun _ => ?_)
    refine fm_iloadn (pc := 60) (n := 3) 3 rfl rfl (fm_dec dtX11_apart 34 rfl) ?_
    refine fm_iconst (pc := 61) (v := (-1)) (by decide) (fm_dec dtX11_apart 35 rfl) ?_
    refine fm_icmp_eq (pc := 62) 77 (by decide) (fm_dec dtX11_apart 36 rfl) (fun hc62 => by exfalso; revert hc62; decide) (fun _ => ?_)
    refine fm_iload (pc := 65) (i := 4) rfl (fm_dec dtX11_apart 37 rfl) ?_
    refine fm_invS1 (d' := 0) (pc := 67) cs_X11_416 (Nat.le_of_ble_eq_true rfl) (by decide) (fm_dec dtX11_apart 38 rfl) ?_
    refine d_ones hst _ ?_
    refine fm_then1 ?_
    refine fm_iloadn (pc := 70) (n := 3) 3 rfl rfl (fm_dec dtX11_apart 39 rfl) ?_
    refine fm_invS1 (d' := 0) (pc := 71) cs_X11_416 (Nat.le_of_ble_eq_true rfl) (by decide) (fm_dec dtX11_apart 40 rfl) ?_
    refine d_ones hst _ ?_
    refine fm_then1 ?_
    refine fm_icmp_ge (pc := 74) 80 (by decide) (fm_dec dtX11_apart 41 rfl) (fun _ => ?_) (fun hc74 => by exfalso; exact hc74 (by rw [onesE_0]; exact onesE_pos i (by omega)))
    refine fm_iincc (pc := 80) 4 1 (by decide) rfl (by decide) rfl (fm_dec dtX11_apart 44 rfl) ?_
    dsimp only [List.set_cons_zero, List.set_cons_succ]
    refine fm_goto (pc := 83) 43 (by decide) (fm_dec dtX11_apart 45 rfl) ?_
    rw [show nI i + 1 = nI (i + 1) from nI_1 i]
    exact ih (i + 1) (by omega)

set_option maxRecDepth 20000 in
theorem m_apart {l : Launch} {G : fmG} {M : fmM} {Q : fmR → fmM → Prop} (hst : l.stackTraces = false) (b w : Int32) (hl : M.1 4 0 = 0) (hq : ∀ M', M'.1 0 0 = 0 → (inR b 0 0 ∧ inR w 0 1) → Q (.inl (some (.int 0))) M') (hx : ∀ (r9 : Int32) M', M'.1 0 0 = 1 → ¬ (inR b 0 0 ∧ inR w 0 1) → Q (.inl (some (.int r9))) M') : fmGood Tm l G 2 qX11_apart [.ref (G.1 0), .int b, .int w] M Q := by
  refine fmGood_of hst (by decide +kernel) (Nat.le_of_ble_eq_true rfl) ?_
  show fmEv Tm l G 2 qX11_apart 0 [some (.ref (G.1 0)), some (.int b), some (.int w), none, none] [] M Q
  refine fm_aloadn (pc := 0) (n := 0) 0 rfl rfl (fm_dec dtX11_apart 0 rfl) ?_
  refine fm_iconst (pc := 1) (v := 0) (by decide) (fm_dec dtX11_apart 1 rfl) ?_
  refine fm_putI (k := 0) (j := 0) (ci := 11) (pc := 2) fl_X11_101 (by decide) rfl (by decide) rfl rfl (fm_dec dtX11_apart 2 rfl) ?_
  refine fm_aloadn (pc := 5) (n := 0) 0 rfl rfl (fm_dec dtX11_apart 3 rfl) ?_
  refine fm_aloadn (pc := 6) (n := 0) 0 rfl rfl (fm_dec dtX11_apart 4 rfl) ?_
  refine fm_iloadn (pc := 7) (n := 1) 1 rfl rfl (fm_dec dtX11_apart 5 rfl) ?_
  refine fm_invV1 (k := 0) (d' := 1) (pc := 8) cv_X11_407 (by decide) rfl (Nat.le_of_ble_eq_true rfl) (by decide) (fm_dec dtX11_apart 6 rfl) ?_
  refine d_areLives0 hst _ (by first | exact hl | simp [fmI, fmJ, upd, hl]) (fun hi8 => ?_) (fun hn8 => ?_)
  · refine fm_then1 ?_
    refine fm_if_eq (pc := 11) 23 (by decide) (fm_dec dtX11_apart 7 rfl) (fun hc11 => by exfalso; revert hc11; decide) (fun _ => ?_)
    refine fm_iloadn (pc := 14) (n := 2) 2 rfl rfl (fm_dec dtX11_apart 8 rfl) ?_
    refine fm_iconst (pc := 15) (v := 0) (by decide) (fm_dec dtX11_apart 9 rfl) ?_
    refine fm_iconst (pc := 16) (v := 1) (by decide) (fm_dec dtX11_apart 10 rfl) ?_
    refine fm_invS3 (d' := 0) (pc := 17) cs_X11_135 (Nat.le_of_ble_eq_true rfl) (by decide) (fm_dec dtX11_apart 11 rfl) ?_
    refine d_in hst _ _ _ (fun hi17 => ?_) (fun hn17 => ?_)
    · refine fm_then1 ?_
      refine fm_if_ne (pc := 20) 27 (by decide) (fm_dec dtX11_apart 12 rfl) (fun _ => ?_) (fun hc20 => by exfalso; revert hc20; decide)
      refine fm_iconst (pc := 27) (v := 0) (by decide) (fm_dec dtX11_apart 15 rfl) ?_
      refine fm_iconst (pc := 28) (v := 1) (by decide) (fm_dec dtX11_apart 16 rfl) ?_
      refine fm_iconst (pc := 29) (v := 1) (by decide) (fm_dec dtX11_apart 17 rfl) ?_
      refine fm_invV3 (k := 0) (d' := 0) (pc := 30) cv_X11_177 (by decide) rfl (Nat.le_of_ble_eq_true rfl) (by decide) (fm_dec dtX11_apart 18 rfl) ?_
      refine d_bad0 hst _ _ (by first | exact h0 | simp [fmI, upd]) ?_
      refine fm_then1 ?_
      refine fm_if_eq (pc := 33) 38 (by decide) (fm_dec dtX11_apart 19 rfl) (fun _ => ?_) (fun hc33 => by exfalso; revert hc33; decide)
      refine fm_iconst (pc := 38) (v := (-1)) (by decide) (fm_dec dtX11_apart 22 rfl) ?_
      refine fm_istoren (pc := 39) (n := 3) 3 rfl (by decide) rfl (fm_dec dtX11_apart 23 rfl) ?_
      dsimp only [List.set_cons_zero, List.set_cons_succ]
      refine fm_iconst (pc := 40) (v := 0) (by decide) (fm_dec dtX11_apart 24 rfl) ?_
      refine fm_istore (pc := 41) (i := 4) (by decide) rfl (fm_dec dtX11_apart 25 rfl) ?_
      dsimp only [List.set_cons_zero, List.set_cons_succ]
      refine fm_iload (pc := 43) (i := 4) rfl (fm_dec dtX11_apart 26 rfl) ?_
      refine fm_bipush (pc := 45) (v := 64) (by decide) (fm_dec dtX11_apart 27 rfl) ?_
      refine fm_icmp_ge (pc := 47) 86 (by decide) (fm_dec dtX11_apart 28 rfl) (fun hc47 => by exfalso; revert hc47; decide) (fun _ => ?_)
      refine fm_aloadn (pc := 50) (n := 0) 0 rfl rfl (fm_dec dtX11_apart 29 rfl) ?_
      refine fm_iloadn (pc := 51) (n := 1) 1 rfl rfl (fm_dec dtX11_apart 30 rfl) ?_
      refine fm_iload (pc := 52) (i := 4) rfl (fm_dec dtX11_apart 31 rfl) ?_
      refine fm_invV2 (k := 0) (d' := 1) (pc := 54) cv_X11_413 (by decide) rfl (Nat.le_of_ble_eq_true rfl) (by decide) (fm_dec dtX11_apart 32 rfl) ?_
      refine d_isApart0 hst _ _ (by first | exact hl | simp [fmI, fmJ, upd, hl]) ?_
      refine fm_then1 ?_
      refine fm_if_eq (pc := 57) 80 (by decide) (fm_dec dtX11_apart 33 rfl) (fun hc57 => by exfalso; revert hc57; decide) (fun _ => ?_)
      refine fm_iloadn (pc := 60) (n := 3) 3 rfl rfl (fm_dec dtX11_apart 34 rfl) ?_
      refine fm_iconst (pc := 61) (v := (-1)) (by decide) (fm_dec dtX11_apart 35 rfl) ?_
      refine fm_icmp_eq (pc := 62) 77 (by decide) (fm_dec dtX11_apart 36 rfl) (fun _ => ?_) (fun hc62 => by exfalso; revert hc62; decide)
      refine fm_iload (pc := 77) (i := 4) rfl (fm_dec dtX11_apart 42 rfl) ?_
      refine fm_istoren (pc := 79) (n := 3) 3 rfl (by decide) rfl (fm_dec dtX11_apart 43 rfl) ?_
      dsimp only [List.set_cons_zero, List.set_cons_succ]
      refine fm_iincc (pc := 80) 4 1 (by decide) rfl (by decide) rfl (fm_dec dtX11_apart 44 rfl) ?_
      dsimp only [List.set_cons_zero, List.set_cons_succ]
      refine fm_goto (pc := 83) 43 (by decide) (fm_dec dtX11_apart 45 rfl) ?_
      rw [show (0 : Int32) + 1 = nI 1 by decide]
      exact map_loop hst b w (by simp [fmI, fmJ, upd, hl]) (hq _ (by first | exact hth | simp [fmI, fmJ, upd]) ⟨hi8, hi17⟩) 63 1 (by omega)
    · refine fm_then1 ?_
      refine fm_if_ne (pc := 20) 27 (by decide) (fm_dec dtX11_apart 12 rfl) (fun hc20 => by exfalso; revert hc20; decide) (fun _ => ?_)
      refine fm_iconst (pc := 23) (v := 1) (by decide) (fm_dec dtX11_apart 13 rfl) ?_
      refine fm_goto (pc := 24) 28 (by decide) (fm_dec dtX11_apart 14 rfl) ?_
      refine fm_iconst (pc := 28) (v := 1) (by decide) (fm_dec dtX11_apart 16 rfl) ?_
      refine fm_iconst (pc := 29) (v := 1) (by decide) (fm_dec dtX11_apart 17 rfl) ?_
      refine fm_invV3 (k := 0) (d' := 0) (pc := 30) cv_X11_177 (by decide) rfl (Nat.le_of_ble_eq_true rfl) (by decide) (fm_dec dtX11_apart 18 rfl) ?_
      refine d_bad1_1 hst _ (by first | exact h0 | simp [fmI, upd]) (by decide) (fun Mb hb => ?_)
      refine fm_then1 ?_
      refine fm_if_eq (pc := 33) 38 (by decide) (fm_dec dtX11_apart 19 rfl) (fun hc33 => by exfalso; revert hc33; decide) (fun _ => ?_)
      refine fm_iconst (pc := 36) (v := 0) (by decide) (fm_dec dtX11_apart 20 rfl) ?_
      exact fm_ireturn (pc := 37) rfl (fm_dec dtX11_apart 21 rfl) (hx _ _ hb (fun h => by first | exact hn8 h.1 | exact hn17 h.2))
  · refine fm_then1 ?_
    refine fm_if_eq (pc := 11) 23 (by decide) (fm_dec dtX11_apart 7 rfl) (fun _ => ?_) (fun hc11 => by exfalso; revert hc11; decide)
    refine fm_iconst (pc := 23) (v := 1) (by decide) (fm_dec dtX11_apart 13 rfl) ?_
    refine fm_goto (pc := 24) 28 (by decide) (fm_dec dtX11_apart 14 rfl) ?_
    refine fm_iconst (pc := 28) (v := 1) (by decide) (fm_dec dtX11_apart 16 rfl) ?_
    refine fm_iconst (pc := 29) (v := 1) (by decide) (fm_dec dtX11_apart 17 rfl) ?_
    refine fm_invV3 (k := 0) (d' := 0) (pc := 30) cv_X11_177 (by decide) rfl (Nat.le_of_ble_eq_true rfl) (by decide) (fm_dec dtX11_apart 18 rfl) ?_
    refine d_bad1_1 hst _ (by first | exact h0 | simp [fmI, upd]) (by decide) (fun Mb hb => ?_)
    refine fm_then1 ?_
    refine fm_if_eq (pc := 33) 38 (by decide) (fm_dec dtX11_apart 19 rfl) (fun hc33 => by exfalso; revert hc33; decide) (fun _ => ?_)
    refine fm_iconst (pc := 36) (v := 0) (by decide) (fm_dec dtX11_apart 20 rfl) ?_
    exact fm_ireturn (pc := 37) rfl (fm_dec dtX11_apart 21 rfl) (hx _ _ hb (fun h => by first | exact hn8 h.1 | exact hn17 h.2))

set_option maxRecDepth 20000 in
theorem cp_loop_8_7 {l : Launch} {G : fmG} {Q : fmR → fmM → Prop} (hst : l.stackTraces = false)  : ∀ (n : Nat) (M : fmM) (i : Nat), i + n = 14 → (∀ j, j < i → M.1 8 j = M.1 7 j) → (∀ M', (∀ k, k ≠ 8 → M'.1 k = M.1 k) → (∀ j, j < 14 → M'.1 8 j = M.1 7 j) → M'.2 = M.2 → Q (.inl none) M') → fmEv Tm l G 0 qX11_copies 2 [some (.ref (G.1 7)), some (.ref (G.1 8)), some (.int (nI i))] [] M Q := by
  intro n
  induction n with
  | zero =>
    intro M i hi h0 hq
    have e : i = 14 := by omega
    subst e
    refine fm_iloadn (pc := 2) (n := 2) 2 rfl rfl (fm_dec dtX11_copies 2 rfl) ?_
    refine fm_bipush (pc := 3) (v := 14) (by decide) (fm_dec dtX11_copies 3 rfl) ?_
    refine fm_icmp_ge (pc := 5) 20 (by decide) (fm_dec dtX11_copies 4 rfl) (fun _ => ?_) (fun hc5 => by exfalso; revert hc5; decide)
    exact fm_return (pc := 20) rfl (fm_dec dtX11_copies 13 rfl) (hq M (fun _ _ => rfl) h0 rfl)
  | succ n ih =>
    intro M i hi h0 hq
    refine fm_iloadn (pc := 2) (n := 2) 2 rfl rfl (fm_dec dtX11_copies 2 rfl) ?_
    refine fm_bipush (pc := 3) (v := 14) (by decide) (fm_dec dtX11_copies 3 rfl) ?_
    refine fm_icmp_ge (pc := 5) 20 (by decide) (fm_dec dtX11_copies 4 rfl) (fun hc5 => by exfalso; rw [show (14 : Int32) = nI 14 by decide] at hc5; exact nI_ge (show i < 14 by omega) (by decide) hc5) (fun _ => ?_)
    refine fm_aloadn (pc := 8) (n := 1) 1 rfl rfl (fm_dec dtX11_copies 5 rfl) ?_
    refine fm_iloadn (pc := 9) (n := 2) 2 rfl rfl (fm_dec dtX11_copies 6 rfl) ?_
    refine fm_aloadn (pc := 10) (n := 0) 0 rfl rfl (fm_dec dtX11_copies 7 rfl) ?_
    refine fm_iloadn (pc := 11) (n := 2) 2 rfl rfl (fm_dec dtX11_copies 8 rfl) ?_
    refine fm_iald (k := 7) (n := 14) (pc := 12) (by decide) rfl rfl (vp_in_nI (by omega) (by decide)) (fm_dec dtX11_copies 9 rfl) ?_
    refine fm_iast (k := 8) (n := 14) (pc := 13) (by decide) rfl rfl (vp_in_nI (by omega) (by decide)) (fm_dec dtX11_copies 10 rfl) ?_
    refine fm_iincc (pc := 14) 2 1 (by decide) rfl (by decide) rfl (fm_dec dtX11_copies 11 rfl) ?_
    dsimp only [List.set_cons_zero, List.set_cons_succ]
    refine fm_goto (pc := 17) 2 (by decide) (fm_dec dtX11_copies 12 rfl) ?_
    rw [show nI i + 1 = nI (i + 1) from nI_1 i, nI_clamp (show i < 2 ^ 31 by omega)]
    refine ih _ (i + 1) (by omega) (fun j hj => ?_) (fun M1 e1 e2 e3 => hq M1 (fun k hk => by rw [e1 k hk]; simp [fmI, hk]) (fun j hj => by rw [e2 j hj]; simp [fmI]) (by rw [e3]; rfl))
    by_cases e : j = i
    · subst e; simp [fmI, upd]
    · rw [fmI_j _ _ e, h0 j (by omega)]; simp [fmI]

set_option maxRecDepth 20000 in
theorem d_copies_8_7 {l : Launch} {G : fmG} {M : fmM} {Q : fmR → fmM → Prop} (hst : l.stackTraces = false)  (hq : (∀ M', (∀ k, k ≠ 8 → M'.1 k = M.1 k) → (∀ j, j < 14 → M'.1 8 j = M.1 7 j) → M'.2 = M.2 → Q (.inl none) M')) : fmGood Tm l G 0 qX11_copies [.ref (G.1 7), .ref (G.1 8)] M Q := by
  refine fmGood_of hst (by decide +kernel) (Nat.le_of_ble_eq_true rfl) ?_
  show fmEv Tm l G 0 qX11_copies 0 [some (.ref (G.1 7)), some (.ref (G.1 8)), none] [] M Q
  refine fm_iconst (pc := 0) (v := 0) (by decide) (fm_dec dtX11_copies 0 rfl) ?_
  refine fm_istoren (pc := 1) (n := 2) 2 rfl (by decide) rfl (fm_dec dtX11_copies 1 rfl) ?_
  dsimp only [List.set_cons_zero, List.set_cons_succ]
  exact cp_loop_8_7 hst 14 M 0 (by omega) (fun j hj => absurd hj (by omega)) hq

set_option maxRecDepth 20000 in
theorem cp_loop_503_7 {l : Launch} {G : fmG} {Q : fmR → fmM → Prop} (hst : l.stackTraces = false)  : ∀ (n : Nat) (M : fmM) (i : Nat), i + n = 14 → (∀ j, j < i → M.1 503 j = M.1 7 j) → (∀ M', (∀ k, k ≠ 503 → M'.1 k = M.1 k) → (∀ j, j < 14 → M'.1 503 j = M.1 7 j) → M'.2 = M.2 → Q (.inl none) M') → fmEv Tm l G 0 qX11_copies 2 [some (.ref (G.1 7)), some (.ref (G.1 503)), some (.int (nI i))] [] M Q := by
  intro n
  induction n with
  | zero =>
    intro M i hi h0 hq
    have e : i = 14 := by omega
    subst e
    refine fm_iloadn (pc := 2) (n := 2) 2 rfl rfl (fm_dec dtX11_copies 2 rfl) ?_
    refine fm_bipush (pc := 3) (v := 14) (by decide) (fm_dec dtX11_copies 3 rfl) ?_
    refine fm_icmp_ge (pc := 5) 20 (by decide) (fm_dec dtX11_copies 4 rfl) (fun _ => ?_) (fun hc5 => by exfalso; revert hc5; decide)
    exact fm_return (pc := 20) rfl (fm_dec dtX11_copies 13 rfl) (hq M (fun _ _ => rfl) h0 rfl)
  | succ n ih =>
    intro M i hi h0 hq
    refine fm_iloadn (pc := 2) (n := 2) 2 rfl rfl (fm_dec dtX11_copies 2 rfl) ?_
    refine fm_bipush (pc := 3) (v := 14) (by decide) (fm_dec dtX11_copies 3 rfl) ?_
    refine fm_icmp_ge (pc := 5) 20 (by decide) (fm_dec dtX11_copies 4 rfl) (fun hc5 => by exfalso; rw [show (14 : Int32) = nI 14 by decide] at hc5; exact nI_ge (show i < 14 by omega) (by decide) hc5) (fun _ => ?_)
    refine fm_aloadn (pc := 8) (n := 1) 1 rfl rfl (fm_dec dtX11_copies 5 rfl) ?_
    refine fm_iloadn (pc := 9) (n := 2) 2 rfl rfl (fm_dec dtX11_copies 6 rfl) ?_
    refine fm_aloadn (pc := 10) (n := 0) 0 rfl rfl (fm_dec dtX11_copies 7 rfl) ?_
    refine fm_iloadn (pc := 11) (n := 2) 2 rfl rfl (fm_dec dtX11_copies 8 rfl) ?_
    refine fm_iald (k := 7) (n := 14) (pc := 12) (by decide) rfl rfl (vp_in_nI (by omega) (by decide)) (fm_dec dtX11_copies 9 rfl) ?_
    refine fm_iast (k := 503) (n := 14) (pc := 13) (by decide) rfl rfl (vp_in_nI (by omega) (by decide)) (fm_dec dtX11_copies 10 rfl) ?_
    refine fm_iincc (pc := 14) 2 1 (by decide) rfl (by decide) rfl (fm_dec dtX11_copies 11 rfl) ?_
    dsimp only [List.set_cons_zero, List.set_cons_succ]
    refine fm_goto (pc := 17) 2 (by decide) (fm_dec dtX11_copies 12 rfl) ?_
    rw [show nI i + 1 = nI (i + 1) from nI_1 i, nI_clamp (show i < 2 ^ 31 by omega)]
    refine ih _ (i + 1) (by omega) (fun j hj => ?_) (fun M1 e1 e2 e3 => hq M1 (fun k hk => by rw [e1 k hk]; simp [fmI, hk]) (fun j hj => by rw [e2 j hj]; simp [fmI]) (by rw [e3]; rfl))
    by_cases e : j = i
    · subst e; simp [fmI, upd]
    · rw [fmI_j _ _ e, h0 j (by omega)]; simp [fmI]

set_option maxRecDepth 20000 in
theorem d_copies_503_7 {l : Launch} {G : fmG} {M : fmM} {Q : fmR → fmM → Prop} (hst : l.stackTraces = false)  (hq : (∀ M', (∀ k, k ≠ 503 → M'.1 k = M.1 k) → (∀ j, j < 14 → M'.1 503 j = M.1 7 j) → M'.2 = M.2 → Q (.inl none) M')) : fmGood Tm l G 0 qX11_copies [.ref (G.1 7), .ref (G.1 503)] M Q := by
  refine fmGood_of hst (by decide +kernel) (Nat.le_of_ble_eq_true rfl) ?_
  show fmEv Tm l G 0 qX11_copies 0 [some (.ref (G.1 7)), some (.ref (G.1 503)), none] [] M Q
  refine fm_iconst (pc := 0) (v := 0) (by decide) (fm_dec dtX11_copies 0 rfl) ?_
  refine fm_istoren (pc := 1) (n := 2) 2 rfl (by decide) rfl (fm_dec dtX11_copies 1 rfl) ?_
  dsimp only [List.set_cons_zero, List.set_cons_succ]
  exact cp_loop_503_7 hst 14 M 0 (by omega) (fun j hj => absurd hj (by omega)) hq

set_option maxRecDepth 20000 in
theorem d_weekEnds {l : Launch} {G : fmG} {M : fmM} {Q : fmR → fmM → Prop} (hst : l.stackTraces = false)  (hq : ∀ (r : Int32) M', (∀ k, k ≠ 8 → M'.1 k = M.1 k) → (∀ j, j ≠ 9 → j ≠ 10 → M'.1 8 j = M.1 8 j) → M'.2 = M.2 → Q (.inl (some (.int r))) M') : fmGood Tm l G 0 qX11_weekEnds [.ref (G.1 0), .ref (G.1 8)] M Q := by
  refine fmGood_of hst (by decide +kernel) (Nat.le_of_ble_eq_true rfl) ?_
  show fmEv Tm l G 0 qX11_weekEnds 0 [some (.ref (G.1 0)), some (.ref (G.1 8))] [] M Q
  refine fm_aloadn (pc := 0) (n := 1) 1 rfl rfl (fm_dec dtX11_weekEnds 0 rfl) ?_
  refine fm_bipush (pc := 1) (v := 10) (by decide) (fm_dec dtX11_weekEnds 1 rfl) ?_
  refine fm_iald (k := 8) (n := 14) (pc := 3) (by decide) rfl rfl (fm_inl (by decide)) (fm_dec dtX11_weekEnds 2 rfl) ?_
  refine fm_sipush (pc := 4) (v := 200) (by decide) (fm_dec dtX11_weekEnds 3 rfl) ?_
  refine fm_icmp_ne (pc := 7) 12 (by decide) (fm_dec dtX11_weekEnds 4 rfl) (fun hc7 => ?_) (fun hc7 => ?_)
  · refine fm_aloadn (pc := 12) (n := 1) 1 rfl rfl (fm_dec dtX11_weekEnds 7 rfl) ?_
    refine fm_bipush (pc := 13) (v := 10) (by decide) (fm_dec dtX11_weekEnds 8 rfl) ?_
    refine fm_dup2 (pc := 15) rfl rfl (fm_dec dtX11_weekEnds 9 rfl) ?_
    refine fm_iald (k := 8) (n := 14) (pc := 16) (by decide) rfl rfl (fm_inl (by decide)) (fm_dec dtX11_weekEnds 10 rfl) ?_
    refine fm_iconst (pc := 17) (v := 1) (by decide) (fm_dec dtX11_weekEnds 11 rfl) ?_
    refine fm_iadd (pc := 18) (fm_dec dtX11_weekEnds 12 rfl) ?_
    refine fm_iast (k := 8) (n := 14) (pc := 19) (by decide) rfl rfl (fm_inl (by decide)) (fm_dec dtX11_weekEnds 13 rfl) ?_
    refine fm_aloadn (pc := 20) (n := 1) 1 rfl rfl (fm_dec dtX11_weekEnds 14 rfl) ?_
    refine fm_bipush (pc := 21) (v := 9) (by decide) (fm_dec dtX11_weekEnds 15 rfl) ?_
    refine fm_aloadn (pc := 23) (n := 0) 0 rfl rfl (fm_dec dtX11_weekEnds 16 rfl) ?_
    refine fm_getR (k := 0) (j := 12) (ci := 11) (pc := 24) 4 rfl fl_X11_23 (by decide) rfl (by decide) (by decide) (fm_dec dtX11_weekEnds 17 rfl) ?_
    refine fm_iconst (pc := 27) (v := 2) (by decide) (fm_dec dtX11_weekEnds 18 rfl) ?_
    refine fm_iald (k := 4) (n := 6) (pc := 28) (by decide) rfl rfl (fm_inl (by decide)) (fm_dec dtX11_weekEnds 19 rfl) ?_
    refine fm_iast (k := 8) (n := 14) (pc := 29) (by decide) rfl rfl (fm_inl (by decide)) (fm_dec dtX11_weekEnds 20 rfl) ?_
    refine fm_iconst (pc := 30) (v := 1) (by decide) (fm_dec dtX11_weekEnds 21 rfl) ?_
    exact fm_zreturn (pc := 31) rfl rfl (fm_dec dtX11_weekEnds 22 rfl) (hq _ _ (by intro k h1; simp [fmI, h1]) (by intro j h1 h2; simp [fmI, upd, h1, h2]) rfl)
  · refine fm_iconst (pc := 10) (v := 0) (by decide) (fm_dec dtX11_weekEnds 5 rfl) ?_
    exact fm_zreturn (pc := 11) rfl rfl (fm_dec dtX11_weekEnds 6 rfl) (hq _ _ (by intro k h1; simp [fmI, h1]) (by intro j h1 h2; simp [fmI, upd, h1, h2]) rfl)

set_option maxRecDepth 20000 in
theorem ri_loop {l : Launch} {G : fmG} {Q : fmR → fmM → Prop} (hst : l.stackTraces = false) (w : Nat) (hw : w ≤ 60) : ∀ (n : Nat) (M : fmM) (i : Nat), i + n = w → M.1 4 0 = 0 → (∀ M', (∀ k, k ≠ 8 → M'.1 k = M.1 k) → M'.2 = M.2 → Q (.inl (some (.long 0))) M') → fmEv Tm l G 8 qX11_riskIn 13 [some (.ref (G.1 0)), some (.int (nI w)), some (.int (nI i))] [] M Q := by
  intro n
  induction n with
  | zero =>
    intro M i hi hl hq
    have e : i = w := by omega
    subst e
    refine fm_iloadn (pc := 13) (n := 2) 2 rfl rfl (fm_dec dtX11_riskIn 7 rfl) ?_
    refine fm_iloadn (pc := 14) (n := 1) 1 rfl rfl (fm_dec dtX11_riskIn 8 rfl) ?_
    refine fm_icmp_ge (pc := 15) 33 (by decide) (fm_dec dtX11_riskIn 9 rfl) (fun _ => ?_) (fun hc15 => by exfalso; exact hc15 (Int32.le_refl _))
    refine fm_aloadn (pc := 33) (n := 0) 0 rfl rfl (fm_dec dtX11_riskIn 17 rfl) ?_
    refine fm_aloadn (pc := 34) (n := 0) 0 rfl rfl (fm_dec dtX11_riskIn 18 rfl) ?_
    refine fm_getR (k := 0) (j := 28) (ci := 11) (pc := 35) 8 rfl fl_X11_64 (by decide) rfl (by decide) (by decide) (fm_dec dtX11_riskIn 19 rfl) ?_
    refine fm_invV1 (k := 0) (d' := 7) (pc := 38) cv_X11_349 (by decide) rfl (Nat.le_of_ble_eq_true rfl) (by decide) (fm_dec dtX11_riskIn 20 rfl) ?_
    refine d_riskOf0 hst _ (by first | exact hl | simp [fmI, fmJ, upd, hl]) ?_
    refine fm_then1 ?_
    exact fm_lreturn (pc := 41) rfl (fm_dec dtX11_riskIn 21 rfl) (hq M (fun _ _ => rfl) rfl)
  | succ n ih =>
    intro M i hi hl hq
    refine fm_iloadn (pc := 13) (n := 2) 2 rfl rfl (fm_dec dtX11_riskIn 7 rfl) ?_
    refine fm_iloadn (pc := 14) (n := 1) 1 rfl rfl (fm_dec dtX11_riskIn 8 rfl) ?_
    refine fm_icmp_ge (pc := 15) 33 (by decide) (fm_dec dtX11_riskIn 9 rfl) (fun hc15 => by exfalso; exact nI_ge (show i < w by omega) (by omega) hc15) (fun _ => ?_)
    refine fm_aloadn (pc := 18) (n := 0) 0 rfl rfl (fm_dec dtX11_riskIn 10 rfl) ?_
    refine fm_aloadn (pc := 19) (n := 0) 0 rfl rfl (fm_dec dtX11_riskIn 11 rfl) ?_
    refine fm_getR (k := 0) (j := 28) (ci := 11) (pc := 20) 8 rfl fl_X11_64 (by decide) rfl (by decide) (by decide) (fm_dec dtX11_riskIn 12 rfl) ?_
    refine fm_invV1 (k := 0) (d' := 0) (pc := 23) cv_X11_306 (by decide) rfl (Nat.le_of_ble_eq_true rfl) (by decide) (fm_dec dtX11_riskIn 13 rfl) ?_
    refine d_weekEnds hst (fun r23 M23 f23 g23 s23 => ?_)
    refine fm_then1 ?_
    refine fm_pop (pc := 26) rfl (fm_dec dtX11_riskIn 14 rfl) ?_
    refine fm_iincc (pc := 27) 2 1 (by decide) rfl (by decide) rfl (fm_dec dtX11_riskIn 15 rfl) ?_
    dsimp only [List.set_cons_zero, List.set_cons_succ]
    refine fm_goto (pc := 30) 13 (by decide) (fm_dec dtX11_riskIn 16 rfl) ?_
    rw [show nI i + 1 = nI (i + 1) from nI_1 i]
    exact ih _ (i + 1) (by omega) (by rw [f23 4 (by decide)]; exact hl) (fun M1 f1 s1 => hq M1 (fun k h => by rw [f1 k h, f23 k h]) (by rw [s1, s23]))

set_option maxRecDepth 20000 in
theorem d_riskIn0 {l : Launch} {G : fmG} {M : fmM} {Q : fmR → fmM → Prop} (hst : l.stackTraces = false) (w : Nat) (hl : M.1 4 0 = 0) (hw : w ≤ 60) (hq : (∀ M', (∀ k, k ≠ 8 → M'.1 k = M.1 k) → M'.2 = M.2 → Q (.inl (some (.long 0))) M')) : fmGood Tm l G 8 qX11_riskIn [.ref (G.1 0), .int (nI w)] M Q := by
  refine fmGood_of hst (by decide +kernel) (Nat.le_of_ble_eq_true rfl) ?_
  show fmEv Tm l G 8 qX11_riskIn 0 [some (.ref (G.1 0)), some (.int (nI w)), none] [] M Q
  refine fm_aloadn (pc := 0) (n := 0) 0 rfl rfl (fm_dec dtX11_riskIn 0 rfl) ?_
  refine fm_getR (k := 0) (j := 27) (ci := 11) (pc := 1) 7 rfl fl_X11_61 (by decide) rfl (by decide) (by decide) (fm_dec dtX11_riskIn 1 rfl) ?_
  refine fm_aloadn (pc := 4) (n := 0) 0 rfl rfl (fm_dec dtX11_riskIn 2 rfl) ?_
  refine fm_getR (k := 0) (j := 28) (ci := 11) (pc := 5) 8 rfl fl_X11_64 (by decide) rfl (by decide) (by decide) (fm_dec dtX11_riskIn 3 rfl) ?_
  refine fm_invS2 (d' := 0) (pc := 8) cs_X11_323 (Nat.le_of_ble_eq_true rfl) (by decide) (fm_dec dtX11_riskIn 4 rfl) ?_
  refine d_copies_8_7 hst (fun M8 f8 g8 s8 => ?_)
  refine fm_then0 ?_
  refine fm_iconst (pc := 11) (v := 0) (by decide) (fm_dec dtX11_riskIn 5 rfl) ?_
  refine fm_istoren (pc := 12) (n := 2) 2 rfl (by decide) rfl (fm_dec dtX11_riskIn 6 rfl) ?_
  dsimp only [List.set_cons_zero, List.set_cons_succ]
  exact ri_loop hst w hw w _ 0 (by omega) (by rw [f8 4 (by decide)]; exact hl) (fun M1 f1 s1 => hq M1 (fun k h => by rw [f1 k h, f8 k h]) (by rw [s1, s8]))

set_option maxRecDepth 20000 in
theorem m_ahead {l : Launch} {G : fmG} {M : fmM} {Q : fmR → fmM → Prop} (hst : l.stackTraces = false) (w p : Int32) (hl : M.1 4 0 = 0) (hq : ∀ M', M'.1 0 0 = 0 → (inR w 0 60 ∧ inR p 0 1) → Q (.inl (some (.long (if p = 0 then 0 else 1)))) M') (hx : ∀ (r9 : Int64) M', M'.1 0 0 = 1 → ¬ (inR w 0 60 ∧ inR p 0 1) → Q (.inl (some (.long r9))) M') : fmGood Tm l G 9 qX11_ahead [.ref (G.1 0), .int w, .int p] M Q := by
  refine fmGood_of hst (by decide +kernel) (Nat.le_of_ble_eq_true rfl) ?_
  show fmEv Tm l G 9 qX11_ahead 0 [some (.ref (G.1 0)), some (.int w), some (.int p)] [] M Q
  refine fm_aloadn (pc := 0) (n := 0) 0 rfl rfl (fm_dec dtX11_ahead 0 rfl) ?_
  refine fm_iconst (pc := 1) (v := 0) (by decide) (fm_dec dtX11_ahead 1 rfl) ?_
  refine fm_putI (k := 0) (j := 0) (ci := 11) (pc := 2) fl_X11_101 (by decide) rfl (by decide) rfl rfl (fm_dec dtX11_ahead 2 rfl) ?_
  refine fm_aloadn (pc := 5) (n := 0) 0 rfl rfl (fm_dec dtX11_ahead 3 rfl) ?_
  refine fm_iloadn (pc := 6) (n := 1) 1 rfl rfl (fm_dec dtX11_ahead 4 rfl) ?_
  refine fm_iconst (pc := 7) (v := 0) (by decide) (fm_dec dtX11_ahead 5 rfl) ?_
  refine fm_bipush (pc := 8) (v := 60) (by decide) (fm_dec dtX11_ahead 6 rfl) ?_
  refine fm_invS3 (d' := 0) (pc := 10) cs_X11_135 (Nat.le_of_ble_eq_true rfl) (by decide) (fm_dec dtX11_ahead 7 rfl) ?_
  refine d_in hst _ _ _ (fun hi10 => ?_) (fun hn10 => ?_)
  · refine fm_then1 ?_
    refine fm_if_ne (pc := 13) 20 (by decide) (fm_dec dtX11_ahead 8 rfl) (fun _ => ?_) (fun hc13 => by exfalso; revert hc13; decide)
    refine fm_iconst (pc := 20) (v := 0) (by decide) (fm_dec dtX11_ahead 11 rfl) ?_
    refine fm_iconst (pc := 21) (v := 1) (by decide) (fm_dec dtX11_ahead 12 rfl) ?_
    refine fm_iconst (pc := 22) (v := 1) (by decide) (fm_dec dtX11_ahead 13 rfl) ?_
    refine fm_invV3 (k := 0) (d' := 0) (pc := 23) cv_X11_177 (by decide) rfl (Nat.le_of_ble_eq_true rfl) (by decide) (fm_dec dtX11_ahead 14 rfl) ?_
    refine d_bad0 hst _ _ (by first | exact h0 | simp [fmI, upd]) ?_
    refine fm_then1 ?_
    refine fm_if_ne (pc := 26) 38 (by decide) (fm_dec dtX11_ahead 15 rfl) (fun hc26 => by exfalso; revert hc26; decide) (fun _ => ?_)
    refine fm_aloadn (pc := 29) (n := 0) 0 rfl rfl (fm_dec dtX11_ahead 16 rfl) ?_
    refine fm_iloadn (pc := 30) (n := 2) 2 rfl rfl (fm_dec dtX11_ahead 17 rfl) ?_
    refine fm_iconst (pc := 31) (v := 1) (by decide) (fm_dec dtX11_ahead 18 rfl) ?_
    refine fm_invV2 (k := 0) (d' := 1) (pc := 32) cv_X11_340 (by decide) rfl (Nat.le_of_ble_eq_true rfl) (by decide) (fm_dec dtX11_ahead 19 rfl) ?_
    refine d_noPart hst _ _ (by first | exact h0 | simp [fmI, upd]) (by decide) (fun hi32 => ?_) (fun Mb hb hn32 => ?_)
    · refine fm_then1 ?_
      refine fm_if_eq (pc := 35) 40 (by decide) (fm_dec dtX11_ahead 20 rfl) (fun _ => ?_) (fun hc35 => by exfalso; revert hc35; decide)
      obtain ⟨w9, hw9, rfl⟩ := inR_nI 60 (by decide) (by decide) hi10
      refine fm_aloadn (pc := 40) (n := 0) 0 rfl rfl (fm_dec dtX11_ahead 23 rfl) ?_
      refine fm_iloadn (pc := 41) (n := 1) 1 rfl rfl (fm_dec dtX11_ahead 24 rfl) ?_
      refine fm_invV1 (k := 0) (d' := 8) (pc := 42) cv_X11_423 (by decide) rfl (Nat.le_of_ble_eq_true rfl) (by decide) (fm_dec dtX11_ahead 25 rfl) ?_
      refine d_riskIn0 hst w9 (by simp [fmI, fmJ, upd, hl]) hw9 (fun M42 f42 s42 => ?_)
      refine fm_then1 ?_
      refine fm_ldc2 (pc := 45) kc_X11_353 (fm_dec dtX11_ahead 26 rfl) ?_
      refine fm_iloadn (pc := 48) (n := 2) 2 rfl rfl (fm_dec dtX11_ahead 27 rfl) ?_
      refine fm_invS3 (d' := 0) (pc := 49) cs_X11_345 (Nat.le_of_ble_eq_true rfl) (by decide) (fm_dec dtX11_ahead 28 rfl) ?_
      refine d_partOf0 hst _ _ (by decide) (by decide) ?_
      refine fm_then1 ?_
      exact fm_lreturn (pc := 52) rfl (fm_dec dtX11_ahead 29 rfl) (hq _ (by rw [f42 0 (by decide)]; simp [fmI, upd]) ⟨hi10, hi32⟩)
    · refine fm_then1 ?_
      refine fm_if_eq (pc := 35) 40 (by decide) (fm_dec dtX11_ahead 20 rfl) (fun hc35 => by exfalso; revert hc35; decide) (fun _ => ?_)
      refine fm_lconst (pc := 38) (v := 0) (by decide) (fm_dec dtX11_ahead 21 rfl) ?_
      exact fm_lreturn (pc := 39) rfl (fm_dec dtX11_ahead 22 rfl) (hx _ _ hb (fun h => by first | exact hn10 h.1 | exact hn32 h.2))
  · refine fm_then1 ?_
    refine fm_if_ne (pc := 13) 20 (by decide) (fm_dec dtX11_ahead 8 rfl) (fun hc13 => by exfalso; revert hc13; decide) (fun _ => ?_)
    refine fm_iconst (pc := 16) (v := 1) (by decide) (fm_dec dtX11_ahead 9 rfl) ?_
    refine fm_goto (pc := 17) 21 (by decide) (fm_dec dtX11_ahead 10 rfl) ?_
    refine fm_iconst (pc := 21) (v := 1) (by decide) (fm_dec dtX11_ahead 12 rfl) ?_
    refine fm_iconst (pc := 22) (v := 1) (by decide) (fm_dec dtX11_ahead 13 rfl) ?_
    refine fm_invV3 (k := 0) (d' := 0) (pc := 23) cv_X11_177 (by decide) rfl (Nat.le_of_ble_eq_true rfl) (by decide) (fm_dec dtX11_ahead 14 rfl) ?_
    refine d_bad1_1 hst _ (by first | exact h0 | simp [fmI, upd]) (by decide) (fun Mb hb => ?_)
    refine fm_then1 ?_
    refine fm_if_ne (pc := 26) 38 (by decide) (fm_dec dtX11_ahead 15 rfl) (fun _ => ?_) (fun hc26 => by exfalso; revert hc26; decide)
    refine fm_lconst (pc := 38) (v := 0) (by decide) (fm_dec dtX11_ahead 21 rfl) ?_
    exact fm_lreturn (pc := 39) rfl (fm_dec dtX11_ahead 22 rfl) (hx _ _ hb (fun h => by first | exact hn10 h.1 | exact hn32 h.2))

set_option maxRecDepth 20000 in
theorem mwo_loop {l : Launch} {G : fmG} {Q : fmR → fmM → Prop} (hst : l.stackTraces = false) (hq : ∀ M', Q (.inl (some (.int (nI 0)))) M') : ∀ (n : Nat) (M : fmM) (i : Nat), i + n = 61 → M.1 4 0 = 0 → (∀ M', Q (.inl (some (.int (nI 0)))) M') → fmEv Tm l G 9 qX11_worst 9 [some (.ref (G.1 0)), some (.int (nI 0)), some (.int (nI i))] [] M Q := by
  intro n
  induction n with
  | zero =>
    intro M i hi hl hq
    have e : i = 61 := by omega
    subst e
    refine fm_iloadn (pc := 9) (n := 2) 2 rfl rfl (fm_dec dtX11_worst 7 rfl) ?_
    refine fm_bipush (pc := 10) (v := 60) (by decide) (fm_dec dtX11_worst 8 rfl) ?_
    refine fm_icmp_gt (pc := 12) 41 (by decide) (fm_dec dtX11_worst 9 rfl) (fun _ => ?_) (fun hc12 => by exfalso; revert hc12; decide)
    refine fm_iloadn (pc := 41) (n := 1) 1 rfl rfl (fm_dec dtX11_worst 24 rfl) ?_
    exact fm_ireturn (pc := 42) rfl (fm_dec dtX11_worst 25 rfl) (hq M)
  | succ n ih =>
    intro M i hi hl hq
    refine fm_iloadn (pc := 9) (n := 2) 2 rfl rfl (fm_dec dtX11_worst 7 rfl) ?_
    refine fm_bipush (pc := 10) (v := 60) (by decide) (fm_dec dtX11_worst 8 rfl) ?_
    refine fm_icmp_gt (pc := 12) 41 (by decide) (fm_dec dtX11_worst 9 rfl) (fun hc12 => by exfalso; exact absurd hc12 (by rw [show (60 : Int32) = nI 60 by decide]; exact nI_nlt (by omega) (by decide))) (fun _ => ?_)
    refine fm_aloadn (pc := 15) (n := 0) 0 rfl rfl (fm_dec dtX11_worst 10 rfl) ?_
    refine fm_iloadn (pc := 16) (n := 2) 2 rfl rfl (fm_dec dtX11_worst 11 rfl) ?_
    refine fm_invV1 (k := 0) (d' := 8) (pc := 17) cv_X11_423 (by decide) rfl (Nat.le_of_ble_eq_true rfl) (by decide) (fm_dec dtX11_worst 12 rfl) ?_
    refine d_riskIn0 hst i hl (by omega) (fun M17 f17 s17 => ?_)
    refine fm_then1 ?_
    refine fm_aloadn (pc := 20) (n := 0) 0 rfl rfl (fm_dec dtX11_worst 13 rfl) ?_
    refine fm_iloadn (pc := 21) (n := 1) 1 rfl rfl (fm_dec dtX11_worst 14 rfl) ?_
    refine fm_invV1 (k := 0) (d' := 8) (pc := 22) cv_X11_423 (by decide) rfl (Nat.le_of_ble_eq_true rfl) (by decide) (fm_dec dtX11_worst 15 rfl) ?_
    refine d_riskIn0 hst 0 (by rw [f17 4 (by decide)]; exact hl) (by omega) (fun M22 f22 s22 => ?_)
    refine fm_then1 ?_
    refine fm_lcmp (pc := 25) (fm_dec dtX11_worst 16 rfl) ?_
    refine fm_if_le (pc := 26) 33 (by decide) (fm_dec dtX11_worst 17 rfl) (fun _ => ?_) (fun hc26 => by exfalso; exact hc26 (by rw [lg_00]; decide))
    refine fm_iloadn (pc := 33) (n := 1) 1 rfl rfl (fm_dec dtX11_worst 20 rfl) ?_
    refine fm_istoren (pc := 34) (n := 1) 1 rfl (by decide) rfl (fm_dec dtX11_worst 21 rfl) ?_
    dsimp only [List.set_cons_zero, List.set_cons_succ]
    refine fm_iincc (pc := 35) 2 1 (by decide) rfl (by decide) rfl (fm_dec dtX11_worst 22 rfl) ?_
    dsimp only [List.set_cons_zero, List.set_cons_succ]
    refine fm_goto (pc := 38) 9 (by decide) (fm_dec dtX11_worst 23 rfl) ?_
    rw [show nI i + 1 = nI (i + 1) from nI_1 i]
    exact ih _ (i + 1) (by omega) (by rw [f22 4 (by decide), f17 4 (by decide)]; exact hl) hq

set_option maxRecDepth 20000 in
theorem m_worst {l : Launch} {G : fmG} {M : fmM} {Q : fmR → fmM → Prop} (hst : l.stackTraces = false)  (hl : M.1 4 0 = 0) (hq : ∀ M', Q (.inl (some (.int 0))) M') : fmGood Tm l G 9 qX11_worst [.ref (G.1 0)] M Q := by
  refine fmGood_of hst (by decide +kernel) (Nat.le_of_ble_eq_true rfl) ?_
  show fmEv Tm l G 9 qX11_worst 0 [some (.ref (G.1 0)), none, none] [] M Q
  refine fm_aloadn (pc := 0) (n := 0) 0 rfl rfl (fm_dec dtX11_worst 0 rfl) ?_
  refine fm_iconst (pc := 1) (v := 0) (by decide) (fm_dec dtX11_worst 1 rfl) ?_
  refine fm_putI (k := 0) (j := 0) (ci := 11) (pc := 2) fl_X11_101 (by decide) rfl (by decide) rfl rfl (fm_dec dtX11_worst 2 rfl) ?_
  refine fm_iconst (pc := 5) (v := 0) (by decide) (fm_dec dtX11_worst 3 rfl) ?_
  refine fm_istoren (pc := 6) (n := 1) 1 rfl (by decide) rfl (fm_dec dtX11_worst 4 rfl) ?_
  dsimp only [List.set_cons_zero, List.set_cons_succ]
  refine fm_iconst (pc := 7) (v := 1) (by decide) (fm_dec dtX11_worst 5 rfl) ?_
  refine fm_istoren (pc := 8) (n := 2) 2 rfl (by decide) rfl (fm_dec dtX11_worst 6 rfl) ?_
  dsimp only [List.set_cons_zero, List.set_cons_succ]
  exact mwo_loop hst hq 60 _ 1 (by omega) (by simp [fmI, fmJ, upd, hl]) hq
