-- THE REFERENCE WORKS
/-- the hours that a piece takes now -/
def hrV (M : fmM) (k : Nat) : Int32 := if M.1 7 (1 + k) = -1000 then M.1 (35 + k) 3 else pvMx true 1 (M.1 (35 + k) 3 / M.1 4 5)
theorem told5 {M : fmM} (hI : scInv Tm invM M) : ¬ M.1 4 5 = 0 := by
  intro e
  have h1 : 1 ≤ (M.1 4 5).toInt := (hI.1 4 5 (by decide)).1
  rw [e] at h1
  exact absurd h1 (by decide)
set_option maxRecDepth 20000 in
theorem c_renew {M : fmM} {Q : fmR → fmM → Prop} {i : Int32} {k : Nat} (hi : i.toInt = k) (hk : k < 8) (h5 : ¬ M.1 4 5 = 0) (hq : Q (.inl (some (.int (pvMx true 1 (M.1 (35 + k) 3 / M.1 4 5))))) M) : pvGood Tm 1 qX11_renewHours [.ref 0, .int i] M Q := by
  refine pvGood_of (Nat.le_of_ble_eq_true rfl) ?_
  show pvEv Tm 1 qX11_renewHours 0 [some (.ref 0), some (.int i)] [] M Q
  refine pv_iconst (pc := 0) (v := 1) (by decide) (fm_dec dtX11_renewHours 0 rfl) ?_
  refine pv_aloadn (pc := 1) (n := 0) 0 rfl rfl (fm_dec dtX11_renewHours 1 rfl) ?_
  refine pv_getR (k := 0) (j := 14) (ci := 11) (pc := 2) 17 rfl (by decide) pfl_X11_31 (by decide) rfl (by decide) (fm_dec dtX11_renewHours 2 rfl) ?_
  refine pv_iloadn (pc := 5) (n := 1) 1 rfl rfl (fm_dec dtX11_renewHours 3 rfl) ?_
  refine pv_aald (k := 17) (n := 8) (r := (35 + k)) (pc := 6) (by decide) (Or.inr (Or.inr rfl)) rfl (rw_life.inb hi hk) (rw_life.at hi hk) (rw_life.2.2.2 _ hk).2.1 (fm_dec dtX11_renewHours 4 rfl) ?_
  refine pv_iconst (pc := 7) (v := 3) (by decide) (fm_dec dtX11_renewHours 5 rfl) ?_
  refine pv_iald (k := (35 + k)) (n := 6) (pc := 8) (rw_life.2.2.2 _ hk).2.2.1 (rw_life.2.2.2 _ hk).2.2.2.1 (rw_life.2.2.2 _ hk).2.2.2.2 (fm_inl (by decide)) (fm_dec dtX11_renewHours 6 rfl) ?_
  refine pv_aloadn (pc := 9) (n := 0) 0 rfl rfl (fm_dec dtX11_renewHours 7 rfl) ?_
  refine pv_getR (k := 0) (j := 12) (ci := 11) (pc := 10) 4 rfl (by decide) pfl_X11_23 (by decide) rfl (by decide) (fm_dec dtX11_renewHours 8 rfl) ?_
  refine pv_iconst (pc := 13) (v := 5) (by decide) (fm_dec dtX11_renewHours 9 rfl) ?_
  refine pv_iald (k := 4) (n := 6) (pc := 14) (by decide) rfl rfl (fm_inl (by decide)) (fm_dec dtX11_renewHours 10 rfl) ?_
  refine pv_idiv (pc := 15) h5 (fm_dec dtX11_renewHours 11 rfl) ?_
  refine pv_mm (pc := 16) pmm_X11_240 (by decide) (Nat.le_of_ble_eq_true rfl) (fm_dec dtX11_renewHours 12 rfl) ?_
  exact pv_ireturn (pc := 19) rfl (fm_dec dtX11_renewHours 13 rfl) hq
set_option maxRecDepth 20000 in
theorem c_hours7 {M : fmM} {Q : fmR → fmM → Prop} {i : Int32} {k : Nat} (hi : i.toInt = k) (hk : k < 8) (h5 : ¬ M.1 4 5 = 0) (hq : Q (.inl (some (.int (hrV M k)))) M) : pvGood Tm 2 qX11_hoursFor [.ref 0, .ref 7, .int i] M Q := by
  refine pvGood_of (Nat.le_of_ble_eq_true rfl) ?_
  show pvEv Tm 2 qX11_hoursFor 0 [some (.ref 0), some (.ref 7), some (.int i)] [] M Q
  refine pv_aloadn (pc := 0) (n := 1) 1 rfl rfl (fm_dec dtX11_hoursFor 0 rfl) ?_
  refine pv_iloadn (pc := 1) (n := 2) 2 rfl rfl (fm_dec dtX11_hoursFor 1 rfl) ?_
  refine pv_iS2 (d' := 0) (pc := 2) pcs_X11_283 (Nat.le_of_ble_eq_true rfl) (by decide) (fm_dec dtX11_hoursFor 2 rfl) ?_
  refine c_hasPiece7 hi hk (fun h2 => ?_) (fun h2 => ?_)
  · refine pv_then1 ?_
    refine pv_if_eq (pc := 5) 16 (by decide) (fm_dec dtX11_hoursFor 3 rfl) (fun hc5 => by exfalso; revert hc5; decide) (fun _ => ?_)
    refine pv_aloadn (pc := 8) (n := 0) 0 rfl rfl (fm_dec dtX11_hoursFor 4 rfl) ?_
    refine pv_iloadn (pc := 9) (n := 2) 2 rfl rfl (fm_dec dtX11_hoursFor 5 rfl) ?_
    refine pv_invV1 (k := 0) (d' := 1) (pc := 10) pcv_X11_287 (by decide) rfl (Nat.le_of_ble_eq_true rfl) (by decide) (fm_dec dtX11_hoursFor 6 rfl) ?_
    refine c_renew hi hk h5 ?_
    refine pv_then1 ?_
    refine pv_goto (pc := 13) 24 (by decide) (fm_dec dtX11_hoursFor 7 rfl) ?_
    exact pv_ireturn (pc := 24) rfl (fm_dec dtX11_hoursFor 14 rfl) (by have h9 := hq; unfold hrV at h9; rw [if_neg h2] at h9; exact h9)
  · refine pv_then1 ?_
    refine pv_if_eq (pc := 5) 16 (by decide) (fm_dec dtX11_hoursFor 3 rfl) (fun _ => ?_) (fun hc5 => by exfalso; revert hc5; decide)
    refine pv_aloadn (pc := 16) (n := 0) 0 rfl rfl (fm_dec dtX11_hoursFor 8 rfl) ?_
    refine pv_getR (k := 0) (j := 14) (ci := 11) (pc := 17) 17 rfl (by decide) pfl_X11_31 (by decide) rfl (by decide) (fm_dec dtX11_hoursFor 9 rfl) ?_
    refine pv_iloadn (pc := 20) (n := 2) 2 rfl rfl (fm_dec dtX11_hoursFor 10 rfl) ?_
    refine pv_aald (k := 17) (n := 8) (r := (35 + k)) (pc := 21) (by decide) (Or.inr (Or.inr rfl)) rfl (rw_life.inb hi hk) (rw_life.at hi hk) (rw_life.2.2.2 _ hk).2.1 (fm_dec dtX11_hoursFor 11 rfl) ?_
    refine pv_iconst (pc := 22) (v := 3) (by decide) (fm_dec dtX11_hoursFor 12 rfl) ?_
    refine pv_iald (k := (35 + k)) (n := 6) (pc := 23) (rw_life.2.2.2 _ hk).2.2.1 (rw_life.2.2.2 _ hk).2.2.2.1 (rw_life.2.2.2 _ hk).2.2.2.2 (fm_inl (by decide)) (fm_dec dtX11_hoursFor 13 rfl) ?_
    exact pv_ireturn (pc := 24) rfl (fm_dec dtX11_hoursFor 14 rfl) (by have h9 := hq; unfold hrV at h9; rw [if_pos h2] at h9; exact h9)
