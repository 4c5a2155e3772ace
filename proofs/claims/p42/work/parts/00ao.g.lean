-- P 12u
section
-- THE REFERENCE WORKS
/-- the hours that a piece takes now -/
def hrV (M : fmM) (k : Nat) : Int32 := if M.1 7 (1 + k) = -1000 then M.1 (35 + k) 3 else pvMx true 1 (M.1 (35 + k) 3 / M.1 4 5)
theorem told5 {M : fmM} (hI : scInv Tm invM M) : ¬ M.1 4 5 = 0 := by
  intro e
  have h1 : 1 ≤ (M.1 4 5).toInt := (hI.1 4 5 (by decide)).1
  rw [e] at h1
  exact absurd h1 (by decide)
theorem pvMx_1 (x : Int32) : 1 ≤ (pvMx true 1 x).toInt := by
  have e1 : (1 : Int32).toInt = 1 := by decide
  show 1 ≤ (if (1 : Int32).toInt ≤ x.toInt then x else 1).toInt
  split <;> omega
theorem hrV_0 {M : fmM} {k : Nat} (hI : scInv Tm invM M) (hk : k < 8) : 0 ≤ (hrV M k).toInt := by
  unfold hrV
  split
  · have h := (hI.1 (35 + k) 3 (by rw [(rw_life.2.2.2 k hk).2.2.2.2]; decide)).1
    rcases (show k = 0 ∨ k = 1 ∨ k = 2 ∨ k = 3 ∨ k = 4 ∨ k = 5 ∨ k = 6 ∨ k = 7 by omega) with rfl | rfl | rfl | rfl | rfl | rfl | rfl | rfl <;> exact h
  · have := pvMx_1 (M.1 (35 + k) 3 / M.1 4 5)
    omega
def wrM (M : fmM) (k : Nat) : fmM := fmI (fmI M 7 9 (M.1 7 9 - hrV M k)) 7 (1 + k) (M.1 7 10)
theorem inv_writes {M : fmM} {k : Nat} (hI : scInv Tm invM M) (hk : k < 8) (hle : hrV M k ≤ M.1 7 9) : scInv Tm invM (wrM M k) := by
  have h0 := hrV_0 hI hk
  have h9 := hI.1 7 9 (by decide)
  have h9a : 0 ≤ (M.1 7 9).toInt := h9.1
  have h9b : (M.1 7 9).toInt ≤ 12 := h9.2
  have h10 := hI.1 7 10 (by decide)
  have h10a : 0 ≤ (M.1 7 10).toInt := h10.1
  have h10b : (M.1 7 10).toInt ≤ 200 := h10.2
  rw [sc_le] at hle
  have e : (M.1 7 9 - hrV M k).toInt = (M.1 7 9).toInt - (hrV M k).toInt := sc_sub (by omega) (by omega)
  refine scInv.put (scInv.put hI ⟨?_, ?_⟩ rfl) ⟨?_, ?_⟩ ?_
  · show (0 : Int) ≤ _
    omega
  · show _ ≤ (12 : Int)
    omega
  · rw [inv_7 k hk]
    show (-1000 : Int) ≤ _
    omega
  · rw [inv_7 k hk]
    show _ ≤ (200 : Int)
    omega
  · rcases (show k = 0 ∨ k = 1 ∨ k = 2 ∨ k = 3 ∨ k = 4 ∨ k = 5 ∨ k = 6 ∨ k = 7 by omega) with rfl | rfl | rfl | rfl | rfl | rfl | rfl | rfl <;> rfl
abbrev dsW : List (Nat × Nat × Nat) := [(5, 0, 160), (6, 0, 5), (7, 0, 14)]
abbrev gsW : List (Nat × Nat × Nat) := [(0, 33, 1), (0, 36, 2), (5, 0, 160), (6, 0, 5), (7, 0, 14)]
theorem fr_writes {M : fmM} {k : Nat} (hk : k < 8) : scFr dsW M (wrM M k) := by
  refine scFr.toI (scFr.toI scFr.rfl rfl) ?_
  rcases (show k = 0 ∨ k = 1 ∨ k = 2 ∨ k = 3 ∨ k = 4 ∨ k = 5 ∨ k = 6 ∨ k = 7 by omega) with rfl | rfl | rfl | rfl | rfl | rfl | rfl | rfl <;> rfl
theorem s_dies7 {M : fmM} {Q : fmR → fmM → Prop} {i : Int32} {k : Nat} (hi : i.toInt = k) (hk : k < 8) (hI : scInv Tm invM M) (hq : ∀ M' : fmM, scInv Tm invM M' → scFr dsW M M' → Q (.inl none) M') : pvGood Tm 8 qX11_dies [.ref 0, .ref 7, .int i] M Q := (hh_X11_dies_1 M [(k : Int)] [.ref 0, .ref 7, .int i] (sc_sg hi ⟨by omega, by omega⟩) ⟨⟨0, by simp, rfl⟩, ⟨7, by simp, rfl⟩, ⟨i, rfl, ⟨(k : Int), rfl, hi.trans (Int.add_zero _).symm⟩⟩, trivial⟩ (fun f hf => by cases hf) hI).imp (fun r M' h => by
  obtain ⟨rfl, h1, h2⟩ := sc_o0 h
  exact hq M' h1 (scFr.trans scFr.rfl h2 (by decide)))
theorem s_week7 {M : fmM} {Q : fmR → fmM → Prop} (hI : scInv Tm invM M) (hq : ∀ (n : Int32) (M' : fmM), (n = 0 ∨ n = 1) → scInv Tm invM M' → scFr dsW M M' → Q (.inl (some (.int n))) M') : pvGood Tm 0 qX11_weekEnds [.ref 0, .ref 7] M Q := (hh_X11_weekEnds_1 M [] [.ref 0, .ref 7] ⟨rfl, fun n e x he hx => by cases he⟩ ⟨⟨0, by simp, rfl⟩, ⟨7, by simp, rfl⟩, trivial⟩ (fun f hf => by cases hf) hI).imp (fun r M' h => by
  obtain ⟨⟨n, rfl, a, b⟩, h1, h2⟩ := sc_o1 h
  exact hq n M' (scq_01 ⟨a, b⟩) h1 (scFr.trans scFr.rfl h2 (by decide)))
set_option maxRecDepth 20000 in
theorem c_renew {M : fmM} {Q : fmR → fmM → Prop} {i : Int32} {k : Nat} (hi : i.toInt = k) (hk : k < 8) (h5 : ¬ M.1 4 5 = 0) (hq : Q (.inl (some (.int (pvMx true 1 (M.1 (35 + k) 3 / M.1 4 5))))) M) : pvGood Tm 1 qX11_renewHours [.ref 0, .int i] M Q := by
  refine pvGood_of (Nat.le_of_ble_eq_true rfl) ?_
  show pvEv Tm 1 qX11_renewHours 0 [some (.ref 0), some (.int i)] [] M Q
  refine pv_iconst (pc := 0) (v := 1) (by decide) (fm_dec dtX11_renewHours 0 rfl) ?_
  refine pv_aloadn (pc := 1) (n := 0) 0 rfl rfl (fm_dec dtX11_renewHours 1 rfl) ?_
  refine pv_getR (k := 0) (j := 14) (ci := 11) (pc := 2) 17 rfl (by decide) pfl_X11_31 (by decide) rfl (by decide) (fm_dec dtX11_renewHours 2 rfl) ?_
  refine pv_iloadn (pc := 5) (n := 1) 1 rfl rfl (fm_dec dtX11_renewHours 3 rfl) ?_
  refine pv_aald (k := 17) (n := 8) (r := (35 + k)) (pc := 6) (by decide) (Or.inr (Or.inr rfl)) rfl (rw_life.inb hi hk) (rw_life.at hi hk) (rw_life.2.2.2 _ hk).2.1 (fm_dec dtX11_renewHours 4 rfl) ?_
  refine pv_iconst (pc := 7) (v := 3) (by decide) (fm_dec dtX11_renewHours 5 rfl) ?_
  refine pv_iald (k := (35 + k)) (n := 6) (pc := 8) (rw_life.2.2.2 _ hk).2.2.1 (rw_life.2.2.2 _ hk).2.2.2.1 (rw_life.2.2.2 _ hk).2.2.2.2 (fm_inl (by decide)) (fm_dec dtX11_renewHours 6 rfl) ?_
  refine pv_aloadn (pc := 9) (n := 0) 0 rfl rfl (fm_dec dtX11_renewHours 7 rfl) ?_
  refine pv_getR (k := 0) (j := 12) (ci := 11) (pc := 10) 4 rfl (by decide) pfl_X11_23 (by decide) rfl (by decide) (fm_dec dtX11_renewHours 8 rfl) ?_
  refine pv_iconst (pc := 13) (v := 5) (by decide) (fm_dec dtX11_renewHours 9 rfl) ?_
  refine pv_iald (k := 4) (n := 6) (pc := 14) (by decide) rfl rfl (fm_inl (by decide)) (fm_dec dtX11_renewHours 10 rfl) ?_
  refine pv_idiv (pc := 15) h5 (fm_dec dtX11_renewHours 11 rfl) ?_
  refine pv_mm (pc := 16) pmm_X11_240 (by decide) (Nat.le_of_ble_eq_true rfl) (fm_dec dtX11_renewHours 12 rfl) ?_
  exact pv_ireturn (pc := 19) rfl (fm_dec dtX11_renewHours 13 rfl) hq
set_option maxRecDepth 20000 in
theorem c_hours7 {M : fmM} {Q : fmR → fmM → Prop} {i : Int32} {k : Nat} (hi : i.toInt = k) (hk : k < 8) (h5 : ¬ M.1 4 5 = 0) (hq : Q (.inl (some (.int (hrV M k)))) M) : pvGood Tm 2 qX11_hoursFor [.ref 0, .ref 7, .int i] M Q := by
  refine pvGood_of (Nat.le_of_ble_eq_true rfl) ?_
  show pvEv Tm 2 qX11_hoursFor 0 [some (.ref 0), some (.ref 7), some (.int i)] [] M Q
  refine pv_aloadn (pc := 0) (n := 1) 1 rfl rfl (fm_dec dtX11_hoursFor 0 rfl) ?_
  refine pv_iloadn (pc := 1) (n := 2) 2 rfl rfl (fm_dec dtX11_hoursFor 1 rfl) ?_
  refine pv_iS2 (d' := 0) (pc := 2) pcs_X11_283 (Nat.le_of_ble_eq_true rfl) (by decide) (fm_dec dtX11_hoursFor 2 rfl) ?_
  refine c_hasPiece7 hi hk (fun h2 => ?_) (fun h2 => ?_)
  · refine pv_then1 ?_
    refine pv_if_eq (pc := 5) 16 (by decide) (fm_dec dtX11_hoursFor 3 rfl) (fun hc5 => by exfalso; revert hc5; decide) (fun _ => ?_)
    refine pv_aloadn (pc := 8) (n := 0) 0 rfl rfl (fm_dec dtX11_hoursFor 4 rfl) ?_
    refine pv_iloadn (pc := 9) (n := 2) 2 rfl rfl (fm_dec dtX11_hoursFor 5 rfl) ?_
    refine pv_invV1 (k := 0) (d' := 1) (pc := 10) pcv_X11_287 (by decide) rfl (Nat.le_of_ble_eq_true rfl) (by decide) (fm_dec dtX11_hoursFor 6 rfl) ?_
    refine c_renew hi hk h5 ?_
    refine pv_then1 ?_
    refine pv_goto (pc := 13) 24 (by decide) (fm_dec dtX11_hoursFor 7 rfl) ?_
    exact pv_ireturn (pc := 24) rfl (fm_dec dtX11_hoursFor 14 rfl) (by have h9 := hq; unfold hrV at h9; rw [if_neg h2] at h9; exact h9)
  · refine pv_then1 ?_
    refine pv_if_eq (pc := 5) 16 (by decide) (fm_dec dtX11_hoursFor 3 rfl) (fun _ => ?_) (fun hc5 => by exfalso; revert hc5; decide)
    refine pv_aloadn (pc := 16) (n := 0) 0 rfl rfl (fm_dec dtX11_hoursFor 8 rfl) ?_
    refine pv_getR (k := 0) (j := 14) (ci := 11) (pc := 17) 17 rfl (by decide) pfl_X11_31 (by decide) rfl (by decide) (fm_dec dtX11_hoursFor 9 rfl) ?_
    refine pv_iloadn (pc := 20) (n := 2) 2 rfl rfl (fm_dec dtX11_hoursFor 10 rfl) ?_
    refine pv_aald (k := 17) (n := 8) (r := (35 + k)) (pc := 21) (by decide) (Or.inr (Or.inr rfl)) rfl (rw_life.inb hi hk) (rw_life.at hi hk) (rw_life.2.2.2 _ hk).2.1 (fm_dec dtX11_hoursFor 11 rfl) ?_
    refine pv_iconst (pc := 22) (v := 3) (by decide) (fm_dec dtX11_hoursFor 12 rfl) ?_
    refine pv_iald (k := (35 + k)) (n := 6) (pc := 23) (rw_life.2.2.2 _ hk).2.2.1 (rw_life.2.2.2 _ hk).2.2.2.1 (rw_life.2.2.2 _ hk).2.2.2.2 (fm_inl (by decide)) (fm_dec dtX11_hoursFor 13 rfl) ?_
    exact pv_ireturn (pc := 24) rfl (fm_dec dtX11_hoursFor 14 rfl) (by have h9 := hq; unfold hrV at h9; rw [if_pos h2] at h9; exact h9)
set_option maxRecDepth 20000 in
theorem c_mayWrite7 {M : fmM} {Q : fmR → fmM → Prop} {i : Int32} {k : Nat} (hi : i.toInt = k) (hk : k < 8) (ht : ¬ (M.1 7 0 >>> (i &&& 31) &&& 1) = 1 → ¬ M.1 7 (1 + k) = M.1 7 10 → Q (.inl (some (.int 1))) M) (hf : ((M.1 7 0 >>> (i &&& 31) &&& 1) = 1 ∨ M.1 7 (1 + k) = M.1 7 10) → Q (.inl (some (.int 0))) M) : pvGood Tm 1 qX11_mayWrite [.ref 0, .ref 7, .int i] M Q := by
  refine pvGood_of (Nat.le_of_ble_eq_true rfl) ?_
  show pvEv Tm 1 qX11_mayWrite 0 [some (.ref 0), some (.ref 7), some (.int i)] [] M Q
  refine pv_aloadn (pc := 0) (n := 1) 1 rfl rfl (fm_dec dtX11_mayWrite 0 rfl) ?_
  refine pv_iconst (pc := 1) (v := 0) (by decide) (fm_dec dtX11_mayWrite 1 rfl) ?_
  refine pv_iald (k := 7) (n := 14) (pc := 2) (by decide) rfl rfl (fm_inl (by decide)) (fm_dec dtX11_mayWrite 2 rfl) ?_
  refine pv_iloadn (pc := 3) (n := 2) 2 rfl rfl (fm_dec dtX11_mayWrite 3 rfl) ?_
  refine pv_iS2 (d' := 0) (pc := 4) pcs_X11_256 (Nat.le_of_ble_eq_true rfl) (by decide) (fm_dec dtX11_mayWrite 4 rfl) ?_
  refine c_has (fun h4 => ?_) (fun h4 => ?_)
  · refine pv_then1 ?_
    refine pv_if_ne (pc := 7) 26 (by decide) (fm_dec dtX11_mayWrite 5 rfl) (fun _ => ?_) (fun hc7 => by exfalso; revert hc7; decide)
    refine pv_iconst (pc := 26) (v := 0) (by decide) (fm_dec dtX11_mayWrite 17 rfl) ?_
    exact pv_zreturn (pc := 27) rfl (by first | exact Or.inr rfl | exact Or.inl rfl) (fm_dec dtX11_mayWrite 18 rfl) (hf (Or.inl h4))
  · refine pv_then1 ?_
    refine pv_if_ne (pc := 7) 26 (by decide) (fm_dec dtX11_mayWrite 5 rfl) (fun hc7 => by exfalso; revert hc7; decide) (fun _ => ?_)
    refine pv_aloadn (pc := 10) (n := 1) 1 rfl rfl (fm_dec dtX11_mayWrite 6 rfl) ?_
    refine pv_iconst (pc := 11) (v := 1) (by decide) (fm_dec dtX11_mayWrite 7 rfl) ?_
    refine pv_iloadn (pc := 12) (n := 2) 2 rfl rfl (fm_dec dtX11_mayWrite 8 rfl) ?_
    refine pv_iadd (pc := 13) (fm_dec dtX11_mayWrite 9 rfl) ?_
    refine pv_iald (k := 7) (n := 14) (pc := 14) (by decide) rfl rfl (ix_in (ix_1 hi (by omega)) (by omega)) (fm_dec dtX11_mayWrite 10 rfl) ?_
    refine pv_aloadn (pc := 15) (n := 1) 1 rfl rfl (fm_dec dtX11_mayWrite 11 rfl) ?_
    refine pv_bipush (pc := 16) (v := 10) (by decide) (fm_dec dtX11_mayWrite 12 rfl) ?_
    refine pv_iald (k := 7) (n := 14) (pc := 18) (by decide) rfl rfl (fm_inl (by decide)) (fm_dec dtX11_mayWrite 13 rfl) ?_
    refine pv_icmp_eq (pc := 19) 26 (by decide) (fm_dec dtX11_mayWrite 14 rfl) (fun hc19 => ?_) (fun hc19 => ?_)
    · refine pv_iconst (pc := 26) (v := 0) (by decide) (fm_dec dtX11_mayWrite 17 rfl) ?_
      exact pv_zreturn (pc := 27) rfl (by first | exact Or.inr rfl | exact Or.inl rfl) (fm_dec dtX11_mayWrite 18 rfl) (hf (Or.inr (by have h9 := i32_cl (ix_1 hi (by omega)); simp only [h9] at hc19; exact hc19)))
    · refine pv_iconst (pc := 22) (v := 1) (by decide) (fm_dec dtX11_mayWrite 15 rfl) ?_
      refine pv_goto (pc := 23) 27 (by decide) (fm_dec dtX11_mayWrite 16 rfl) ?_
      exact pv_zreturn (pc := 27) rfl (by first | exact Or.inr rfl | exact Or.inl rfl) (fm_dec dtX11_mayWrite 18 rfl) (ht h4 (by have h9 := i32_cl (ix_1 hi (by omega)); simp only [h9] at hc19; exact hc19))
set_option maxRecDepth 20000 in
theorem c_writes7 {M : fmM} {Q : fmR → fmM → Prop} {i : Int32} {k : Nat} (hi : i.toInt = k) (hk : k < 8) (h5 : ¬ M.1 4 5 = 0) (hq : Q (.inl none) (wrM M k)) : pvGood Tm 3 qX11_writes [.ref 0, .ref 7, .int i] M Q := by
  refine pvGood_of (Nat.le_of_ble_eq_true rfl) ?_
  show pvEv Tm 3 qX11_writes 0 [some (.ref 0), some (.ref 7), some (.int i)] [] M Q
  refine pv_aloadn (pc := 0) (n := 1) 1 rfl rfl (fm_dec dtX11_writes 0 rfl) ?_
  refine pv_bipush (pc := 1) (v := 9) (by decide) (fm_dec dtX11_writes 1 rfl) ?_
  refine pv_dup2 (pc := 3) rfl rfl (fm_dec dtX11_writes 2 rfl) ?_
  refine pv_iald (k := 7) (n := 14) (pc := 4) (by decide) rfl rfl (fm_inl (by decide)) (fm_dec dtX11_writes 3 rfl) ?_
  refine pv_aloadn (pc := 5) (n := 0) 0 rfl rfl (fm_dec dtX11_writes 4 rfl) ?_
  refine pv_aloadn (pc := 6) (n := 1) 1 rfl rfl (fm_dec dtX11_writes 5 rfl) ?_
  refine pv_iloadn (pc := 7) (n := 2) 2 rfl rfl (fm_dec dtX11_writes 6 rfl) ?_
  refine pv_invV2 (k := 0) (d' := 2) (pc := 8) pcv_X11_290 (by decide) rfl (Nat.le_of_ble_eq_true rfl) (by decide) (fm_dec dtX11_writes 7 rfl) ?_
  refine c_hours7 hi hk h5 ?_
  refine pv_then1 ?_
  refine pv_isub (pc := 11) (fm_dec dtX11_writes 8 rfl) ?_
  refine pv_iast (k := 7) (n := 14) (pc := 12) (by decide) rfl rfl (fm_inl (by decide)) (fm_dec dtX11_writes 9 rfl) ?_
  refine pv_aloadn (pc := 13) (n := 1) 1 rfl rfl (fm_dec dtX11_writes 10 rfl) ?_
  refine pv_iconst (pc := 14) (v := 1) (by decide) (fm_dec dtX11_writes 11 rfl) ?_
  refine pv_iloadn (pc := 15) (n := 2) 2 rfl rfl (fm_dec dtX11_writes 12 rfl) ?_
  refine pv_iadd (pc := 16) (fm_dec dtX11_writes 13 rfl) ?_
  refine pv_aloadn (pc := 17) (n := 1) 1 rfl rfl (fm_dec dtX11_writes 14 rfl) ?_
  refine pv_bipush (pc := 18) (v := 10) (by decide) (fm_dec dtX11_writes 15 rfl) ?_
  refine pv_iald (k := 7) (n := 14) (pc := 20) (by decide) rfl rfl (fm_inl (by decide)) (fm_dec dtX11_writes 16 rfl) ?_
  refine pv_iast (k := 7) (n := 14) (pc := 21) (by decide) rfl rfl (ix_in (ix_1 hi (by omega)) (by omega)) (fm_dec dtX11_writes 17 rfl) ?_
  exact pv_return (pc := 22) rfl (fm_dec dtX11_writes 18 rfl) (by rw [i32_cl (ix_1 hi (by omega))]; exact hq)
set_option maxRecDepth 20000 in
theorem s_does0 {M : fmM} {Q : fmR → fmM → Prop} {b k : Nat} (hb80 : b < 80) (h0 : M.1 (423 + b) 0 = 0) (hi : (M.1 (423 + b) 1).toInt = k) (hk : k < 8) (hI : scInv Tm invM M) (hq : ∀ (n : Int32) (M' : fmM), (n = 0 ∨ n = 1) → scInv Tm invM M' → scFr dsW M M' → Q (.inl (some (.int n))) M') : pvGood Tm 9 qX11_does [.ref 0, .ref 7, .ref (423 + b)] M Q := by
  refine pvGood_of (Nat.le_of_ble_eq_true rfl) ?_
  show pvEv Tm 9 qX11_does 0 [some (.ref 0), some (.ref 7), some (.ref (423 + b)), none] [] M Q
  refine pv_aloadn (pc := 0) (n := 2) 2 rfl rfl (fm_dec dtX11_does 0 rfl) ?_
  refine pv_iconst (pc := 1) (v := 1) (by decide) (fm_dec dtX11_does 1 rfl) ?_
  refine pv_iald (k := (423 + b)) (n := 3) (pc := 2) (rw_step.2.2.2 _ hb80).2.2.1 (rw_step.2.2.2 _ hb80).2.2.2.1 (rw_step.2.2.2 _ hb80).2.2.2.2 (fm_inl (by decide)) (fm_dec dtX11_does 2 rfl) ?_
  refine pv_istoren (pc := 3) (n := 3) 3 rfl (by decide) rfl (fm_dec dtX11_does 3 rfl) ?_
  dsimp only [List.set_cons_zero, List.set_cons_succ]
  refine pv_aloadn (pc := 4) (n := 2) 2 rfl rfl (fm_dec dtX11_does 4 rfl) ?_
  refine pv_iconst (pc := 5) (v := 0) (by decide) (fm_dec dtX11_does 5 rfl) ?_
  refine pv_iald (k := (423 + b)) (n := 3) (pc := 6) (rw_step.2.2.2 _ hb80).2.2.1 (rw_step.2.2.2 _ hb80).2.2.2.1 (rw_step.2.2.2 _ hb80).2.2.2.2 (fm_inl (by decide)) (fm_dec dtX11_does 6 rfl) ?_
  refine pv_table (pc := 7) 32 (by decide) (by have h9 : M.1 (423 + b) (Int32.toNatClampNeg 0) = 0 := h0; rw [h9]; decide) (fm_dec dtX11_does 7 rfl) ?_
  refine pv_aloadn (pc := 32) (n := 0) 0 rfl rfl (fm_dec dtX11_does 8 rfl) ?_
  refine pv_aloadn (pc := 33) (n := 1) 1 rfl rfl (fm_dec dtX11_does 9 rfl) ?_
  refine pv_iloadn (pc := 34) (n := 3) 3 rfl rfl (fm_dec dtX11_does 10 rfl) ?_
  refine pv_invV2 (k := 0) (d' := 1) (pc := 35) pcv_X11_296 (by decide) rfl (Nat.le_of_ble_eq_true rfl) (by decide) (fm_dec dtX11_does 11 rfl) ?_
  refine c_mayWrite7 hi hk (fun _ _ => ?_) (fun _ => ?_)
  · refine pv_then1 ?_
    refine pv_if_eq (pc := 38) 74 (by decide) (fm_dec dtX11_does 12 rfl) (fun hc38 => by exfalso; revert hc38; decide) (fun _ => ?_)
    refine pv_aloadn (pc := 41) (n := 1) 1 rfl rfl (fm_dec dtX11_does 13 rfl) ?_
    refine pv_iloadn (pc := 42) (n := 3) 3 rfl rfl (fm_dec dtX11_does 14 rfl) ?_
    refine pv_iS2 (d' := 0) (pc := 43) pcs_X11_283 (Nat.le_of_ble_eq_true rfl) (by decide) (fm_dec dtX11_does 15 rfl) ?_
    refine c_hasPiece7 hi hk (fun _ => ?_) (fun _ => ?_)
    · refine pv_then1 ?_
      refine pv_aloadn (pc := 46) (n := 2) 2 rfl rfl (fm_dec dtX11_does 16 rfl) ?_
      refine pv_iconst (pc := 47) (v := 0) (by decide) (fm_dec dtX11_does 17 rfl) ?_
      refine pv_iald (k := (423 + b)) (n := 3) (pc := 48) (rw_step.2.2.2 _ hb80).2.2.1 (rw_step.2.2.2 _ hb80).2.2.2.1 (rw_step.2.2.2 _ hb80).2.2.2.2 (fm_inl (by decide)) (fm_dec dtX11_does 18 rfl) ?_
      refine pv_iconst (pc := 49) (v := 1) (by decide) (fm_dec dtX11_does 19 rfl) ?_
      refine pv_icmp_ne (pc := 50) 57 (by decide) (fm_dec dtX11_does 20 rfl) (fun _ => ?_) (fun hc50 => by exfalso; exact absurd (h0.symm.trans hc50) (by decide))
      refine pv_iconst (pc := 57) (v := 0) (by decide) (fm_dec dtX11_does 23 rfl) ?_
      refine pv_icmp_ne (pc := 58) 74 (by decide) (fm_dec dtX11_does 24 rfl) (fun _ => ?_) (fun hc58 => by exfalso; revert hc58; decide)
      refine pv_iconst (pc := 74) (v := 0) (by decide) (fm_dec dtX11_does 33 rfl) ?_
      exact pv_zreturn (pc := 75) rfl (by first | exact Or.inr rfl | exact Or.inl rfl) (fm_dec dtX11_does 34 rfl) (hq 0 M (Or.inl rfl) hI scFr.rfl)
    · refine pv_then1 ?_
      refine pv_aloadn (pc := 46) (n := 2) 2 rfl rfl (fm_dec dtX11_does 16 rfl) ?_
      refine pv_iconst (pc := 47) (v := 0) (by decide) (fm_dec dtX11_does 17 rfl) ?_
      refine pv_iald (k := (423 + b)) (n := 3) (pc := 48) (rw_step.2.2.2 _ hb80).2.2.1 (rw_step.2.2.2 _ hb80).2.2.2.1 (rw_step.2.2.2 _ hb80).2.2.2.2 (fm_inl (by decide)) (fm_dec dtX11_does 18 rfl) ?_
      refine pv_iconst (pc := 49) (v := 1) (by decide) (fm_dec dtX11_does 19 rfl) ?_
      refine pv_icmp_ne (pc := 50) 57 (by decide) (fm_dec dtX11_does 20 rfl) (fun _ => ?_) (fun hc50 => by exfalso; exact absurd (h0.symm.trans hc50) (by decide))
      refine pv_iconst (pc := 57) (v := 0) (by decide) (fm_dec dtX11_does 23 rfl) ?_
      refine pv_icmp_ne (pc := 58) 74 (by decide) (fm_dec dtX11_does 24 rfl) (fun hc58 => by exfalso; revert hc58; decide) (fun _ => ?_)
      refine pv_aloadn (pc := 61) (n := 0) 0 rfl rfl (fm_dec dtX11_does 25 rfl) ?_
      refine pv_aloadn (pc := 62) (n := 1) 1 rfl rfl (fm_dec dtX11_does 26 rfl) ?_
      refine pv_iloadn (pc := 63) (n := 3) 3 rfl rfl (fm_dec dtX11_does 27 rfl) ?_
      refine pv_invV2 (k := 0) (d' := 2) (pc := 64) pcv_X11_290 (by decide) rfl (Nat.le_of_ble_eq_true rfl) (by decide) (fm_dec dtX11_does 28 rfl) ?_
      refine c_hours7 hi hk (told5 hI) ?_
      refine pv_then1 ?_
      refine pv_aloadn (pc := 67) (n := 1) 1 rfl rfl (fm_dec dtX11_does 29 rfl) ?_
      refine pv_bipush (pc := 68) (v := 9) (by decide) (fm_dec dtX11_does 30 rfl) ?_
      refine pv_iald (k := 7) (n := 14) (pc := 70) (by decide) rfl rfl (fm_inl (by decide)) (fm_dec dtX11_does 31 rfl) ?_
      refine pv_icmp_le (pc := 71) 76 (by decide) (fm_dec dtX11_does 32 rfl) (fun hc71 => ?_) (fun hc71 => ?_)
      · refine pv_aloadn (pc := 76) (n := 0) 0 rfl rfl (fm_dec dtX11_does 35 rfl) ?_
        refine pv_aloadn (pc := 77) (n := 1) 1 rfl rfl (fm_dec dtX11_does 36 rfl) ?_
        refine pv_iloadn (pc := 78) (n := 3) 3 rfl rfl (fm_dec dtX11_does 37 rfl) ?_
        refine pv_invV2 (k := 0) (d' := 3) (pc := 79) pcv_X11_299 (by decide) rfl (Nat.le_of_ble_eq_true rfl) (by decide) (fm_dec dtX11_does 38 rfl) ?_
        refine c_writes7 hi hk (told5 hI) ?_
        refine pv_then0 ?_
        refine pv_iconst (pc := 82) (v := 1) (by decide) (fm_dec dtX11_does 39 rfl) ?_
        exact pv_zreturn (pc := 83) rfl (by first | exact Or.inr rfl | exact Or.inl rfl) (fm_dec dtX11_does 40 rfl) (hq 1 _ (Or.inr rfl) (inv_writes hI hk hc71) (fr_writes hk))
      · refine pv_iconst (pc := 74) (v := 0) (by decide) (fm_dec dtX11_does 33 rfl) ?_
        exact pv_zreturn (pc := 75) rfl (by first | exact Or.inr rfl | exact Or.inl rfl) (fm_dec dtX11_does 34 rfl) (hq 0 M (Or.inl rfl) hI scFr.rfl)
  · refine pv_then1 ?_
    refine pv_if_eq (pc := 38) 74 (by decide) (fm_dec dtX11_does 12 rfl) (fun _ => ?_) (fun hc38 => by exfalso; revert hc38; decide)
    refine pv_iconst (pc := 74) (v := 0) (by decide) (fm_dec dtX11_does 33 rfl) ?_
    exact pv_zreturn (pc := 75) rfl (by first | exact Or.inr rfl | exact Or.inl rfl) (fm_dec dtX11_does 34 rfl) (hq 0 M (Or.inl rfl) hI scFr.rfl)
set_option maxRecDepth 20000 in
theorem s_does1 {M : fmM} {Q : fmR → fmM → Prop} {b k : Nat} (hb80 : b < 80) (h0 : M.1 (423 + b) 0 = 1) (hi : (M.1 (423 + b) 1).toInt = k) (hk : k < 8) (hI : scInv Tm invM M) (hq : ∀ (n : Int32) (M' : fmM), (n = 0 ∨ n = 1) → scInv Tm invM M' → scFr dsW M M' → Q (.inl (some (.int n))) M') : pvGood Tm 9 qX11_does [.ref 0, .ref 7, .ref (423 + b)] M Q := by
  refine pvGood_of (Nat.le_of_ble_eq_true rfl) ?_
  show pvEv Tm 9 qX11_does 0 [some (.ref 0), some (.ref 7), some (.ref (423 + b)), none] [] M Q
  refine pv_aloadn (pc := 0) (n := 2) 2 rfl rfl (fm_dec dtX11_does 0 rfl) ?_
  refine pv_iconst (pc := 1) (v := 1) (by decide) (fm_dec dtX11_does 1 rfl) ?_
  refine pv_iald (k := (423 + b)) (n := 3) (pc := 2) (rw_step.2.2.2 _ hb80).2.2.1 (rw_step.2.2.2 _ hb80).2.2.2.1 (rw_step.2.2.2 _ hb80).2.2.2.2 (fm_inl (by decide)) (fm_dec dtX11_does 2 rfl) ?_
  refine pv_istoren (pc := 3) (n := 3) 3 rfl (by decide) rfl (fm_dec dtX11_does 3 rfl) ?_
  dsimp only [List.set_cons_zero, List.set_cons_succ]
  refine pv_aloadn (pc := 4) (n := 2) 2 rfl rfl (fm_dec dtX11_does 4 rfl) ?_
  refine pv_iconst (pc := 5) (v := 0) (by decide) (fm_dec dtX11_does 5 rfl) ?_
  refine pv_iald (k := (423 + b)) (n := 3) (pc := 6) (rw_step.2.2.2 _ hb80).2.2.1 (rw_step.2.2.2 _ hb80).2.2.2.1 (rw_step.2.2.2 _ hb80).2.2.2.2 (fm_inl (by decide)) (fm_dec dtX11_does 6 rfl) ?_
  refine pv_table (pc := 7) 32 (by decide) (by have h9 : M.1 (423 + b) (Int32.toNatClampNeg 0) = 1 := h0; rw [h9]; decide) (fm_dec dtX11_does 7 rfl) ?_
  refine pv_aloadn (pc := 32) (n := 0) 0 rfl rfl (fm_dec dtX11_does 8 rfl) ?_
  refine pv_aloadn (pc := 33) (n := 1) 1 rfl rfl (fm_dec dtX11_does 9 rfl) ?_
  refine pv_iloadn (pc := 34) (n := 3) 3 rfl rfl (fm_dec dtX11_does 10 rfl) ?_
  refine pv_invV2 (k := 0) (d' := 1) (pc := 35) pcv_X11_296 (by decide) rfl (Nat.le_of_ble_eq_true rfl) (by decide) (fm_dec dtX11_does 11 rfl) ?_
  refine c_mayWrite7 hi hk (fun _ _ => ?_) (fun _ => ?_)
  · refine pv_then1 ?_
    refine pv_if_eq (pc := 38) 74 (by decide) (fm_dec dtX11_does 12 rfl) (fun hc38 => by exfalso; revert hc38; decide) (fun _ => ?_)
    refine pv_aloadn (pc := 41) (n := 1) 1 rfl rfl (fm_dec dtX11_does 13 rfl) ?_
    refine pv_iloadn (pc := 42) (n := 3) 3 rfl rfl (fm_dec dtX11_does 14 rfl) ?_
    refine pv_iS2 (d' := 0) (pc := 43) pcs_X11_283 (Nat.le_of_ble_eq_true rfl) (by decide) (fm_dec dtX11_does 15 rfl) ?_
    refine c_hasPiece7 hi hk (fun _ => ?_) (fun _ => ?_)
    · refine pv_then1 ?_
      refine pv_aloadn (pc := 46) (n := 2) 2 rfl rfl (fm_dec dtX11_does 16 rfl) ?_
      refine pv_iconst (pc := 47) (v := 0) (by decide) (fm_dec dtX11_does 17 rfl) ?_
      refine pv_iald (k := (423 + b)) (n := 3) (pc := 48) (rw_step.2.2.2 _ hb80).2.2.1 (rw_step.2.2.2 _ hb80).2.2.2.1 (rw_step.2.2.2 _ hb80).2.2.2.2 (fm_inl (by decide)) (fm_dec dtX11_does 18 rfl) ?_
      refine pv_iconst (pc := 49) (v := 1) (by decide) (fm_dec dtX11_does 19 rfl) ?_
      refine pv_icmp_ne (pc := 50) 57 (by decide) (fm_dec dtX11_does 20 rfl) (fun hc50 => by exfalso; exact hc50 h0) (fun _ => ?_)
      refine pv_iconst (pc := 53) (v := 1) (by decide) (fm_dec dtX11_does 21 rfl) ?_
      refine pv_goto (pc := 54) 58 (by decide) (fm_dec dtX11_does 22 rfl) ?_
      refine pv_icmp_ne (pc := 58) 74 (by decide) (fm_dec dtX11_does 24 rfl) (fun hc58 => by exfalso; revert hc58; decide) (fun _ => ?_)
      refine pv_aloadn (pc := 61) (n := 0) 0 rfl rfl (fm_dec dtX11_does 25 rfl) ?_
      refine pv_aloadn (pc := 62) (n := 1) 1 rfl rfl (fm_dec dtX11_does 26 rfl) ?_
      refine pv_iloadn (pc := 63) (n := 3) 3 rfl rfl (fm_dec dtX11_does 27 rfl) ?_
      refine pv_invV2 (k := 0) (d' := 2) (pc := 64) pcv_X11_290 (by decide) rfl (Nat.le_of_ble_eq_true rfl) (by decide) (fm_dec dtX11_does 28 rfl) ?_
      refine c_hours7 hi hk (told5 hI) ?_
      refine pv_then1 ?_
      refine pv_aloadn (pc := 67) (n := 1) 1 rfl rfl (fm_dec dtX11_does 29 rfl) ?_
      refine pv_bipush (pc := 68) (v := 9) (by decide) (fm_dec dtX11_does 30 rfl) ?_
      refine pv_iald (k := 7) (n := 14) (pc := 70) (by decide) rfl rfl (fm_inl (by decide)) (fm_dec dtX11_does 31 rfl) ?_
      refine pv_icmp_le (pc := 71) 76 (by decide) (fm_dec dtX11_does 32 rfl) (fun hc71 => ?_) (fun hc71 => ?_)
      · refine pv_aloadn (pc := 76) (n := 0) 0 rfl rfl (fm_dec dtX11_does 35 rfl) ?_
        refine pv_aloadn (pc := 77) (n := 1) 1 rfl rfl (fm_dec dtX11_does 36 rfl) ?_
        refine pv_iloadn (pc := 78) (n := 3) 3 rfl rfl (fm_dec dtX11_does 37 rfl) ?_
        refine pv_invV2 (k := 0) (d' := 3) (pc := 79) pcv_X11_299 (by decide) rfl (Nat.le_of_ble_eq_true rfl) (by decide) (fm_dec dtX11_does 38 rfl) ?_
        refine c_writes7 hi hk (told5 hI) ?_
        refine pv_then0 ?_
        refine pv_iconst (pc := 82) (v := 1) (by decide) (fm_dec dtX11_does 39 rfl) ?_
        exact pv_zreturn (pc := 83) rfl (by first | exact Or.inr rfl | exact Or.inl rfl) (fm_dec dtX11_does 40 rfl) (hq 1 _ (Or.inr rfl) (inv_writes hI hk hc71) (fr_writes hk))
      · refine pv_iconst (pc := 74) (v := 0) (by decide) (fm_dec dtX11_does 33 rfl) ?_
        exact pv_zreturn (pc := 75) rfl (by first | exact Or.inr rfl | exact Or.inl rfl) (fm_dec dtX11_does 34 rfl) (hq 0 M (Or.inl rfl) hI scFr.rfl)
    · refine pv_then1 ?_
      refine pv_aloadn (pc := 46) (n := 2) 2 rfl rfl (fm_dec dtX11_does 16 rfl) ?_
      refine pv_iconst (pc := 47) (v := 0) (by decide) (fm_dec dtX11_does 17 rfl) ?_
      refine pv_iald (k := (423 + b)) (n := 3) (pc := 48) (rw_step.2.2.2 _ hb80).2.2.1 (rw_step.2.2.2 _ hb80).2.2.2.1 (rw_step.2.2.2 _ hb80).2.2.2.2 (fm_inl (by decide)) (fm_dec dtX11_does 18 rfl) ?_
      refine pv_iconst (pc := 49) (v := 1) (by decide) (fm_dec dtX11_does 19 rfl) ?_
      refine pv_icmp_ne (pc := 50) 57 (by decide) (fm_dec dtX11_does 20 rfl) (fun hc50 => by exfalso; exact hc50 h0) (fun _ => ?_)
      refine pv_iconst (pc := 53) (v := 1) (by decide) (fm_dec dtX11_does 21 rfl) ?_
      refine pv_goto (pc := 54) 58 (by decide) (fm_dec dtX11_does 22 rfl) ?_
      refine pv_icmp_ne (pc := 58) 74 (by decide) (fm_dec dtX11_does 24 rfl) (fun _ => ?_) (fun hc58 => by exfalso; revert hc58; decide)
      refine pv_iconst (pc := 74) (v := 0) (by decide) (fm_dec dtX11_does 33 rfl) ?_
      exact pv_zreturn (pc := 75) rfl (by first | exact Or.inr rfl | exact Or.inl rfl) (fm_dec dtX11_does 34 rfl) (hq 0 M (Or.inl rfl) hI scFr.rfl)
  · refine pv_then1 ?_
    refine pv_if_eq (pc := 38) 74 (by decide) (fm_dec dtX11_does 12 rfl) (fun _ => ?_) (fun hc38 => by exfalso; revert hc38; decide)
    refine pv_iconst (pc := 74) (v := 0) (by decide) (fm_dec dtX11_does 33 rfl) ?_
    exact pv_zreturn (pc := 75) rfl (by first | exact Or.inr rfl | exact Or.inl rfl) (fm_dec dtX11_does 34 rfl) (hq 0 M (Or.inl rfl) hI scFr.rfl)
set_option maxRecDepth 20000 in
theorem s_does2 {M : fmM} {Q : fmR → fmM → Prop} {b k : Nat} (hb80 : b < 80) (h0 : M.1 (423 + b) 0 = 2) (hi : (M.1 (423 + b) 1).toInt = k) (hk : k < 8) (hI : scInv Tm invM M) (hq : ∀ (n : Int32) (M' : fmM), (n = 0 ∨ n = 1) → scInv Tm invM M' → scFr dsW M M' → Q (.inl (some (.int n))) M') : pvGood Tm 9 qX11_does [.ref 0, .ref 7, .ref (423 + b)] M Q := by
  refine pvGood_of (Nat.le_of_ble_eq_true rfl) ?_
  show pvEv Tm 9 qX11_does 0 [some (.ref 0), some (.ref 7), some (.ref (423 + b)), none] [] M Q
  refine pv_aloadn (pc := 0) (n := 2) 2 rfl rfl (fm_dec dtX11_does 0 rfl) ?_
  refine pv_iconst (pc := 1) (v := 1) (by decide) (fm_dec dtX11_does 1 rfl) ?_
  refine pv_iald (k := (423 + b)) (n := 3) (pc := 2) (rw_step.2.2.2 _ hb80).2.2.1 (rw_step.2.2.2 _ hb80).2.2.2.1 (rw_step.2.2.2 _ hb80).2.2.2.2 (fm_inl (by decide)) (fm_dec dtX11_does 2 rfl) ?_
  refine pv_istoren (pc := 3) (n := 3) 3 rfl (by decide) rfl (fm_dec dtX11_does 3 rfl) ?_
  dsimp only [List.set_cons_zero, List.set_cons_succ]
  refine pv_aloadn (pc := 4) (n := 2) 2 rfl rfl (fm_dec dtX11_does 4 rfl) ?_
  refine pv_iconst (pc := 5) (v := 0) (by decide) (fm_dec dtX11_does 5 rfl) ?_
  refine pv_iald (k := (423 + b)) (n := 3) (pc := 6) (rw_step.2.2.2 _ hb80).2.2.1 (rw_step.2.2.2 _ hb80).2.2.2.1 (rw_step.2.2.2 _ hb80).2.2.2.2 (fm_inl (by decide)) (fm_dec dtX11_does 6 rfl) ?_
  refine pv_table (pc := 7) 84 (by decide) (by have h9 : M.1 (423 + b) (Int32.toNatClampNeg 0) = 2 := h0; rw [h9]; decide) (fm_dec dtX11_does 7 rfl) ?_
  refine pv_aloadn (pc := 84) (n := 1) 1 rfl rfl (fm_dec dtX11_does 41 rfl) ?_
  refine pv_iconst (pc := 85) (v := 0) (by decide) (fm_dec dtX11_does 42 rfl) ?_
  refine pv_iald (k := 7) (n := 14) (pc := 86) (by decide) rfl rfl (fm_inl (by decide)) (fm_dec dtX11_does 43 rfl) ?_
  refine pv_iloadn (pc := 87) (n := 3) 3 rfl rfl (fm_dec dtX11_does 44 rfl) ?_
  refine pv_iS2 (d' := 0) (pc := 88) pcs_X11_256 (Nat.le_of_ble_eq_true rfl) (by decide) (fm_dec dtX11_does 45 rfl) ?_
  refine c_has (fun _ => ?_) (fun _ => ?_)
  · refine pv_then1 ?_
    refine pv_if_eq (pc := 91) 96 (by decide) (fm_dec dtX11_does 46 rfl) (fun hc91 => by exfalso; revert hc91; decide) (fun _ => ?_)
    refine pv_iconst (pc := 94) (v := 0) (by decide) (fm_dec dtX11_does 47 rfl) ?_
    exact pv_zreturn (pc := 95) rfl (by first | exact Or.inr rfl | exact Or.inl rfl) (fm_dec dtX11_does 48 rfl) (hq 0 M (Or.inl rfl) hI scFr.rfl)
  · refine pv_then1 ?_
    refine pv_if_eq (pc := 91) 96 (by decide) (fm_dec dtX11_does 46 rfl) (fun _ => ?_) (fun hc91 => by exfalso; revert hc91; decide)
    refine pv_aloadn (pc := 96) (n := 0) 0 rfl rfl (fm_dec dtX11_does 49 rfl) ?_
    refine pv_aloadn (pc := 97) (n := 1) 1 rfl rfl (fm_dec dtX11_does 50 rfl) ?_
    refine pv_iloadn (pc := 98) (n := 3) 3 rfl rfl (fm_dec dtX11_does 51 rfl) ?_
    refine pv_invV2 (k := 0) (d' := 8) (pc := 99) pcv_X11_303 (by decide) rfl (Nat.le_of_ble_eq_true rfl) (by decide) (fm_dec dtX11_does 52 rfl) ?_
    refine s_dies7 hi hk hI (fun M99 hI99 f99 => ?_)
    refine pv_then0 ?_
    refine pv_iconst (pc := 102) (v := 1) (by decide) (fm_dec dtX11_does 53 rfl) ?_
    exact pv_zreturn (pc := 103) rfl (by first | exact Or.inr rfl | exact Or.inl rfl) (fm_dec dtX11_does 54 rfl) (hq 1 M99 (Or.inr rfl) hI99 f99)
set_option maxRecDepth 20000 in
theorem s_does3 {M : fmM} {Q : fmR → fmM → Prop} {b : Nat} (hb80 : b < 80) (h0 : M.1 (423 + b) 0 = 3) (hI : scInv Tm invM M) (hq : ∀ (n : Int32) (M' : fmM), (n = 0 ∨ n = 1) → scInv Tm invM M' → scFr dsW M M' → Q (.inl (some (.int n))) M') : pvGood Tm 9 qX11_does [.ref 0, .ref 7, .ref (423 + b)] M Q := by
  refine pvGood_of (Nat.le_of_ble_eq_true rfl) ?_
  show pvEv Tm 9 qX11_does 0 [some (.ref 0), some (.ref 7), some (.ref (423 + b)), none] [] M Q
  refine pv_aloadn (pc := 0) (n := 2) 2 rfl rfl (fm_dec dtX11_does 0 rfl) ?_
  refine pv_iconst (pc := 1) (v := 1) (by decide) (fm_dec dtX11_does 1 rfl) ?_
  refine pv_iald (k := (423 + b)) (n := 3) (pc := 2) (rw_step.2.2.2 _ hb80).2.2.1 (rw_step.2.2.2 _ hb80).2.2.2.1 (rw_step.2.2.2 _ hb80).2.2.2.2 (fm_inl (by decide)) (fm_dec dtX11_does 2 rfl) ?_
  refine pv_istoren (pc := 3) (n := 3) 3 rfl (by decide) rfl (fm_dec dtX11_does 3 rfl) ?_
  dsimp only [List.set_cons_zero, List.set_cons_succ]
  refine pv_aloadn (pc := 4) (n := 2) 2 rfl rfl (fm_dec dtX11_does 4 rfl) ?_
  refine pv_iconst (pc := 5) (v := 0) (by decide) (fm_dec dtX11_does 5 rfl) ?_
  refine pv_iald (k := (423 + b)) (n := 3) (pc := 6) (rw_step.2.2.2 _ hb80).2.2.1 (rw_step.2.2.2 _ hb80).2.2.2.1 (rw_step.2.2.2 _ hb80).2.2.2.2 (fm_inl (by decide)) (fm_dec dtX11_does 6 rfl) ?_
  refine pv_table (pc := 7) 104 (by decide) (by have h9 : M.1 (423 + b) (Int32.toNatClampNeg 0) = 3 := h0; rw [h9]; decide) (fm_dec dtX11_does 7 rfl) ?_
  refine pv_aloadn (pc := 104) (n := 0) 0 rfl rfl (fm_dec dtX11_does 55 rfl) ?_
  refine pv_aloadn (pc := 105) (n := 1) 1 rfl rfl (fm_dec dtX11_does 56 rfl) ?_
  refine pv_invV1 (k := 0) (d' := 0) (pc := 106) pcv_X11_306 (by decide) rfl (Nat.le_of_ble_eq_true rfl) (by decide) (fm_dec dtX11_does 57 rfl) ?_
  refine s_week7 hI (fun n106 M106 z106 hI106 f106 => ?_)
  refine pv_then1 ?_
  exact pv_zreturn (pc := 109) rfl z106 (fm_dec dtX11_does 58 rfl) (hq n106 M106 z106 hI106 f106)
theorem s_does {M : fmM} {Q : fmR → fmM → Prop} {b kd v l : Nat} (hb : b < 80) (h0 : (M.1 (423 + b) 0).toInt = kd) (hkd : kd ≤ 3) (h1 : kd < 3 → (M.1 (423 + b) 1).toInt = v ∧ v < l) (hl : l ≤ 8) (hI : scInv Tm invM M) (hq : ∀ (n : Int32) (M' : fmM), (n = 0 ∨ n = 1) → scInv Tm invM M' → scFr dsW M M' → Q (.inl (some (.int n))) M') : pvGood Tm 9 qX11_does [.ref 0, .ref 7, .ref (423 + b)] M Q := by
  have hx : M.1 (423 + b) 0 = nI kd := nI_is h0 (by omega)
  rcases (show kd = 0 ∨ kd = 1 ∨ kd = 2 ∨ kd = 3 by omega) with rfl | rfl | rfl | rfl
  · exact s_does0 hb hx (h1 (by decide)).1 (by have := (h1 (by decide)).2; omega) hI hq
  · exact s_does1 hb hx (h1 (by decide)).1 (by have := (h1 (by decide)).2; omega) hI hq
  · exact s_does2 hb hx (h1 (by decide)).1 (by have := (h1 (by decide)).2; omega) hI hq
  · exact s_does3 hb hx hI hq
end
-- P 12v
section
/-- a step as it stands at b, of n, with l lives -/
def gStep (M : fmM) (l b n : Nat) : Prop := ∃ kd v e : Nat, (M.1 (423 + b) 0).toInt = kd ∧ kd ≤ 4 ∧ (kd < 3 → (M.1 (423 + b) 1).toInt = v ∧ v < l) ∧ (kd = 4 → (M.1 (423 + b) 1).toInt = v ∧ v ≤ 20) ∧ (M.1 (423 + b) 2).toInt = e ∧ b < e ∧ e ≤ n
def gSt (M : fmM) (n l g : Nat) : Prop := n ≤ 80 ∧ l ≤ 8 ∧ (M.1 4 0).toInt = l ∧ (∀ b, b < n → gStep M l b n) ∧ scInv Tm invM M ∧ (M.1 0 36).toInt = (g : Int) ∧ g ≤ 200
theorem gsW_k {k j : Nat} (h : k = 4 ∨ 423 ≤ k) : scIn gsW k j = false := by
  simp only [scIn, List.any_cons, List.any_nil, Bool.or_false]
  have e : ∀ q : Nat, (q = 0 ∨ q = 5 ∨ q = 6 ∨ q = 7) → (q == k) = false := fun q hq => by
    rw [beq_eq_false_iff_ne]
    omega
  rw [e 0 (by omega), e 5 (by omega), e 6 (by omega), e 7 (by omega)]
  rfl
theorem gSt.fr {M M' : fmM} {n l g g' : Nat} (h : gSt M n l g) (hf : scFr gsW M M') (hI : scInv Tm invM M') (hg : (M'.1 0 36).toInt = (g' : Int)) (h2 : g' ≤ 200) : gSt M' n l g' := by
  obtain ⟨a1, a2, a3, a4, a5, a6, a7⟩ := h
  refine ⟨a1, a2, (by rw [(hf 4 0 rfl).1]; exact a3), fun b hb => ?_, hI, hg, h2⟩
  obtain ⟨kd, v, e, b1, b2, b3, b4, b5, b6, b7⟩ := a4 b hb
  have e9 : ∀ j, M'.1 (423 + b) j = M.1 (423 + b) j := fun j => (hf _ _ (gsW_k (by omega))).1
  exact ⟨kd, v, e, by rw [e9]; exact b1, b2, fun h => by rw [e9]; exact b3 h, fun h => by rw [e9]; exact b4 h, by rw [e9]; exact b5, b6, b7⟩
theorem gsFr.trans {M M1 M2 : fmM} (h : scFr gsW M M1) (h' : scFr gsW M1 M2) : scFr gsW M M2 := scFr.trans h h' (by decide)
theorem dsFr.gs {M M1 M2 : fmM} (h : scFr gsW M M1) (h' : scFr dsW M1 M2) : scFr gsW M M2 := scFr.trans h h' (by decide)
theorem inv_c0g {M : fmM} {j : Nat} {x : Int32} (hI : scInv Tm invM M) (hj : j = 33 ∨ j = 36 ∨ j = 37) : scInv Tm invM (fmI M 0 j x) := by
  rcases hj with rfl | rfl | rfl <;> exact hI.put (scq_t x) rfl
theorem fr_c0g {M0 M : fmM} {j : Nat} {x : Int32} (h : scFr gsW M0 M) (hj : j = 33 ∨ j = 36 ∨ j = 37) : scFr gsW M0 (fmI M 0 j x) := by
  rcases hj with rfl | rfl | rfl <;> exact scFr.toI h rfl
/-- the end of steps from begun g -/
def gsE (Q : fmR → fmM → Prop) (M : fmM) (g : Nat) : Prop := ∀ (M' : fmM) (g' : Nat), scInv Tm invM M' → scFr gsW M M' → (M'.1 0 36).toInt = (g' : Int) → g ≤ g' → g' ≤ 200 → Q (.inl none) M'
theorem gsE.fr {Q : fmR → fmM → Prop} {M M1 : fmM} {g g1 : Nat} (h : gsE Q M g) (hf : scFr gsW M M1) (hg : g ≤ g1) : gsE Q M1 g1 := fun M' g' a b c d e => h M' g' a (gsFr.trans hf b) c (by omega) e
def gsP (m : Nat) : Prop := ∀ (M : fmM) (Q : fmR → fmM → Prop) (n l g sN tN : Nat) (fr to s : Int32) (v4 : Option Value), gSt M n l g → g + m = 200 → s.toInt = sN → to.toInt = tN → tN ≤ n → gsE Q M g → pvEv Tm (12 + m) qX11_goes 2 [some (.ref 0), some (.int fr), some (.int to), some (.int s), v4] [] M Q
def gsG (m : Nat) : Prop := ∀ (M : fmM) (Q : fmR → fmM → Prop) (n l g sN tN : Nat) (s to : Int32), gSt M n l g → g + m = 200 → s.toInt = sN → to.toInt = tN → tN ≤ n → gsE Q M g → pvGood Tm (12 + m) qX11_goes [.ref 0, .int s, .int to] M Q
set_option maxRecDepth 20000 in
theorem gs_t {Q : fmR → fmM → Prop} {m : Nat} (ih : ∀ m' : Nat, m' < m → gsP m') {M : fmM} {n l g sN tN : Nat} {fr to s : Int32} {v4 : Option Value} (hG : gSt M n l g) (hg : 200 - g < m) (hs : s.toInt = sN) (hsn : sN < n) (ht : to.toInt = tN) (htn : tN ≤ n) (hq : gsE Q M g) : pvEv Tm (12 + m) qX11_goes 143 [some (.ref 0), some (.int fr), some (.int to), some (.int s), v4] [] M Q := by
  have hs80 : sN < 80 := (by have := hG.1; omega)
  obtain ⟨kd, v, e, b1, b2, b3, b4, b5, b6, b7⟩ := hG.2.2.2.1 sN hsn
  refine pv_aloadn (pc := 143) (n := 0) 0 rfl rfl (fm_dec dtX11_goes 80 rfl) ?_
  refine pv_getR (k := 0) (j := 25) (ci := 11) (pc := 144) 24 rfl (by decide) pfl_X11_58 (by decide) rfl (by decide) (fm_dec dtX11_goes 81 rfl) ?_
  refine pv_iloadn (pc := 147) (n := 3) 3 rfl rfl (fm_dec dtX11_goes 82 rfl) ?_
  refine pv_aald (k := 24) (n := 80) (r := (423 + sN)) (pc := 148) (by decide) (Or.inr (Or.inr rfl)) rfl (rw_step.inb hs hs80) (rw_step.at hs hs80) (rw_step.2.2.2 _ hs80).2.1 (fm_dec dtX11_goes 83 rfl) ?_
  refine pv_iconst (pc := 149) (v := 2) (by decide) (fm_dec dtX11_goes 84 rfl) ?_
  refine pv_iald (k := (423 + sN)) (n := 3) (pc := 150) (rw_step.2.2.2 _ hs80).2.2.1 (rw_step.2.2.2 _ hs80).2.2.2.1 (rw_step.2.2.2 _ hs80).2.2.2.2 (fm_inl (by decide)) (fm_dec dtX11_goes 85 rfl) ?_
  refine pv_istoren (pc := 151) (n := 3) 3 rfl (by decide) rfl (fm_dec dtX11_goes 86 rfl) ?_
  dsimp only [List.set_cons_zero, List.set_cons_succ]
  refine pv_goto (pc := 152) 2 (by decide) (fm_dec dtX11_goes 87 rfl) ?_
  exact (ih (200 - g) hg M Q n l g e tN _ _ _ _ hG (by have := hG.2.2.2.2.2.2; omega) b5 ht htn hq).up (by omega)
set_option maxRecDepth 20000 in
theorem gs_in {Q : fmR → fmM → Prop} {m : Nat} (hGG : ∀ m' : Nat, m' < m → gsG m') {n l sN v : Nat} {fr to s : Int32} (hs : s.toInt = sN) (hsn : sN < n) (hv20 : v ≤ 20) : ∀ (q : Nat) (M : fmM) (g c : Nat) (cc : Int32), gSt M n l g → 200 - g < m → (M.1 (423 + sN) 1).toInt = v → cc.toInt = c → c + q = v → (∀ (M' : fmM) (g' : Nat) (v4 : Option Value), gSt M' n l g' → scFr gsW M M' → g ≤ g' → pvEv Tm (12 + m) qX11_goes 143 [some (.ref 0), some (.int fr), some (.int to), some (.int s), v4] [] M' Q) → pvEv Tm (12 + m) qX11_goes 42 [some (.ref 0), some (.int fr), some (.int to), some (.int s), some (.int cc)] [] M Q := by
  intro q
  induction q with
  | zero =>
    intro M g c cc hG hg hv hc hcq hq
    have hs80 : sN < 80 := (by have := hG.1; omega)
    refine pv_iload (pc := 42) (i := 4) rfl (fm_dec dtX11_goes 25 rfl) ?_
    refine pv_aloadn (pc := 44) (n := 0) 0 rfl rfl (fm_dec dtX11_goes 26 rfl) ?_
    refine pv_getR (k := 0) (j := 25) (ci := 11) (pc := 45) 24 rfl (by decide) pfl_X11_58 (by decide) rfl (by decide) (fm_dec dtX11_goes 27 rfl) ?_
    refine pv_iloadn (pc := 48) (n := 3) 3 rfl rfl (fm_dec dtX11_goes 28 rfl) ?_
    refine pv_aald (k := 24) (n := 80) (r := (423 + sN)) (pc := 49) (by decide) (Or.inr (Or.inr rfl)) rfl (rw_step.inb hs hs80) (rw_step.at hs hs80) (rw_step.2.2.2 _ hs80).2.1 (fm_dec dtX11_goes 29 rfl) ?_
    refine pv_iconst (pc := 50) (v := 1) (by decide) (fm_dec dtX11_goes 30 rfl) ?_
    refine pv_iald (k := (423 + sN)) (n := 3) (pc := 51) (rw_step.2.2.2 _ hs80).2.2.1 (rw_step.2.2.2 _ hs80).2.2.2.1 (rw_step.2.2.2 _ hs80).2.2.2.2 (fm_inl (by decide)) (fm_dec dtX11_goes 31 rfl) ?_
    refine pv_icmp_ge (pc := 52) 86 (by decide) (fm_dec dtX11_goes 32 rfl) (fun _ => ?_) (fun hc52 => by exfalso; apply hc52; rw [sc_le]; have h9 : (M.1 (423 + sN) (Int32.toNatClampNeg 1)).toInt = v := hv; omega)
    refine pv_goto (pc := 86) 143 (by decide) (fm_dec dtX11_goes 50 rfl) ?_
    exact hq M g _ hG scFr.rfl (Nat.le_refl _)
  | succ q ih =>
    intro M g c cc hG hg hv hc hcq hq
    have hs80 : sN < 80 := (by have := hG.1; omega)
    obtain ⟨kd, v9, e, b1, b2, b3, b4, b5, b6, b7⟩ := hG.2.2.2.1 sN hsn
    refine pv_iload (pc := 42) (i := 4) rfl (fm_dec dtX11_goes 25 rfl) ?_
    refine pv_aloadn (pc := 44) (n := 0) 0 rfl rfl (fm_dec dtX11_goes 26 rfl) ?_
    refine pv_getR (k := 0) (j := 25) (ci := 11) (pc := 45) 24 rfl (by decide) pfl_X11_58 (by decide) rfl (by decide) (fm_dec dtX11_goes 27 rfl) ?_
    refine pv_iloadn (pc := 48) (n := 3) 3 rfl rfl (fm_dec dtX11_goes 28 rfl) ?_
    refine pv_aald (k := 24) (n := 80) (r := (423 + sN)) (pc := 49) (by decide) (Or.inr (Or.inr rfl)) rfl (rw_step.inb hs hs80) (rw_step.at hs hs80) (rw_step.2.2.2 _ hs80).2.1 (fm_dec dtX11_goes 29 rfl) ?_
    refine pv_iconst (pc := 50) (v := 1) (by decide) (fm_dec dtX11_goes 30 rfl) ?_
    refine pv_iald (k := (423 + sN)) (n := 3) (pc := 51) (rw_step.2.2.2 _ hs80).2.2.1 (rw_step.2.2.2 _ hs80).2.2.2.1 (rw_step.2.2.2 _ hs80).2.2.2.2 (fm_inl (by decide)) (fm_dec dtX11_goes 31 rfl) ?_
    refine pv_icmp_ge (pc := 52) 86 (by decide) (fm_dec dtX11_goes 32 rfl) (fun hc52 => ?_) (fun hc52 => ?_)
    · refine pv_goto (pc := 86) 143 (by decide) (fm_dec dtX11_goes 50 rfl) ?_
      exact hq M g _ hG scFr.rfl (Nat.le_refl _)
    · have hlt : c < v := (by have h9 : (M.1 (423 + sN) (Int32.toNatClampNeg 1)).toInt = v := hv; rw [sc_le] at hc52; omega)
      refine pv_aloadn (pc := 55) (n := 0) 0 rfl rfl (fm_dec dtX11_goes 33 rfl) ?_
      refine pv_getI (k := 0) (j := 36) (ci := 11) (pc := 56) pfl_X11_310 (by decide) rfl (by decide) (fm_dec dtX11_goes 34 rfl) ?_
      refine pv_sipush (pc := 59) (v := 200) (by decide) (fm_dec dtX11_goes 35 rfl) ?_
      refine pv_icmp_ge (pc := 62) 86 (by decide) (fm_dec dtX11_goes 36 rfl) (fun hc62 => ?_) (fun hc62 => ?_)
      · refine pv_goto (pc := 86) 143 (by decide) (fm_dec dtX11_goes 50 rfl) ?_
        exact hq M g _ hG scFr.rfl (Nat.le_refl _)
      · refine pv_aloadn (pc := 65) (n := 0) 0 rfl rfl (fm_dec dtX11_goes 37 rfl) ?_
        refine pv_iloadn (pc := 66) (n := 3) 3 rfl rfl (fm_dec dtX11_goes 38 rfl) ?_
        refine pv_iconst (pc := 67) (v := 1) (by decide) (fm_dec dtX11_goes 39 rfl) ?_
        refine pv_iadd (pc := 68) (fm_dec dtX11_goes 40 rfl) ?_
        refine pv_aloadn (pc := 69) (n := 0) 0 rfl rfl (fm_dec dtX11_goes 41 rfl) ?_
        refine pv_getR (k := 0) (j := 25) (ci := 11) (pc := 70) 24 rfl (by decide) pfl_X11_58 (by decide) rfl (by decide) (fm_dec dtX11_goes 42 rfl) ?_
        refine pv_iloadn (pc := 73) (n := 3) 3 rfl rfl (fm_dec dtX11_goes 43 rfl) ?_
        refine pv_aald (k := 24) (n := 80) (r := (423 + sN)) (pc := 74) (by decide) (Or.inr (Or.inr rfl)) rfl (rw_step.inb hs hs80) (rw_step.at hs hs80) (rw_step.2.2.2 _ hs80).2.1 (fm_dec dtX11_goes 44 rfl) ?_
        refine pv_iconst (pc := 75) (v := 2) (by decide) (fm_dec dtX11_goes 45 rfl) ?_
        refine pv_iald (k := (423 + sN)) (n := 3) (pc := 76) (rw_step.2.2.2 _ hs80).2.2.1 (rw_step.2.2.2 _ hs80).2.2.2.1 (rw_step.2.2.2 _ hs80).2.2.2.2 (fm_inl (by decide)) (fm_dec dtX11_goes 46 rfl) ?_
        refine pv_invV2 (k := 0) (d' := (12 + (200 - g))) (pc := 77) pcv_X11_313 (by decide) rfl (Nat.le_of_ble_eq_true rfl) (by omega) (fm_dec dtX11_goes 47 rfl) ?_
        refine hGG (200 - g) hg M _ n l g (sN + 1) e (s + 1) _ hG (by have := hG.2.2.2.2.2.2; omega) (i32_p1 hs (by omega)) b5 b7 (fun M77 g77 hI77 f77 hg77 a77 c77 => ?_) 
        refine pv_then0 ?_
        refine pv_iincc (pc := 80) 4 1 (by decide) rfl (by decide) rfl (fm_dec dtX11_goes 48 rfl) ?_
        dsimp only [List.set_cons_zero, List.set_cons_succ]
        refine pv_goto (pc := 83) 42 (by decide) (fm_dec dtX11_goes 49 rfl) ?_
        refine ih M77 g77 (c + 1) _ (hG.fr f77 hI77 hg77 c77) (by omega) (by rw [(f77 _ _ (gsW_k (by omega))).1]; exact hv) (i32_p1 hc (by omega)) (by have h9 := hlt; omega) (fun M9 g9 v9 a b d => hq M9 g9 v9 a (gsFr.trans f77 b) (by omega))
theorem gs_G {m : Nat} (h : gsP m) : gsG m := by
  intro M Q n l g sN tN s to hG hm hs ht htn hq
  refine pvGood_of (Nat.le_of_ble_eq_true rfl) ?_
  show pvEv Tm (12 + m) qX11_goes 0 [some (.ref 0), some (.int s), some (.int to), none, none] [] M Q
  refine pv_iloadn (pc := 0) (n := 1) 1 rfl rfl (fm_dec dtX11_goes 0 rfl) ?_
  refine pv_istoren (pc := 1) (n := 3) 3 rfl (by decide) rfl (fm_dec dtX11_goes 1 rfl) ?_
  dsimp only [List.set_cons_zero, List.set_cons_succ]
  exact h M Q n l g sN tN s to s none hG hm hs ht htn hq
set_option maxRecDepth 20000 in
theorem gs_P : ∀ m, gsP m := by
  intro m
  induction m using Nat.strongRecOn with
  | _ m ih =>
    intro M Q n l g sN tN fr to s v4 hG hm hs ht htn hq
    have h36 := hG.2.2.2.2.2.1
    refine pv_iloadn (pc := 2) (n := 3) 3 rfl rfl (fm_dec dtX11_goes 2 rfl) ?_
    refine pv_iloadn (pc := 3) (n := 2) 2 rfl rfl (fm_dec dtX11_goes 3 rfl) ?_
    refine pv_icmp_ge (pc := 4) 155 (by decide) (fm_dec dtX11_goes 4 rfl) (fun hc4 => ?_) (fun hc4 => ?_)
    · exact pv_return (pc := 155) rfl (fm_dec dtX11_goes 88 rfl) (hq M g hG.2.2.2.2.1 scFr.rfl h36 (Nat.le_refl _) hG.2.2.2.2.2.2)
    · refine pv_aloadn (pc := 7) (n := 0) 0 rfl rfl (fm_dec dtX11_goes 5 rfl) ?_
      refine pv_getI (k := 0) (j := 36) (ci := 11) (pc := 8) pfl_X11_310 (by decide) rfl (by decide) (fm_dec dtX11_goes 6 rfl) ?_
      refine pv_sipush (pc := 11) (v := 200) (by decide) (fm_dec dtX11_goes 7 rfl) ?_
      refine pv_icmp_ge (pc := 14) 155 (by decide) (fm_dec dtX11_goes 8 rfl) (fun hc14 => ?_) (fun hc14 => ?_)
      · exact pv_return (pc := 155) rfl (fm_dec dtX11_goes 88 rfl) (hq M g hG.2.2.2.2.1 scFr.rfl h36 (Nat.le_refl _) hG.2.2.2.2.2.2)
      · have hg2 : g < 200 := (by rw [sc_le] at hc14; have h9 : (200 : Int32).toInt = 200 := (by decide); omega)
        have hsn : sN < n := (by rw [sc_le] at hc4; omega)
        have hs80 : sN < 80 := (by have := hG.1; omega)
        obtain ⟨kd, v, e, b1, b2, b3, b4, b5, b6, b7⟩ := hG.2.2.2.1 sN hsn
        have hI1 := inv_c0g (x := M.1 0 36 + 1) hG.2.2.2.2.1 (Or.inr (Or.inl rfl))
        have f1 := fr_c0g (x := M.1 0 36 + 1) (scFr.rfl (M := M)) (Or.inr (Or.inl rfl))
        have h1r : ∀ j, (fmI M 0 36 (M.1 0 36 + 1)).1 (423 + sN) j = M.1 (423 + sN) j := fun j => by rw [fmI_k _ _ (by omega)]
        have hG1 : gSt (fmI M 0 36 (M.1 0 36 + 1)) n l (g + 1) := hG.fr f1 hI1 (by rw [fmI_s]; exact i32_p1 h36 (by omega)) (by omega)
        refine pv_aloadn (pc := 17) (n := 0) 0 rfl rfl (fm_dec dtX11_goes 9 rfl) ?_
        refine pv_dup (pc := 18) rfl (fm_dec dtX11_goes 10 rfl) ?_
        refine pv_getI (k := 0) (j := 36) (ci := 11) (pc := 19) pfl_X11_310 (by decide) rfl (by decide) (fm_dec dtX11_goes 11 rfl) ?_
        refine pv_iconst (pc := 22) (v := 1) (by decide) (fm_dec dtX11_goes 12 rfl) ?_
        refine pv_iadd (pc := 23) (fm_dec dtX11_goes 13 rfl) ?_
        refine pv_putI (k := 0) (j := 36) (ci := 11) (pc := 24) pfl_X11_310 (by decide) rfl (by decide) (fm_dec dtX11_goes 14 rfl) ?_
        refine pv_aloadn (pc := 27) (n := 0) 0 rfl rfl (fm_dec dtX11_goes 15 rfl) ?_
        refine pv_getR (k := 0) (j := 25) (ci := 11) (pc := 28) 24 rfl (by decide) pfl_X11_58 (by decide) rfl (by decide) (fm_dec dtX11_goes 16 rfl) ?_
        refine pv_iloadn (pc := 31) (n := 3) 3 rfl rfl (fm_dec dtX11_goes 17 rfl) ?_
        refine pv_aald (k := 24) (n := 80) (r := (423 + sN)) (pc := 32) (by decide) (Or.inr (Or.inr rfl)) rfl (rw_step.inb hs hs80) (rw_step.at hs hs80) (rw_step.2.2.2 _ hs80).2.1 (fm_dec dtX11_goes 18 rfl) ?_
        refine pv_iconst (pc := 33) (v := 0) (by decide) (fm_dec dtX11_goes 19 rfl) ?_
        refine pv_iald (k := (423 + sN)) (n := 3) (pc := 34) (rw_step.2.2.2 _ hs80).2.2.1 (rw_step.2.2.2 _ hs80).2.2.2.1 (rw_step.2.2.2 _ hs80).2.2.2.2 (fm_inl (by decide)) (fm_dec dtX11_goes 20 rfl) ?_
        refine pv_iconst (pc := 35) (v := 4) (by decide) (fm_dec dtX11_goes 21 rfl) ?_
        refine pv_icmp_ne (pc := 36) 89 (by decide) (fm_dec dtX11_goes 22 rfl) (fun hc36 => ?_) (fun hc36 => ?_)
        · refine pv_aloadn (pc := 89) (n := 0) 0 rfl rfl (fm_dec dtX11_goes 51 rfl) ?_
          refine pv_aloadn (pc := 90) (n := 0) 0 rfl rfl (fm_dec dtX11_goes 52 rfl) ?_
          refine pv_getR (k := 0) (j := 27) (ci := 11) (pc := 91) 7 rfl (by decide) pfl_X11_61 (by decide) rfl (by decide) (fm_dec dtX11_goes 53 rfl) ?_
          refine pv_aloadn (pc := 94) (n := 0) 0 rfl rfl (fm_dec dtX11_goes 54 rfl) ?_
          refine pv_getR (k := 0) (j := 25) (ci := 11) (pc := 95) 24 rfl (by decide) pfl_X11_58 (by decide) rfl (by decide) (fm_dec dtX11_goes 55 rfl) ?_
          refine pv_iloadn (pc := 98) (n := 3) 3 rfl rfl (fm_dec dtX11_goes 56 rfl) ?_
          refine pv_aald (k := 24) (n := 80) (r := (423 + sN)) (pc := 99) (by decide) (Or.inr (Or.inr rfl)) rfl (rw_step.inb hs hs80) (rw_step.at hs hs80) (rw_step.2.2.2 _ hs80).2.1 (fm_dec dtX11_goes 57 rfl) ?_
          refine pv_invV2 (k := 0) (d' := 9) (pc := 100) pcv_X11_316 (by decide) rfl (Nat.le_of_ble_eq_true rfl) (by omega) (fm_dec dtX11_goes 58 rfl) ?_
          refine s_does hs80 (h1r 0 ▸ b1) (show kd ≤ 3 by have : ¬ kd = 4 := (fun h9 => hc36 (i32_ext ((congrArg Int32.toInt (h1r 0)).trans (b1.trans (by rw [h9]; decide))))); omega) (fun h9 => by rw [h1r 1]; exact b3 h9) hG.2.1 hI1 (fun n100 M100 z100 hI100 f100 => ?_) 
          refine pv_then1 ?_
          rcases z100 with rfl | rfl
          · refine pv_istore (pc := 103) (i := 4) (by decide) rfl (fm_dec dtX11_goes 59 rfl) ?_
            dsimp only [List.set_cons_zero, List.set_cons_succ]
            refine pv_aloadn (pc := 105) (n := 0) 0 rfl rfl (fm_dec dtX11_goes 60 rfl) ?_
            refine pv_dup (pc := 106) rfl (fm_dec dtX11_goes 61 rfl) ?_
            refine pv_getI (k := 0) (j := 37) (ci := 11) (pc := 107) pfl_X11_320 (by decide) rfl (by decide) (fm_dec dtX11_goes 62 rfl) ?_
            refine pv_iload (pc := 110) (i := 4) rfl (fm_dec dtX11_goes 63 rfl) ?_
            refine pv_if_eq (pc := 112) 119 (by decide) (fm_dec dtX11_goes 64 rfl) (fun _ => ?_) (fun hc112 => by exfalso; revert hc112; decide)
            refine pv_iconst (pc := 119) (v := 0) (by decide) (fm_dec dtX11_goes 67 rfl) ?_
            refine pv_iadd (pc := 120) (fm_dec dtX11_goes 68 rfl) ?_
            refine pv_putI (k := 0) (j := 37) (ci := 11) (pc := 121) pfl_X11_320 (by decide) rfl (by decide) (fm_dec dtX11_goes 69 rfl) ?_
            refine pv_aloadn (pc := 124) (n := 0) 0 rfl rfl (fm_dec dtX11_goes 70 rfl) ?_
            refine pv_dup (pc := 125) rfl (fm_dec dtX11_goes 71 rfl) ?_
            refine pv_getI (k := 0) (j := 33) (ci := 11) (pc := 126) pfl_X11_203 (by decide) rfl (by decide) (fm_dec dtX11_goes 72 rfl) ?_
            refine pv_iload (pc := 129) (i := 4) rfl (fm_dec dtX11_goes 73 rfl) ?_
            refine pv_if_eq (pc := 131) 138 (by decide) (fm_dec dtX11_goes 74 rfl) (fun _ => ?_) (fun hc131 => by exfalso; revert hc131; decide)
            refine pv_iconst (pc := 138) (v := 1) (by decide) (fm_dec dtX11_goes 77 rfl) ?_
            refine pv_iadd (pc := 139) (fm_dec dtX11_goes 78 rfl) ?_
            refine pv_putI (k := 0) (j := 33) (ci := 11) (pc := 140) pfl_X11_203 (by decide) rfl (by decide) (fm_dec dtX11_goes 79 rfl) ?_
            have f9 := fr_c0g (x := M100.1 0 37 + 0) (dsFr.gs f1 f100) (Or.inr (Or.inr rfl))
            have f8 := fr_c0g (x := (fmI M100 0 37 (M100.1 0 37 + 0)).1 0 33 + 1) f9 (Or.inl rfl)
            exact gs_t ih (g := g + 1) (hG.fr f8 (inv_c0g (inv_c0g hI100 (Or.inr (Or.inr rfl))) (Or.inl rfl)) (by rw [fmI_j _ _ (by decide), fmI_j _ _ (by decide), (f100 0 36 rfl).1, fmI_s]; exact i32_p1 h36 (by omega)) (by omega)) (by omega) hs hsn ht htn (hq.fr f8 (by omega))
          · refine pv_istore (pc := 103) (i := 4) (by decide) rfl (fm_dec dtX11_goes 59 rfl) ?_
            dsimp only [List.set_cons_zero, List.set_cons_succ]
            refine pv_aloadn (pc := 105) (n := 0) 0 rfl rfl (fm_dec dtX11_goes 60 rfl) ?_
            refine pv_dup (pc := 106) rfl (fm_dec dtX11_goes 61 rfl) ?_
            refine pv_getI (k := 0) (j := 37) (ci := 11) (pc := 107) pfl_X11_320 (by decide) rfl (by decide) (fm_dec dtX11_goes 62 rfl) ?_
            refine pv_iload (pc := 110) (i := 4) rfl (fm_dec dtX11_goes 63 rfl) ?_
            refine pv_if_eq (pc := 112) 119 (by decide) (fm_dec dtX11_goes 64 rfl) (fun hc112 => by exfalso; revert hc112; decide) (fun _ => ?_)
            refine pv_iconst (pc := 115) (v := 1) (by decide) (fm_dec dtX11_goes 65 rfl) ?_
            refine pv_goto (pc := 116) 120 (by decide) (fm_dec dtX11_goes 66 rfl) ?_
            refine pv_iadd (pc := 120) (fm_dec dtX11_goes 68 rfl) ?_
            refine pv_putI (k := 0) (j := 37) (ci := 11) (pc := 121) pfl_X11_320 (by decide) rfl (by decide) (fm_dec dtX11_goes 69 rfl) ?_
            refine pv_aloadn (pc := 124) (n := 0) 0 rfl rfl (fm_dec dtX11_goes 70 rfl) ?_
            refine pv_dup (pc := 125) rfl (fm_dec dtX11_goes 71 rfl) ?_
            refine pv_getI (k := 0) (j := 33) (ci := 11) (pc := 126) pfl_X11_203 (by decide) rfl (by decide) (fm_dec dtX11_goes 72 rfl) ?_
            refine pv_iload (pc := 129) (i := 4) rfl (fm_dec dtX11_goes 73 rfl) ?_
            refine pv_if_eq (pc := 131) 138 (by decide) (fm_dec dtX11_goes 74 rfl) (fun hc131 => by exfalso; revert hc131; decide) (fun _ => ?_)
            refine pv_iconst (pc := 134) (v := 0) (by decide) (fm_dec dtX11_goes 75 rfl) ?_
            refine pv_goto (pc := 135) 139 (by decide) (fm_dec dtX11_goes 76 rfl) ?_
            refine pv_iadd (pc := 139) (fm_dec dtX11_goes 78 rfl) ?_
            refine pv_putI (k := 0) (j := 33) (ci := 11) (pc := 140) pfl_X11_203 (by decide) rfl (by decide) (fm_dec dtX11_goes 79 rfl) ?_
            have f9 := fr_c0g (x := M100.1 0 37 + 1) (dsFr.gs f1 f100) (Or.inr (Or.inr rfl))
            have f8 := fr_c0g (x := (fmI M100 0 37 (M100.1 0 37 + 1)).1 0 33 + 0) f9 (Or.inl rfl)
            exact gs_t ih (g := g + 1) (hG.fr f8 (inv_c0g (inv_c0g hI100 (Or.inr (Or.inr rfl))) (Or.inl rfl)) (by rw [fmI_j _ _ (by decide), fmI_j _ _ (by decide), (f100 0 36 rfl).1, fmI_s]; exact i32_p1 h36 (by omega)) (by omega)) (by omega) hs hsn ht htn (hq.fr f8 (by omega))
        · refine pv_iconst (pc := 39) (v := 0) (by decide) (fm_dec dtX11_goes 23 rfl) ?_
          refine pv_istore (pc := 40) (i := 4) (by decide) rfl (fm_dec dtX11_goes 24 rfl) ?_
          dsimp only [List.set_cons_zero, List.set_cons_succ]
          have hkd : kd = 4 := (by have h9 : ((fmI M 0 36 (M.1 0 36 + 1)).1 (423 + sN) (Int32.toNatClampNeg 0)).toInt = kd := (by rw [show Int32.toNatClampNeg 0 = 0 from rfl, h1r 0]; exact b1); rw [hc36] at h9; have h8 : (4 : Int32).toInt = 4 := (by decide); omega)
          exact gs_in (fun m' h9 => gs_G (ih m' h9)) hs hsn (b4 hkd).2 v _ (g + 1) 0 0 hG1 (by omega) (by rw [h1r 1]; exact (b4 hkd).1) (by decide) (by omega) (fun M' g' v4 h9 f9 a9 => gs_t ih h9 (by omega) hs hsn ht htn (hq.fr (gsFr.trans f1 f9) (by omega)))
end
-- P 12w
section
-- THE REFERENCE'S WORK: any arguments
theorem inv_sr {M M' : fmM} {b : Nat} (hI : scInv Tm invM M) (h : srFr b M M') : scInv Tm invM M' := by
  refine ⟨fun k j hj => ?_, fun hm => jm_stable (hI.2 hm) (fun k j hk => ?_)⟩
  · by_cases e0 : k = 0
    · subst e0
      by_cases e : j = 4 ∨ j = 5 ∨ j = 6 ∨ j = 8 ∨ j = 26
      · have e9 : scAt (invM 0) j = scTop := by rcases e with rfl | rfl | rfl | rfl | rfl <;> rfl
        rw [e9]
        exact scq_t _
      · rw [h.2.1 j (by omega) (by omega) (by omega) (by omega) (by omega)]
        exact hI.1 0 j hj
    · by_cases e : 423 + b ≤ k ∧ k < 503
      · rw [inv_top (by omega) j]
        exact scq_t _
      · rw [h.1 k j e0 e]
        exact hI.1 k j hj
  · by_cases e0 : k = 0
    · subst e0
      have h9 : j = 17 := by simpa [jmPr] using hk
      subst h9
      exact h.2.1 17 (by decide) (by decide) (by decide) (by decide) (by decide)
    · refine h.1 k j e0 (fun e => ?_)
      simp [jmPr] at hk
      omega
theorem inv_st {M M1 : fmM} {tx : tX} {n : Nat} (hI : scInv Tm invM M) (hs : stOk (fmI M 0 0 0) M1 tx n) : scInv Tm invM M1 := by
  refine ⟨fun k j hj => ?_, fun hm => jm_stable (hI.2 hm) (fun k j hk => ?_)⟩
  · by_cases e0 : k = 0
    · subst e0
      by_cases e1 : j = 0
      · subst e1
        rw [st_0 hs]
        decide
      · by_cases e2 : j = 1
        · subst e2
          rw [hs.2.2.2.2.1]
          decide
        · by_cases e : j = 2 ∨ j = 4 ∨ j = 5 ∨ j = 6 ∨ j = 7 ∨ j = 8
          · have e9 : scAt (invM 0) j = scTop := by rcases e with rfl | rfl | rfl | rfl | rfl | rfl <;> rfl
            rw [e9]
            exact scq_t _
          · rw [hs.2.2.2.2.2.2.2.1 j (by omega) (by omega) (by omega) (by omega) (by omega) (by omega) (by omega), fmI_j _ _ e1]
            exact hI.1 0 j hj
    · rw [st_k hs e0]
      exact hI.1 k j hj
  · by_cases e0 : k = 0
    · subst e0
      have h9 : j = 17 := by simpa [jmPr] using hk
      subst h9
      exact st_j hs (by decide)
    · exact st_k hs e0
theorem stRep.of {M M' : fmM} {b : Nat} {ss : tS} (h : stRep M b ss) (hb : b + ss.length ≤ 80) (e : ∀ k j, 423 ≤ k → k < 503 → M'.1 k j = M.1 k j) : stRep M' b ss := fun i s hi => by
  have hl : i < ss.length := (List.getElem?_eq_some_iff.mp hi).1
  rw [e _ _ (by omega) (by omega), e _ _ (by omega) (by omega), e _ _ (by omega) (by omega)]
  exact h i s hi
theorem gSt_of {M : fmM} {ss : tS} {l : Nat} (hR : stRep M 0 ss) (hO : ssOk l 0 ss) (hn : ss.length ≤ 80) (hl : l ≤ 8) (h4 : (M.1 4 0).toInt = l) (hI : scInv Tm invM M) (hg : M.1 0 36 = 0) : gSt M ss.length l 0 := by
  refine ⟨hn, hl, h4, fun b hb => ?_, hI, (by rw [hg]; decide), by decide⟩
  have h1 := hR b ss[b] (List.getElem?_eq_getElem hb)
  have h2 := hO b ss[b] (List.getElem?_eq_getElem hb)
  rw [Nat.add_zero] at h1
  rw [Nat.zero_add] at h2
  obtain ⟨c1, c2, c3, c4, c5⟩ := h2
  exact ⟨ss[b].1, ss[b].2.1, ss[b].2.2, h1.1, c1, fun h => ⟨h1.2.1 (by omega), c2 h⟩, fun h => ⟨h1.2.1 (by omega), c3 h⟩, h1.2.2, c4, by omega⟩
abbrev cpW : List (Nat × Nat × Nat) := [(503, 0, 14), (504, 0, 14), (505, 0, 14), (506, 0, 14), (507, 0, 14), (508, 0, 14), (509, 0, 14), (510, 0, 14), (511, 0, 14), (512, 0, 14), (513, 0, 14), (514, 0, 14), (515, 0, 14), (516, 0, 14), (517, 0, 14), (518, 0, 14)]
theorem cpW_k {k j : Nat} (h : k < 503) : scIn cpW k j = false := by
  unfold scIn
  rw [List.any_eq_false]
  intro w hw
  have h9 : ∀ w ∈ cpW, 503 ≤ w.1 := by decide
  have h8 := h9 w hw
  have e : (w.1 == k) = false := by
    rw [beq_eq_false_iff_ne]
    omega
  rw [e]
  simp
theorem cp_in {w : Nat} (hw : w < 16) : 503 + w ∈ [503, 504, 505, 506, 507, 508, 509, 510, 511, 512, 513, 514, 515, 516, 517, 518] := by
  rcases (show w = 0 ∨ w = 1 ∨ w = 2 ∨ w = 3 ∨ w = 4 ∨ w = 5 ∨ w = 6 ∨ w = 7 ∨ w = 8 ∨ w = 9 ∨ w = 10 ∨ w = 11 ∨ w = 12 ∨ w = 13 ∨ w = 14 ∨ w = 15 by omega) with rfl | rfl | rfl | rfl | rfl | rfl | rfl | rfl | rfl | rfl | rfl | rfl | rfl | rfl | rfl | rfl <;> decide
theorem s_keep {M : fmM} {Q : fmR → fmM → Prop} {w : Nat} (hw : w < 16) (hI : scInv Tm invM M) (hq : ∀ M' : fmM, scInv Tm invM M' → scFr cpW M M' → Q (.inl none) M') : pvGood Tm 0 qX11_copies [.ref 7, .ref (503 + w)] M Q := (hh_X11_copies_1 M [] [.ref 7, .ref (503 + w)] ⟨rfl, fun n e x he hx => by cases he⟩ ⟨⟨7, by simp, rfl⟩, ⟨503 + w, cp_in hw, rfl⟩, trivial⟩ (fun f hf => by cases hf) hI).imp (fun r M' h => by
  obtain ⟨rfl, h1, h2⟩ := sc_o0 h
  exact hq M' h1 h2)
theorem works16 {M : fmM} (hI : scInv Tm invM M) : ∃ w : Nat, (M.1 0 32).toInt = w ∧ w ≤ 16 := ⟨(M.1 0 32).toInt.toNat, by
  have h := hI.1 0 32 (by decide)
  have h1 : 0 ≤ (M.1 0 32).toInt := h.1
  omega, by
  have h := hI.1 0 32 (by decide)
  have h2 : (M.1 0 32).toInt ≤ 16 := h.2
  omega⟩
set_option maxRecDepth 20000 in
theorem wk_o1 {Q : fmR → fmM → Prop} {M : fmM} {nn : Int32} (hf : ¬ M.1 0 5 = 0) (hq : pvEv Tm 213 qX11_work 101 [some (.ref 0), some (.int nn)] [] M Q) : pvEv Tm 213 qX11_work 72 [some (.ref 0), some (.int nn)] [] M Q := by
  refine pv_aloadn (pc := 72) (n := 0) 0 rfl rfl (fm_dec dtX11_work 40 rfl) ?_
  refine pv_getI (k := 0) (j := 5) (ci := 11) (pc := 73) pfl_X11_117 (by decide) rfl (by decide) (fm_dec dtX11_work 41 rfl) ?_
  refine pv_if_ne (pc := 76) 101 (by decide) (fm_dec dtX11_work 42 rfl) (fun _ => ?_) (fun hc76 => by exfalso; exact hf hc76)
  exact hq
set_option maxRecDepth 20000 in
theorem wk_loop {tx : tX} {n l : Nat} {nn : Int32} {Q : fmR → fmM → Prop} : ∀ (f b p : Nat) (M : fmM), srPre M tx n p 0 b l → (∀ a, ¬ wkL tx n l f b p = .inl (9, a)) → (∀ (M' : fmM) (ss : tS) (q : Nat), wkL tx n l f b p = .inr ss → srOk M M' tx n q b ss → pvEv Tm 213 qX11_work 101 [some (.ref 0), some (.int nn)] [] M' Q) → (∀ (M' : fmM) (k a : Nat), wkL tx n l f b p = .inl (k, a) → srBad M M' tx n k a b → pvEv Tm 213 qX11_work 101 [some (.ref 0), some (.int nn)] [] M' Q) → pvEv Tm 213 qX11_work 72 [some (.ref 0), some (.int nn)] [] M Q := by
  intro f
  induction f with
  | zero => intro b p M hP hne hok hbad; exact absurd rfl (hne 0)
  | succ f ih =>
    intro b p M hP hne hok hbad
    refine pv_aloadn (pc := 72) (n := 0) 0 rfl rfl (fm_dec dtX11_work 40 rfl) ?_
    refine pv_getI (k := 0) (j := 5) (ci := 11) (pc := 73) pfl_X11_117 (by decide) rfl (by decide) (fm_dec dtX11_work 41 rfl) ?_
    refine pv_if_ne (pc := 76) 101 (by decide) (fm_dec dtX11_work 42 rfl) (fun hc76 => by exfalso; exact hc76 hP.2.1) (fun _ => ?_)
    refine pv_aloadn (pc := 79) (n := 0) 0 rfl rfl (fm_dec dtX11_work 43 rfl) ?_
    refine pv_getI (k := 0) (j := 4) (ci := 11) (pc := 80) pfl_X11_110 (by decide) rfl (by decide) (fm_dec dtX11_work 44 rfl) ?_
    refine pv_aloadn (pc := 83) (n := 0) 0 rfl rfl (fm_dec dtX11_work 45 rfl) ?_
    refine pv_getI (k := 0) (j := 2) (ci := 11) (pc := 84) pfl_X11_107 (by decide) rfl (by decide) (fm_dec dtX11_work 46 rfl) ?_
    refine pv_icmp_ge (pc := 87) 101 (by decide) (fm_dec dtX11_work 47 rfl) (fun hc87 => ?_) (fun hc87 => ?_)
    · exact hok M [] p (wkL_0 (by rw [sc_le, hP.1.1, hP.1.2.1] at hc87; omega)) (srOk.nil hP)
    · have hpn : ¬ n ≤ p := (by rw [sc_le, hP.1.1, hP.1.2.1] at hc87; omega)
      refine pv_aloadn (pc := 90) (n := 0) 0 rfl rfl (fm_dec dtX11_work 48 rfl) ?_
      refine pv_invV0 (k := 0) (d' := (5 + (6 - 0))) (pc := 91) pcv_X11_253 (by decide) rfl (Nat.le_of_ble_eq_true rfl) (by omega) (fm_dec dtX11_work 49 rfl) ?_
      refine (rs_all 400).1 0 b p M _ hP (fun h9 => hne 0 (wkL_1 hpn h9)) (fun M91 ss q91 e91 k91 => ?_) (fun Mb kb ab eb hB => ?_)  
      · refine pv_then0 ?_
        refine pv_aloadn (pc := 94) (n := 0) 0 rfl rfl (fm_dec dtX11_work 50 rfl) ?_
        refine pv_invV0 (k := 0) (d' := 1) (pc := 95) pcv_X11_123 (by decide) rfl (Nat.le_of_ble_eq_true rfl) (by omega) (fm_dec dtX11_work 51 rfl) ?_
        refine r_blanks k91.1 k91.2.1 (fun M95 k95 => ?_)
        refine pv_then0 ?_
        refine pv_goto (pc := 98) 72 (by decide) (fm_dec dtX11_work 52 rfl) ?_
        have hl := spSt_len hP.1.2.2.2.1 _ _ _ _ _ _ _ hP.1.2.2.1 e91
        refine ih (b + ss.length) (sk tx q91) M95 (hP.next k91 hl.1 k95) (fun a h9 => hne a (wkL_2 hpn e91 h9)) (fun M9 ts q e h => hok M9 _ q (wkL_3 hpn e91 e) (k91.app k95.2.2 (k95.2.2.2.1 8 (by decide) (by decide) (by decide)) h)) (fun M9 k a e h => hbad M9 k a (wkL_2 hpn e91 e) ⟨h.1, h.2.1, h.2.2.1, h.2.2.2.1, (k91.2.2.2.2.2.rd k95.2.2).trans h.2.2.2.2 (by omega)⟩)
      · refine pv_then0 ?_
        obtain ⟨qb, hSb⟩ := hB.1
        refine pv_aloadn (pc := 94) (n := 0) 0 rfl rfl (fm_dec dtX11_work 50 rfl) ?_
        refine pv_invV0 (k := 0) (d' := 1) (pc := 95) pcv_X11_123 (by decide) rfl (Nat.le_of_ble_eq_true rfl) (by omega) (fm_dec dtX11_work 51 rfl) ?_
        refine c_blanks hSb (fun x95 hx95 => ?_)
        refine pv_then0 ?_
        refine pv_goto (pc := 98) 72 (by decide) (fm_dec dtX11_work 52 rfl) ?_
        exact wk_o1 (srBad.nz (hB.bl hSb hx95)) (hbad _ kb ab (wkL_1 hpn eb) (hB.bl hSb hx95))
set_option maxRecDepth 20000 in
theorem wk_e1 {Q : fmR → fmM → Prop} {M : fmM} {nn : Int32} (hf : ¬ M.1 0 5 = 0) (hq : Q (.inl (some (.int (M.1 0 5 - 10)))) (fmI M 0 3 (M.1 0 6))) : pvEv Tm 213 qX11_work 101 [some (.ref 0), some (.int nn)] [] M Q := by
  refine pv_aloadn (pc := 101) (n := 0) 0 rfl rfl (fm_dec dtX11_work 53 rfl) ?_
  refine pv_getI (k := 0) (j := 5) (ci := 11) (pc := 102) pfl_X11_117 (by decide) rfl (by decide) (fm_dec dtX11_work 54 rfl) ?_
  refine pv_if_eq (pc := 105) 113 (by decide) (fm_dec dtX11_work 55 rfl) (fun hc105 => by exfalso; exact hf hc105) (fun _ => ?_)
  refine pv_aloadn (pc := 108) (n := 0) 0 rfl rfl (fm_dec dtX11_work 56 rfl) ?_
  refine pv_invV0 (k := 0) (d' := 0) (pc := 109) pcv_X11_187 (by decide) rfl (Nat.le_of_ble_eq_true rfl) (by omega) (fm_dec dtX11_work 57 rfl) ?_
  refine c_ends ?_
  refine pv_then1 ?_
  exact pv_ireturn (pc := 112) rfl (fm_dec dtX11_work 58 rfl) hq
def wkM (M : fmM) : fmM := fmI (fmI (fmI (fmI M 0 32 (M.1 0 32 + 1)) 0 36 0) 0 37 0) 0 33 0
set_option maxRecDepth 20000 in
theorem wk_e0 {Q : fmR → fmM → Prop} {M : fmM} {nn : Int32} {ss : tS} {l w : Nat} (hf : M.1 0 5 = 0) (hI : scInv Tm invM M) (hw : (M.1 0 32).toInt = w) (hw16 : w < 16) (hR : stRep M 0 ss) (hO : ssOk l 0 ss) (hn : ss.length ≤ 80) (hl : l ≤ 8) (h4 : (M.1 4 0).toInt = l) (h26 : (M.1 0 26).toInt = (ss.length : Int)) (hq : ∀ (n : Int32) (M' : fmM), scInv Tm invM M' → Q (.inl (some (.int n))) M') : pvEv Tm 213 qX11_work 101 [some (.ref 0), some (.int nn)] [] M Q := by
  refine pv_aloadn (pc := 101) (n := 0) 0 rfl rfl (fm_dec dtX11_work 53 rfl) ?_
  refine pv_getI (k := 0) (j := 5) (ci := 11) (pc := 102) pfl_X11_117 (by decide) rfl (by decide) (fm_dec dtX11_work 54 rfl) ?_
  refine pv_if_eq (pc := 105) 113 (by decide) (fm_dec dtX11_work 55 rfl) (fun _ => ?_) (fun hc105 => by exfalso; exact hc105 hf)
  refine pv_aloadn (pc := 113) (n := 0) 0 rfl rfl (fm_dec dtX11_work 59 rfl) ?_
  refine pv_iconst (pc := 114) (v := (-1)) (by decide) (fm_dec dtX11_work 60 rfl) ?_
  refine pv_putI (k := 0) (j := 3) (ci := 11) (pc := 115) pfl_X11_9 (by decide) rfl (by decide) (fm_dec dtX11_work 61 rfl) ?_
  refine pv_aloadn (pc := 118) (n := 0) 0 rfl rfl (fm_dec dtX11_work 62 rfl) ?_
  refine pv_getR (k := 0) (j := 27) (ci := 11) (pc := 119) 7 rfl (by decide) pfl_X11_61 (by decide) rfl (by decide) (fm_dec dtX11_work 63 rfl) ?_
  refine pv_aloadn (pc := 122) (n := 0) 0 rfl rfl (fm_dec dtX11_work 64 rfl) ?_
  refine pv_getR (k := 0) (j := 29) (ci := 11) (pc := 123) 25 rfl (by decide) pfl_X11_67 (by decide) rfl (by decide) (fm_dec dtX11_work 65 rfl) ?_
  refine pv_aloadn (pc := 126) (n := 0) 0 rfl rfl (fm_dec dtX11_work 66 rfl) ?_
  refine pv_getI (k := 0) (j := 32) (ci := 11) (pc := 127) pfl_X11_200 (by decide) rfl (by decide) (fm_dec dtX11_work 67 rfl) ?_
  refine pv_aald (k := 25) (n := 16) (r := (503 + w)) (pc := 130) (by decide) (Or.inr (Or.inr rfl)) rfl (rw_before.inb hw hw16) (rw_before.at hw hw16) (rw_before.2.2.2 _ hw16).2.1 (fm_dec dtX11_work 68 rfl) ?_
  refine pv_iS2 (d' := 0) (pc := 131) pcs_X11_323 (Nat.le_of_ble_eq_true rfl) (by omega) (fm_dec dtX11_work 69 rfl) ?_
  refine s_keep hw16 (hI.put (k := 0) (j := 3) (x := -1) (by decide) rfl) (fun M131 hI131 f131 => ?_) 
  refine pv_then0 ?_
  refine pv_aloadn (pc := 134) (n := 0) 0 rfl rfl (fm_dec dtX11_work 70 rfl) ?_
  refine pv_dup (pc := 135) rfl (fm_dec dtX11_work 71 rfl) ?_
  refine pv_getI (k := 0) (j := 32) (ci := 11) (pc := 136) pfl_X11_200 (by decide) rfl (by decide) (fm_dec dtX11_work 72 rfl) ?_
  refine pv_iconst (pc := 139) (v := 1) (by decide) (fm_dec dtX11_work 73 rfl) ?_
  refine pv_iadd (pc := 140) (fm_dec dtX11_work 74 rfl) ?_
  refine pv_putI (k := 0) (j := 32) (ci := 11) (pc := 141) pfl_X11_200 (by decide) rfl (by decide) (fm_dec dtX11_work 75 rfl) ?_
  refine pv_aloadn (pc := 144) (n := 0) 0 rfl rfl (fm_dec dtX11_work 76 rfl) ?_
  refine pv_iconst (pc := 145) (v := 0) (by decide) (fm_dec dtX11_work 77 rfl) ?_
  refine pv_putI (k := 0) (j := 36) (ci := 11) (pc := 146) pfl_X11_310 (by decide) rfl (by decide) (fm_dec dtX11_work 78 rfl) ?_
  refine pv_aloadn (pc := 149) (n := 0) 0 rfl rfl (fm_dec dtX11_work 79 rfl) ?_
  refine pv_iconst (pc := 150) (v := 0) (by decide) (fm_dec dtX11_work 80 rfl) ?_
  refine pv_putI (k := 0) (j := 37) (ci := 11) (pc := 151) pfl_X11_320 (by decide) rfl (by decide) (fm_dec dtX11_work 81 rfl) ?_
  refine pv_aloadn (pc := 154) (n := 0) 0 rfl rfl (fm_dec dtX11_work 82 rfl) ?_
  refine pv_iconst (pc := 155) (v := 0) (by decide) (fm_dec dtX11_work 83 rfl) ?_
  refine pv_putI (k := 0) (j := 33) (ci := 11) (pc := 156) pfl_X11_203 (by decide) rfl (by decide) (fm_dec dtX11_work 84 rfl) ?_
  have h32 : M131.1 0 32 = M.1 0 32 := (f131 0 32 rfl).1
  have hI5 : scInv Tm invM (wkM M131) := (by unfold wkM; refine inv_c0g (inv_c0g (inv_c0g (hI131.put (k := 0) (j := 32) ?_ rfl) (Or.inr (Or.inl rfl))) (Or.inr (Or.inr rfl))) (Or.inl rfl); rw [h32]; have h9 := i32_p1 hw (by omega); exact ⟨by show (0 : Int) ≤ _; omega, by show _ ≤ (16 : Int); omega⟩)
  have ek : ∀ k j, k ≠ 0 → k < 503 → (wkM M131).1 k j = M.1 k j := fun k j h0 h1 => (by unfold wkM; rw [fmI_k _ _ h0, fmI_k _ _ h0, fmI_k _ _ h0, fmI_k _ _ h0, (f131 k j (cpW_k h1)).1, fmI_k _ _ h0])
  have e26 : (wkM M131).1 0 26 = M.1 0 26 := (by unfold wkM; rw [fmI_j _ _ (by decide), fmI_j _ _ (by decide), fmI_j _ _ (by decide), fmI_j _ _ (by decide), (f131 0 26 rfl).1, fmI_j _ _ (by decide)])
  have hG5 : gSt (wkM M131) ss.length l 0 := gSt_of (hR.of (by omega) (fun k j a b => ek k j (by omega) b)) hO hn hl (by rw [ek 4 0 (by decide) (by decide)]; exact h4) hI5 rfl
  refine pv_aloadn (pc := 159) (n := 0) 0 rfl rfl (fm_dec dtX11_work 85 rfl) ?_
  refine pv_iconst (pc := 160) (v := 0) (by decide) (fm_dec dtX11_work 86 rfl) ?_
  refine pv_aloadn (pc := 161) (n := 0) 0 rfl rfl (fm_dec dtX11_work 87 rfl) ?_
  refine pv_getI (k := 0) (j := 26) (ci := 11) (pc := 162) pfl_X11_250 (by decide) rfl (by decide) (fm_dec dtX11_work 88 rfl) ?_
  refine pv_invV2 (k := 0) (d' := (12 + 200)) (pc := 165) pcv_X11_313 (by decide) rfl (Nat.le_of_ble_eq_true rfl) (by omega) (fm_dec dtX11_work 89 rfl) ?_
  refine gs_G (gs_P 200) _ _ ss.length l 0 0 ss.length 0 _ hG5 (by omega) (by decide) ((congrArg Int32.toInt e26).trans h26) (Nat.le_refl _) (fun M165 g165 hI165 f165 hg165 _ _ => ?_) 
  refine pv_then0 ?_
  refine pv_aloadn (pc := 168) (n := 0) 0 rfl rfl (fm_dec dtX11_work 90 rfl) ?_
  refine pv_getI (k := 0) (j := 37) (ci := 11) (pc := 169) pfl_X11_320 (by decide) rfl (by decide) (fm_dec dtX11_work 91 rfl) ?_
  exact pv_ireturn (pc := 172) rfl (fm_dec dtX11_work 92 rfl) (hq _ M165 hI165)
set_option maxRecDepth 20000 in
theorem t_work {M : fmM} {Q : fmR → fmM → Prop} {nn : Int32} (hI : scInv Tm invM M) (hq : ∀ (r : fmR) (M' : fmM), tI r → scInv Tm invM M' → Q r M') : pvGood Tm 213 qX11_work [.ref 0, .int nn] M Q := by
  refine pvGood_of (Nat.le_of_ble_eq_true rfl) ?_
  show pvEv Tm 213 qX11_work 0 [some (.ref 0), some (.int nn)] [] M Q
  obtain ⟨l, h4, hl⟩ := told8 hI
  obtain ⟨w, hw, hw16⟩ := works16 hI
  have hI0 := hI.p00 (x := 0) (Or.inl rfl)
  have hfed := inv_fed hI
  refine pv_aloadn (pc := 0) (n := 0) 0 rfl rfl (fm_dec dtX11_work 0 rfl) ?_
  refine pv_iconst (pc := 1) (v := 0) (by decide) (fm_dec dtX11_work 1 rfl) ?_
  refine pv_putI (k := 0) (j := 0) (ci := 11) (pc := 2) pfl_X11_101 (by decide) rfl (by decide) (fm_dec dtX11_work 2 rfl) ?_
  refine pv_aloadn (pc := 5) (n := 0) 0 rfl rfl (fm_dec dtX11_work 3 rfl) ?_
  refine pv_iloadn (pc := 6) (n := 1) 1 rfl rfl (fm_dec dtX11_work 4 rfl) ?_
  refine pv_iconst (pc := 7) (v := 0) (by decide) (fm_dec dtX11_work 5 rfl) ?_
  refine pv_aloadn (pc := 8) (n := 0) 0 rfl rfl (fm_dec dtX11_work 6 rfl) ?_
  refine pv_getI (k := 0) (j := 1) (ci := 11) (pc := 9) pfl_X11_104 (by decide) rfl (by decide) (fm_dec dtX11_work 7 rfl) ?_
  refine pv_iS3 (d' := 0) (pc := 12) pcs_X11_135 (Nat.le_of_ble_eq_true rfl) (by decide) (fm_dec dtX11_work 8 rfl) ?_
  refine c_in (fun h12a h12b => ?_) (fun h12 => ?_)
  · refine pv_then1 ?_
    refine pv_if_eq (pc := 15) 25 (by decide) (fm_dec dtX11_work 9 rfl) (fun hc15 => by exfalso; revert hc15; decide) (fun _ => ?_)
    refine pv_iloadn (pc := 18) (n := 1) 1 rfl rfl (fm_dec dtX11_work 10 rfl) ?_
    refine pv_sipush (pc := 19) (v := 150) (by decide) (fm_dec dtX11_work 11 rfl) ?_
    refine pv_icmp_le (pc := 22) 29 (by decide) (fm_dec dtX11_work 12 rfl) (fun hc22 => ?_) (fun hc22 => ?_)
    · refine pv_iconst (pc := 29) (v := 0) (by decide) (fm_dec dtX11_work 15 rfl) ?_
      refine pv_iconst (pc := 30) (v := 1) (by decide) (fm_dec dtX11_work 16 rfl) ?_
      refine pv_iconst (pc := 31) (v := 1) (by decide) (fm_dec dtX11_work 17 rfl) ?_
      refine pv_invV3 (k := 0) (d' := 0) (pc := 32) pcv_X11_177 (by decide) rfl (Nat.le_of_ble_eq_true rfl) (by decide) (fm_dec dtX11_work 18 rfl) ?_
      refine c_badF1 rfl ?_
      refine pv_then1 ?_
      refine pv_if_eq (pc := 35) 40 (by decide) (fm_dec dtX11_work 19 rfl) (fun _ => ?_) (fun hc35 => by exfalso; revert hc35; decide)
      refine pv_aloadn (pc := 40) (n := 0) 0 rfl rfl (fm_dec dtX11_work 22 rfl) ?_
      refine pv_getI (k := 0) (j := 32) (ci := 11) (pc := 41) pfl_X11_200 (by decide) rfl (by decide) (fm_dec dtX11_work 23 rfl) ?_
      refine pv_bipush (pc := 44) (v := 16) (by decide) (fm_dec dtX11_work 24 rfl) ?_
      refine pv_icmp_ne (pc := 46) 62 (by decide) (fm_dec dtX11_work 25 rfl) (fun hc46 => ?_) (fun hc46 => ?_)
      · obtain ⟨n0, hn0⟩ : ∃ n0 : Nat, nn.toInt = n0 := ⟨nn.toInt.toNat, by have h9 : (0 : Int32).toInt = 0 := (by decide); omega⟩
        have hn150 : n0 ≤ 150 := (by have h9 := hc22; rw [sc_le] at h9; have h8 : (150 : Int32).toInt = 150 := (by decide); omega)
        have hn6 : n0 ≤ 600 := (by omega)
        refine pv_aloadn (pc := 62) (n := 0) 0 rfl rfl (fm_dec dtX11_work 34 rfl) ?_
        refine pv_iloadn (pc := 63) (n := 1) 1 rfl rfl (fm_dec dtX11_work 35 rfl) ?_
        refine pv_invV1 (k := 0) (d' := 2) (pc := 64) pcv_X11_181 (by decide) rfl (Nat.le_of_ble_eq_true rfl) (by omega) (fm_dec dtX11_work 36 rfl) ?_
        refine c_starts (n := n0) (M := fmI M 0 0 0) hfed hn6 hn0 (fun M64 h64 => ?_) 
        refine pv_then0 ?_
        refine pv_aloadn (pc := 67) (n := 0) 0 rfl rfl (fm_dec dtX11_work 37 rfl) ?_
        refine pv_iconst (pc := 68) (v := 0) (by decide) (fm_dec dtX11_work 38 rfl) ?_
        refine pv_putI (k := 0) (j := 26) (ci := 11) (pc := 69) pfl_X11_250 (by decide) rfl (by decide) (fm_dec dtX11_work 39 rfl) ?_
        have hI64 := inv_st hI h64
        have hok9 := rT_ok (n := n0) hfed hn6
        have hs0 : sk (rT M n0) 0 ≤ n0 := sp_le tB_1 hok9 (Nat.zero_le _)
        have hIs : scInv Tm invM (fmI M64 0 26 0) := hI64.put (scq_t 0) rfl
        have h4s : ((fmI M64 0 26 0).1 4 0).toInt = l := (by rw [fmI_k _ _ (by decide), st_k h64 (by decide)]; exact h4)
        have hP : srPre (fmI M64 0 26 0) (rT M n0) n0 (sk (rT M n0) 0) 0 0 l := ⟨h64.1.of rfl rfl rfl, h64.2.1, (by show (M64.1 0 8).toInt = _; rw [h64.2.2.1]; decide), by decide, (by rw [fmI_s]; decide), by omega, hn150, h4s, hl⟩
        have hbd := fun e he => wkL_bad hok9 hn150 700 0 (sk (rT M n0) 0) e hs0 (by omega) he (l := l)
        refine wk_loop (l := l) 700 0 _ _ hP (fun a h9 => by have h8 := (hbd _ h9).1.2; exact absurd h8 (show ¬ 9 ≤ 3 by decide)) (fun M2 ss q e h => ?_) (fun M2 k a e hB => ?_)
        · have g := wkL_ok hok9 700 0 _ ss hs0 e
          refine wk_e0 (l := l) (w := w) h.2.1 (inv_sr hIs h.2.2.2.2.2) (by rw [h.2.2.2.2.2.2.1 32 (by decide) (by decide) (by decide) (by decide) (by decide), fmI_j _ _ (by decide), st_j h64 (by decide)]; exact hw) (by have h9 : ¬ w = 16 := (fun h9 => hc46 (i32_ext (hw.trans (by rw [h9]; decide)))); omega) h.2.2.2.2.1 g.1 (by omega) hl (by rw [h.2.2.2.2.2.1 4 0 (by decide) (by omega)]; exact h4s) (by rw [h.2.2.2.1]; congr 1; omega) (fun n M9 h9 => hq _ _ ⟨n, rfl⟩ h9)
        · have hk := hbd _ e
          refine wk_e1 hB.nz (hq _ _ ⟨_, rfl⟩ ((inv_sr hIs hB.2.2.2.2).put (k := 0) (j := 3) ?_ rfl))
          rw [hB.2.2.1]
          exact ⟨by show (-1 : Int) ≤ _; omega, by show _ ≤ (600 : Int); have h9 : a ≤ n0 := hk.2; omega⟩
      · refine pv_aloadn (pc := 49) (n := 0) 0 rfl rfl (fm_dec dtX11_work 26 rfl) ?_
        refine pv_iconst (pc := 50) (v := 0) (by decide) (fm_dec dtX11_work 27 rfl) ?_
        refine pv_putI (k := 0) (j := 1) (ci := 11) (pc := 51) pfl_X11_104 (by decide) rfl (by decide) (fm_dec dtX11_work 28 rfl) ?_
        refine pv_aloadn (pc := 54) (n := 0) 0 rfl rfl (fm_dec dtX11_work 29 rfl) ?_
        refine pv_iconst (pc := 55) (v := (-1)) (by decide) (fm_dec dtX11_work 30 rfl) ?_
        refine pv_putI (k := 0) (j := 3) (ci := 11) (pc := 56) pfl_X11_9 (by decide) rfl (by decide) (fm_dec dtX11_work 31 rfl) ?_
        refine pv_bipush (pc := 59) (v := (-20)) (by decide) (fm_dec dtX11_work 32 rfl) ?_
        exact pv_ireturn (pc := 61) rfl (fm_dec dtX11_work 33 rfl) (hq _ _ ⟨_, rfl⟩ ((hI0.put (k := 0) (j := 1) (x := 0) (by decide) rfl).put (k := 0) (j := 3) (x := -1) (by decide) rfl))
    · refine pv_iconst (pc := 25) (v := 1) (by decide) (fm_dec dtX11_work 13 rfl) ?_
      refine pv_goto (pc := 26) 30 (by decide) (fm_dec dtX11_work 14 rfl) ?_
      refine pv_iconst (pc := 30) (v := 1) (by decide) (fm_dec dtX11_work 16 rfl) ?_
      refine pv_iconst (pc := 31) (v := 1) (by decide) (fm_dec dtX11_work 17 rfl) ?_
      refine pv_invV3 (k := 0) (d' := 0) (pc := 32) pcv_X11_177 (by decide) rfl (Nat.le_of_ble_eq_true rfl) (by decide) (fm_dec dtX11_work 18 rfl) ?_
      refine c_badT1 rfl (by decide) ?_
      refine pv_then1 ?_
      refine pv_if_eq (pc := 35) 40 (by decide) (fm_dec dtX11_work 19 rfl) (fun hc35 => by exfalso; revert hc35; decide) (fun _ => ?_)
      refine pv_iconst (pc := 38) (v := 0) (by decide) (fm_dec dtX11_work 20 rfl) ?_
      exact pv_ireturn (pc := 39) rfl (fm_dec dtX11_work 21 rfl) (hq _ _ ⟨_, rfl⟩ (inv_rf hI (Or.inr (Or.inl rfl))))
  · refine pv_then1 ?_
    refine pv_if_eq (pc := 15) 25 (by decide) (fm_dec dtX11_work 9 rfl) (fun _ => ?_) (fun hc15 => by exfalso; revert hc15; decide)
    refine pv_iconst (pc := 25) (v := 1) (by decide) (fm_dec dtX11_work 13 rfl) ?_
    refine pv_goto (pc := 26) 30 (by decide) (fm_dec dtX11_work 14 rfl) ?_
    refine pv_iconst (pc := 30) (v := 1) (by decide) (fm_dec dtX11_work 16 rfl) ?_
    refine pv_iconst (pc := 31) (v := 1) (by decide) (fm_dec dtX11_work 17 rfl) ?_
    refine pv_invV3 (k := 0) (d' := 0) (pc := 32) pcv_X11_177 (by decide) rfl (Nat.le_of_ble_eq_true rfl) (by decide) (fm_dec dtX11_work 18 rfl) ?_
    refine c_badT1 rfl (by decide) ?_
    refine pv_then1 ?_
    refine pv_if_eq (pc := 35) 40 (by decide) (fm_dec dtX11_work 19 rfl) (fun hc35 => by exfalso; revert hc35; decide) (fun _ => ?_)
    refine pv_iconst (pc := 38) (v := 0) (by decide) (fm_dec dtX11_work 20 rfl) ?_
    exact pv_ireturn (pc := 39) rfl (fm_dec dtX11_work 21 rfl) (hq _ _ ⟨_, rfl⟩ (inv_rf hI (Or.inr (Or.inl rfl))))
end
-- P 12x
section
theorem scEk.n0 : scEk [] [] := ⟨rfl, fun n e x he hx => by cases he⟩
theorem scEk.c1 {env : List scI} {σ : List Int} {lo hi x : Int} (hb : lo ≤ x ∧ x ≤ hi) (h : scEk env σ) : scEk ((lo, hi) :: env) (x :: σ) := ⟨by simp [h.1], fun n e y he hy => by
  cases n with
  | zero =>
    cases he
    cases hy
    exact hb
  | succ n => exact h.2 n e y he hy⟩
theorem scEv.at {σ : List Int} {i : Nat} {x : Int} (h : σ[i]? = some x) : scEv σ (some i, 0) x := ⟨x, h, (Int.add_zero x).symm⟩
theorem s_peek {M : fmM} {Q : fmR → fmM → Prop}  (hI : scInv Tx invX M) (q0 : ∀ (n : Int32) (M' : fmM), (0 ≤ n.toInt ∧ n.toInt ≤ 255) → (0 ≤ (M'.1 1 3).toInt ∧ (M'.1 1 3).toInt ≤ 599) → scInv Tx invX M' → scFr [(1, 3, 1)] M M' → Q (.inl (some (.int n))) M') (q1 : ∀ (n : Int32) (M' : fmM), ((-1) ≤ n.toInt ∧ n.toInt ≤ (-1)) → (0 ≤ (M'.1 1 3).toInt ∧ (M'.1 1 3).toInt ≤ 600) → scInv Tx invX M' → scFr [(1, 3, 1)] M M' → Q (.inl (some (.int n))) M') : pvGood Tx 0 qX7_peek [.ref 1] M Q := (hh_X7_peek_0 M [] [.ref 1] scEk.n0 ⟨⟨1, by simp, rfl⟩, trivial⟩ (fun f hf => by cases hf) hI).imp (fun r M' h => by
  obtain ⟨⟨o, ho, hr, hf9, hm⟩, h1, h2⟩ := h
  rcases List.mem_cons.mp ho with rfl | ho
  · obtain ⟨n, rfl, c1, c2⟩ := hr; exact q0 n M' ⟨c1, c2⟩ (have h9 := hm _ List.mem_cons_self; h9) h1 h2
  rcases List.mem_cons.mp ho with rfl | ho
  · obtain ⟨n, rfl, c1, c2⟩ := hr; exact q1 n M' ⟨c1, c2⟩ (have h9 := hm _ List.mem_cons_self; h9) h1 h2
  · cases ho)
theorem s_next {M : fmM} {Q : fmR → fmM → Prop}  (hI : scInv Tx invX M) (q0 : ∀ (n : Int32) (M' : fmM), (0 ≤ n.toInt ∧ n.toInt ≤ 600) → scInv Tx invX M' → scFr [(1, 3, 1)] M M' → Q (.inl (some (.int n))) M') : pvGood Tx 1 qX7_nextPlace [.ref 1] M Q := (hh_X7_nextPlace_0 M [] [.ref 1] scEk.n0 ⟨⟨1, by simp, rfl⟩, trivial⟩ (fun f hf => by cases hf) hI).imp (fun r M' h => by
  obtain ⟨⟨o, ho, hr, hf9, hm⟩, h1, h2⟩ := h
  rcases List.mem_cons.mp ho with rfl | ho
  · obtain ⟨n, rfl, c1, c2⟩ := hr; exact q0 n M' ⟨c1, c2⟩ h1 h2
  · cases ho)
theorem s_sign59 {M : fmM} {Q : fmR → fmM → Prop} {x1 : Int32} (bx1 : 59 ≤ x1.toInt ∧ x1.toInt ≤ 59) (hI : scInv Tx invX M) (q0 : ∀ (n : Int32) (M' : fmM), (0 ≤ n.toInt ∧ n.toInt ≤ 1) → scInv Tx invX M' → scFr [(1, 3, 3)] M M' → Q (.inl (some (.int n))) M') : pvGood Tx 1 qX7_takeSign [.ref 1, .int x1] M Q := (hh_X7_takeSign_0 M [x1.toInt] [.ref 1, .int x1] (scEk.c1 bx1 scEk.n0) ⟨⟨1, by simp, rfl⟩, ⟨x1, rfl, scEv.at rfl⟩, trivial⟩ (fun f hf => by cases hf) hI).imp (fun r M' h => by
  obtain ⟨⟨o, ho, hr, hf9, hm⟩, h1, h2⟩ := h
  rcases List.mem_cons.mp ho with rfl | ho
  · obtain ⟨n, rfl, c1, c2⟩ := hr; exact q0 n M' ⟨c1, c2⟩ h1 h2
  · cases ho)
theorem s_sign9 {M : fmM} {Q : fmR → fmM → Prop} {x1 : Int32} (bx1 : 80 ≤ x1.toInt ∧ x1.toInt ≤ 99) (hI : scInv Tx invX M) (q0 : ∀ (n : Int32) (M' : fmM), (0 ≤ n.toInt ∧ n.toInt ≤ 1) → scInv Tx invX M' → scFr [(1, 3, 3)] M M' → Q (.inl (some (.int n))) M') : pvGood Tx 1 qX7_takeSign [.ref 1, .int x1] M Q := (hh_X7_takeSign_1 M [x1.toInt] [.ref 1, .int x1] (scEk.c1 bx1 scEk.n0) ⟨⟨1, by simp, rfl⟩, ⟨x1, rfl, scEv.at rfl⟩, trivial⟩ (fun f hf => by cases hf) hI).imp (fun r M' h => by
  obtain ⟨⟨o, ho, hr, hf9, hm⟩, h1, h2⟩ := h
  rcases List.mem_cons.mp ho with rfl | ho
  · obtain ⟨n, rfl, c1, c2⟩ := hr; exact q0 n M' ⟨c1, c2⟩ h1 h2
  · cases ho)
theorem s_num7 {M : fmM} {Q : fmR → fmM → Prop} {x1 : Int32} (bx1 : 0 ≤ x1.toInt ∧ x1.toInt ≤ 0) {x2 : Int32} (bx2 : (-1) ≤ x2.toInt ∧ x2.toInt ≤ 7) (hI : scInv Tx invX M) (q0 : ∀ (n : Int32) (M' : fmM), (0 ≤ n.toInt ∧ n.toInt ≤ 7) → (0 ≤ (M'.1 1 4).toInt ∧ (M'.1 1 4).toInt ≤ 3) → scInv Tx invX M' → scFr [(1, 3, 3)] M M' → Q (.inl (some (.int n))) M') (q1 : ∀ (n : Int32) (M' : fmM), ((-1) ≤ n.toInt ∧ n.toInt ≤ (-1)) → (1 ≤ (M'.1 1 4).toInt ∧ (M'.1 1 4).toInt ≤ 3) → scInv Tx invX M' → scFr [(1, 3, 3)] M M' → Q (.inl (some (.int n))) M') : pvGood Tx 2 qX7_takeNumber [.ref 1, .int x1, .int x2] M Q := (hh_X7_takeNumber_7 M [x1.toInt, x2.toInt, (M.1 1 4).toInt] [.ref 1, .int x1, .int x2] (scEk.c1 bx1 (scEk.c1 bx2 (scEk.c1 (hI.1 1 4 (by decide)) scEk.n0))) ⟨⟨1, by simp, rfl⟩, ⟨x1, rfl, scEv.at rfl⟩, ⟨x2, rfl, scEv.at rfl⟩, trivial⟩ (fun f hf => by rw [List.mem_singleton.mp hf]; exact scEv.at rfl) hI).imp (fun r M' h => by
  obtain ⟨⟨o, ho, hr, hf9, hm⟩, h1, h2⟩ := h
  rcases List.mem_cons.mp ho with rfl | ho
  · obtain ⟨n, rfl, c1, c2⟩ := hr; exact q0 n M' ⟨c1, c2⟩ (have h9 := hm _ List.mem_cons_self; h9) h1 h2
  rcases List.mem_cons.mp ho with rfl | ho
  · obtain ⟨n, rfl, c1, c2⟩ := hr; exact q1 n M' ⟨c1, c2⟩ (have h9 := hm _ List.mem_cons_self; h9) h1 h2
  · cases ho)
theorem s_num20 {M : fmM} {Q : fmR → fmM → Prop} {x1 : Int32} (bx1 : 0 ≤ x1.toInt ∧ x1.toInt ≤ 0) {x2 : Int32} (bx2 : 20 ≤ x2.toInt ∧ x2.toInt ≤ 20) (hI : scInv Tx invX M) (q0 : ∀ (n : Int32) (M' : fmM), (0 ≤ n.toInt ∧ n.toInt ≤ 20) → (0 ≤ (M'.1 1 4).toInt ∧ (M'.1 1 4).toInt ≤ 3) → scInv Tx invX M' → scFr [(1, 3, 3)] M M' → Q (.inl (some (.int n))) M') (q1 : ∀ (n : Int32) (M' : fmM), ((-1) ≤ n.toInt ∧ n.toInt ≤ (-1)) → (1 ≤ (M'.1 1 4).toInt ∧ (M'.1 1 4).toInt ≤ 3) → scInv Tx invX M' → scFr [(1, 3, 3)] M M' → Q (.inl (some (.int n))) M') : pvGood Tx 2 qX7_takeNumber [.ref 1, .int x1, .int x2] M Q := (hh_X7_takeNumber_21 M [x1.toInt, x2.toInt, (M.1 1 4).toInt] [.ref 1, .int x1, .int x2] (scEk.c1 bx1 (scEk.c1 bx2 (scEk.c1 (hI.1 1 4 (by decide)) scEk.n0))) ⟨⟨1, by simp, rfl⟩, ⟨x1, rfl, scEv.at rfl⟩, ⟨x2, rfl, scEv.at rfl⟩, trivial⟩ (fun f hf => by rw [List.mem_singleton.mp hf]; exact scEv.at rfl) hI).imp (fun r M' h => by
  obtain ⟨⟨o, ho, hr, hf9, hm⟩, h1, h2⟩ := h
  rcases List.mem_cons.mp ho with rfl | ho
  · obtain ⟨n, rfl, c1, c2⟩ := hr; exact q0 n M' ⟨c1, c2⟩ (have h9 := hm _ List.mem_cons_self; h9) h1 h2
  rcases List.mem_cons.mp ho with rfl | ho
  · obtain ⟨n, rfl, c1, c2⟩ := hr; exact q1 n M' ⟨c1, c2⟩ (have h9 := hm _ List.mem_cons_self; h9) h1 h2
  · cases ho)
theorem s_failed {M : fmM} {Q : fmR → fmM → Prop}  (hI : scInv Tx invX M) (q0 : ∀ (n : Int32) (M' : fmM), (0 ≤ n.toInt ∧ n.toInt ≤ 0) → (0 ≤ (M'.1 1 4).toInt ∧ (M'.1 1 4).toInt ≤ 0) → scInv Tx invX M' → scFr [] M M' → Q (.inl (some (.int n))) M') (q1 : ∀ (n : Int32) (M' : fmM), (1 ≤ n.toInt ∧ n.toInt ≤ 1) → (1 ≤ (M'.1 1 4).toInt ∧ (M'.1 1 4).toInt ≤ 3) → scInv Tx invX M' → scFr [] M M' → Q (.inl (some (.int n))) M') : pvGood Tx 0 qX7_failed [.ref 1] M Q := (hh_X7_failed_1 M [(M.1 1 4).toInt] [.ref 1] (scEk.c1 (hI.1 1 4 (by decide)) scEk.n0) ⟨⟨1, by simp, rfl⟩, trivial⟩ (fun f hf => by rw [List.mem_singleton.mp hf]; exact scEv.at rfl) hI).imp (fun r M' h => by
  obtain ⟨⟨o, ho, hr, hf9, hm⟩, h1, h2⟩ := h
  rcases List.mem_cons.mp ho with rfl | ho
  · obtain ⟨n, rfl, c1, c2⟩ := hr; exact q0 n M' ⟨c1, c2⟩ (have h9 := hm _ List.mem_cons_self; h9) h1 h2
  rcases List.mem_cons.mp ho with rfl | ho
  · obtain ⟨n, rfl, c1, c2⟩ := hr; exact q1 n M' ⟨c1, c2⟩ (have h9 := hm _ List.mem_cons_self; h9) h1 h2
  · cases ho)
theorem s_fail3 {M : fmM} {Q : fmR → fmM → Prop} {x1 : Int32} (bx1 : 3 ≤ x1.toInt ∧ x1.toInt ≤ 3) {x2 : Int32} (bx2 : 0 ≤ x2.toInt ∧ x2.toInt ≤ 600) (hI : scInv Tx invX M) (q0 : ∀ (n : Int32) (M' : fmM), (0 ≤ n.toInt ∧ n.toInt ≤ 0) → (1 ≤ (M'.1 1 4).toInt ∧ (M'.1 1 4).toInt ≤ 3) → scInv Tx invX M' → scFr [(1, 4, 2)] M M' → Q (.inl (some (.int n))) M') : pvGood Tx 0 qX7_fail [.ref 1, .int x1, .int x2] M Q := (hh_X7_fail_4 M [x1.toInt, x2.toInt, (M.1 1 4).toInt] [.ref 1, .int x1, .int x2] (scEk.c1 bx1 (scEk.c1 bx2 (scEk.c1 (hI.1 1 4 (by decide)) scEk.n0))) ⟨⟨1, by simp, rfl⟩, ⟨x1, rfl, scEv.at rfl⟩, ⟨x2, rfl, scEv.at rfl⟩, trivial⟩ (fun f hf => by rw [List.mem_singleton.mp hf]; exact scEv.at rfl) hI).imp (fun r M' h => by
  obtain ⟨⟨o, ho, hr, hf9, hm⟩, h1, h2⟩ := h
  rcases List.mem_cons.mp ho with rfl | ho
  · obtain ⟨n, rfl, c1, c2⟩ := hr; exact q0 n M' ⟨c1, c2⟩ (have h9 := hm _ List.mem_cons_self; h9) h1 h2
  · cases ho)
theorem s_word {M : fmM} {Q : fmR → fmM → Prop}  (hI : scInv Tx invX M) (q0 : ∀ (n : Int32) (M' : fmM), ((-1) ≤ n.toInt ∧ n.toInt ≤ 4) → scInv Tx invX M' → scFr [(1, 3, 3)] M M' → Q (.inl (some (.int n))) M') : pvGood Tx 5 qX7_takeWord [.ref 1, .ref (1000 + 4)] M Q := (hh_X7_takeWord_2 M [] [.ref 1, .ref (1000 + 4)] scEk.n0 ⟨⟨1, by simp, rfl⟩, rfl, trivial⟩ (fun f hf => by cases hf) hI).imp (fun r M' h => by
  obtain ⟨⟨o, ho, hr, hf9, hm⟩, h1, h2⟩ := h
  rcases List.mem_cons.mp ho with rfl | ho
  · obtain ⟨n, rfl, c1, c2⟩ := hr; exact q0 n M' ⟨c1, c2⟩ h1 h2
  · cases ho)
theorem s_pstep {M : fmM} {Q : fmR → fmM → Prop} {x2 : Int32} (bx2 : 0 ≤ x2.toInt ∧ x2.toInt ≤ 7) {x3 : Int32} (bx3 : 0 ≤ x3.toInt ∧ x3.toInt ≤ 7) (hI : scInv Tx invX M) (q0 : ∀ (n : Int32) (M' : fmM), (0 ≤ n.toInt ∧ n.toInt ≤ 1) → scInv Tx invX M' → scFr [(26, 0, 24), (47, 1, 6), (48, 0, 8)] M M' → Q (.inl (some (.int n))) M') : pvGood Tx 5 qX9_performStep [.ref 32, .ref 47, .int x2, .int x3] M Q := (hh_X9_performStep_0 M [x2.toInt, x3.toInt] [.ref 32, .ref 47, .int x2, .int x3] (scEk.c1 bx2 (scEk.c1 bx3 scEk.n0)) ⟨⟨32, by simp, rfl⟩, ⟨47, by simp, rfl⟩, ⟨x2, rfl, scEv.at rfl⟩, ⟨x3, rfl, scEv.at rfl⟩, trivial⟩ (fun f hf => by cases hf) hI).imp (fun r M' h => by
  obtain ⟨⟨o, ho, hr, hf9, hm⟩, h1, h2⟩ := h
  rcases List.mem_cons.mp ho with rfl | ho
  · obtain ⟨n, rfl, c1, c2⟩ := hr; exact q0 n M' ⟨c1, c2⟩ h1 h2
  · cases ho)
theorem s_keepx {M : fmM} {Q : fmR → fmM → Prop}  (hI : scInv Tx invX M) (q0 : ∀ M' : fmM, scInv Tx invX M' → scFr [(46, 2, 1), (50, 1, 6), (51, 1, 6), (52, 1, 6), (53, 1, 6), (54, 1, 6), (55, 1, 6), (56, 1, 6), (57, 1, 6), (58, 1, 6), (59, 1, 6), (60, 1, 6), (61, 1, 6), (62, 1, 6), (63, 1, 6), (64, 1, 6), (65, 1, 6), (66, 0, 8), (67, 0, 8), (68, 0, 8), (69, 0, 8), (70, 0, 8), (71, 0, 8), (72, 0, 8), (73, 0, 8), (74, 0, 8), (75, 0, 8), (76, 0, 8), (77, 0, 8), (78, 0, 8), (79, 0, 8), (80, 0, 8), (81, 0, 8)] M M' → Q (.inl none) M') : pvGood Tx 1 qX5_keep [.ref 46] M Q := (hh_X5_keep_0 M [] [.ref 46] scEk.n0 ⟨⟨46, by simp, rfl⟩, trivial⟩ (fun f hf => by cases hf) hI).imp (fun r M' h => by
  obtain ⟨⟨o, ho, hr, hf9, hm⟩, h1, h2⟩ := h
  rcases List.mem_cons.mp ho with rfl | ho
  · have hr : r = .inl none := hr; subst hr; exact q0 M' h1 h2
  · cases ho)
theorem s_open {M : fmM} {Q : fmR → fmM → Prop} {x1 : Int32} (bx1 : (-2147483648) ≤ x1.toInt ∧ x1.toInt ≤ 2147483647) {x2 : Int32} (bx2 : (-2147483648) ≤ x2.toInt ∧ x2.toInt ≤ 2147483647) (hI : scInv Tx invX M) (q0 : ∀ M' : fmM, scInv Tx invX M' → scFr [(0, 16, 1), (1, 1, 5)] M M' → Q (.inl none) M') (q1 : ∀ M' : fmM, scInv Tx invX M' → scFr [(0, 16, 1), (1, 1, 5)] M M' → Q (.inr fmIAE) M') : pvGood Tx 1 qX10_openText [.ref 0, .int x1, .int x2] M Q := (hh_X10_openText_0 M [x1.toInt, x2.toInt] [.ref 0, .int x1, .int x2] (scEk.c1 bx1 (scEk.c1 bx2 scEk.n0)) ⟨⟨0, by simp, rfl⟩, ⟨x1, rfl, scEv.at rfl⟩, ⟨x2, rfl, scEv.at rfl⟩, trivial⟩ (fun f hf => by cases hf) hI).imp (fun r M' h => by
  obtain ⟨⟨o, ho, hr, hf9, hm⟩, h1, h2⟩ := h
  rcases List.mem_cons.mp ho with rfl | ho
  · have hr : r = .inl none := hr; subst hr; exact q0 M' h1 h2
  rcases List.mem_cons.mp ho with rfl | ho
  · have hr : r = .inr fmIAE := hr; subst hr; exact q1 M' h1 h2
  · cases ho)
theorem s_forget {M : fmM} {Q : fmR → fmM → Prop}  (hI : scInv Tx invX M) (q0 : ∀ M' : fmM, scInv Tx invX M' → scFr [(34, 5, 1)] M M' → Q (.inl none) M') : pvGood Tx 0 qX3_forget [.ref 34] M Q := (hh_X3_forget_0 M [] [.ref 34] scEk.n0 ⟨⟨34, by simp, rfl⟩, trivial⟩ (fun f hf => by cases hf) hI).imp (fun r M' h => by
  obtain ⟨⟨o, ho, hr, hf9, hm⟩, h1, h2⟩ := h
  rcases List.mem_cons.mp ho with rfl | ho
  · have hr : r = .inl none := hr; subst hr; exact q0 M' h1 h2
  · cases ho)
-- THE CLASS WORKS: safe whatever is read
abbrev xrW : List (Nat × Nat × Nat) := [(1, 3, 3), (28, 3, 1), (29, 0, 150), (30, 0, 150), (31, 0, 150)]
abbrev pfW : List (Nat × Nat × Nat) := [(26, 0, 24), (28, 4, 3), (47, 1, 6), (48, 0, 8)]
theorem xInv.put {M : fmM} {k j : Nat} {x : Int32} (hI : scInv Tx invX M) (hb : (scAt (invX k) j).1 ≤ x.toInt ∧ x.toInt ≤ (scAt (invX k) j).2) : scInv Tx invX (fmI M k j x) := by
  refine ⟨fun k' j' hj => ?_, fun hm => absurd hm (by decide)⟩
  rw [fmI_at]
  by_cases e : k' = k ∧ j' = j
  · rw [if_pos e, e.1, e.2]
    exact hb
  · rw [if_neg e]
    exact hI.1 k' j' hj
theorem xi_29 (j : Nat) : scAt (invX 29) j = (0, 4) := rfl
theorem xi_30 (j : Nat) : scAt (invX 30) j = (-1, 20) := rfl
theorem xi_31 (j : Nat) : scAt (invX 31) j = (0, 150) := rfl
def xE (M : fmM) (i z : Nat) : Prop := ((M.1 29 i).toInt = 4 → (M.1 31 i).toInt ≤ (z : Int)) ∧ (¬ (M.1 29 i).toInt = 4 → 0 ≤ (M.1 30 i).toInt ∧ (M.1 30 i).toInt ≤ 7)
def xS (M : fmM) (a z : Nat) : Prop := ∀ i, a ≤ i → i < z → xE M i z
def xK (M M' : fmM) (z : Nat) : Prop := ∀ k i, k = 29 ∨ k = 30 ∨ k = 31 → i < z → M'.1 k i = M.1 k i
def xT (M M' : fmM) : Prop := ∀ k j, k ≠ 1 → M'.1 k j = M.1 k j
def xR (M M' : fmM) (z : Nat) : Prop := ∃ z' : Nat, (M'.1 28 3).toInt = (z' : Int) ∧ z ≤ z' ∧ z' ≤ 150 ∧ xK M M' z ∧ xS M' z z'
theorem xT.of3 {M M' : fmM} (h : scFr [(1, 3, 3)] M M') : xT M M' := fun k j hk => (h k j (by
  have e : ((1 : Nat) == k) = false := by
    rw [beq_eq_false_iff_ne]
    omega
  simp [scIn, e])).1
theorem xT.of1 {M M' : fmM} (h : scFr [(1, 3, 1)] M M') : xT M M' := fun k j hk => (h k j (by
  have e : ((1 : Nat) == k) = false := by
    rw [beq_eq_false_iff_ne]
    omega
  simp [scIn, e])).1
theorem xT.trans {M M1 M2 : fmM} (h : xT M M1) (h' : xT M1 M2) : xT M M2 := fun k j hk => (h' k j hk).trans (h k j hk)
theorem xT.refl (M : fmM) : xT M M := fun _ _ _ => rfl
theorem xE.up {M M' : fmM} {i z z' : Nat} (h : xE M i z) (hz : z ≤ z') (e : ∀ k, k = 29 ∨ k = 30 ∨ k = 31 → M'.1 k i = M.1 k i) : xE M' i z' := by
  unfold xE at h ⊢
  rw [e 29 (by omega), e 30 (by omega), e 31 (by omega)]
  exact ⟨fun h9 => by have := h.1 h9; omega, h.2⟩
theorem xR.nil {M M' : fmM} {z : Nat} (hz : (M.1 28 3).toInt = (z : Int)) (h150 : z ≤ 150) (h : xT M M') : xR M M' z := ⟨z, (by rw [h 28 3 (by decide)]; exact hz), Nat.le_refl _, h150, fun k i hk _ => h k i (by omega), fun i h1 h2 => by omega⟩
theorem xR.pre {M0 M M' : fmM} {z : Nat} (h : xT M0 M) (h' : xR M M' z) : xR M0 M' z := by
  obtain ⟨z', a, b, c, d, e⟩ := h'
  exact ⟨z', a, b, c, fun k i hk hi => (d k i hk hi).trans (h k i (by omega)), e⟩
theorem xR.post {M M' M2 : fmM} {z : Nat} (h' : xR M M' z) (h : xT M' M2) : xR M M2 z := by
  obtain ⟨z', a, b, c, d, e⟩ := h'
  exact ⟨z', (by rw [h 28 3 (by decide)]; exact a), b, c, fun k i hk hi => (h k i (by omega)).trans (d k i hk hi), fun i h1 h2 => (e i h1 h2).up (Nat.le_refl _) (fun k hk => h k i (by omega))⟩
theorem xR.seq {M M1 M2 : fmM} {z z1 : Nat} (h : xR M M1 z) (hz : (M1.1 28 3).toInt = (z1 : Int)) (h' : xR M1 M2 z1) : xR M M2 z := by
  obtain ⟨z', a, b, c, d, e⟩ := h
  have ez : z' = z1 := by omega
  subst ez
  obtain ⟨z2, a2, b2, c2, d2, e2⟩ := h'
  refine ⟨z2, a2, by omega, c2, fun k i hk hi => (d2 k i hk (by omega)).trans (d k i hk hi), fun i h1 h2 => ?_⟩
  by_cases hi : i < z'
  · exact (e i h1 hi).up b2 (fun k hk => d2 k i hk hi)
  · exact e2 i (by omega) h2
theorem xR.sz {M M1 : fmM} {z : Nat} (h : xR M M1 z) : ∃ z1 : Nat, (M1.1 28 3).toInt = (z1 : Int) ∧ z1 ≤ 150 := by
  obtain ⟨z', a, b, c, d, e⟩ := h
  exact ⟨z', a, c⟩
/-- one step is put down -/
def stpM (M : fmM) (w : Int32) (z : Nat) : fmM := fmI (fmI M 28 3 (M.1 28 3 + 1)) 29 z w
theorem stpM_k {M : fmM} {w : Int32} {z k i : Nat} (hk : k = 29 ∨ k = 30 ∨ k = 31) (hi : i ≠ z) : (stpM M w z).1 k i = M.1 k i := by
  unfold stpM
  rw [fmI_at, if_neg (fun h => hi h.2), fmI_k _ _ (by omega)]
theorem stpM_inv {M : fmM} {w : Int32} {z : Nat} (hI : scInv Tx invX M) (hz : (M.1 28 3).toInt = (z : Int)) (hz2 : z < 150) (hw : 0 ≤ w.toInt ∧ w.toInt ≤ 4) : scInv Tx invX (stpM M w z) := by
  have h1 := i32_p1 hz (by omega)
  refine xInv.put (xInv.put hI ⟨?_, ?_⟩) ?_
  · show (0 : Int) ≤ _
    omega
  · show _ ≤ (150 : Int)
    omega
  · rw [xi_29]
    exact hw
theorem in_xr {k z : Nat} (hk : k = 29 ∨ k = 30 ∨ k = 31) (hz : z < 150) : scIn xrW k z = true := by
  rcases hk with rfl | rfl | rfl <;> simp [scIn] <;> omega
theorem stpM_fr {M0 M : fmM} {w : Int32} {z : Nat} (h : scFr xrW M0 M) (hz2 : z < 150) : scFr xrW M0 (stpM M w z) := scFr.toI (scFr.toI h rfl) (in_xr (Or.inl rfl) hz2)
/-- a step with its number -/
theorem xR.one {M M1 M2 M3 : fmM} {w v : Int32} {z : Nat} (hw : ¬ w = 4) (h : xT M M1) (hz : (M1.1 28 3).toInt = (z : Int)) (hz2 : z < 150) (h2 : xT (stpM M1 w z) M2) (hv : 0 ≤ v.toInt ∧ v.toInt ≤ 7) (h3 : xT (fmI M2 30 z v) M3) : xR M M3 z := by
  have e : ∀ k i, k ≠ 1 → M3.1 k i = if k = 30 ∧ i = z then v else (stpM M1 w z).1 k i := fun k i hk => by
    rw [h3 k i hk, fmI_at, h2 k i hk]
  refine ⟨z + 1, ?_, by omega, by omega, fun k i hk hi => ?_, fun i h1 h9 => ?_⟩
  · rw [e 28 3 (by decide), if_neg (by omega)]
    unfold stpM
    rw [fmI_k _ _ (by decide), fmI_s]
    exact i32_p1 hz (by omega)
  · rw [e k i (by omega), if_neg (by omega), stpM_k hk (by omega)]
    exact h k i (by omega)
  · have ei : i = z := by omega
    subst ei
    have e29 : M3.1 29 i = w := by
      rw [e 29 i (by decide), if_neg (by omega)]
      exact fmI_s _ _ _ _
    refine ⟨fun h8 => absurd (i32_ext ((congrArg Int32.toInt e29).symm.trans (h8.trans (by decide)))) hw, fun _ => ?_⟩
    rw [e 30 i (by decide), if_pos ⟨rfl, rfl⟩]
    exact hv
theorem xR.ag {M M1 M2 : fmM} {w : Int32} {z : Nat} (h : xT M M1) (h2 : xR (stpM M1 w z) M2 z) : xR M M2 z := by
  obtain ⟨z', a, b, c, d, e⟩ := h2
  exact ⟨z', a, b, c, fun k i hk hi => (d k i hk hi).trans ((stpM_k hk (by omega)).trans (h k i (by omega))), e⟩
/-- an again is closed -/
theorem xR.close {M M1 M2 M3 M4 : fmM} {v y : Int32} {z : Nat} (h29 : (M.1 29 z).toInt = 4) (hz2 : z < 150) (h1 : xT M M1) (h2 : xT (fmI M1 30 z v) M2) (h3 : xR M2 M3 (z + 1)) (h4 : xT M3 M4) (hy : y = M4.1 28 3) : xR M (fmI M4 31 z y) z := by
  obtain ⟨z', a, b, c, d, e⟩ := h3
  have g : ∀ k i, k = 29 ∨ k = 30 ∨ k = 31 → i < z + 1 → M4.1 k i = (fmI M1 30 z v).1 k i := fun k i hk hi => (h4 k i (by omega)).trans ((d k i hk hi).trans (h2 k i (by omega)))
  have hy2 : y.toInt = (z' : Int) := by rw [hy, h4 28 3 (by decide)]; exact a
  refine ⟨z', ?_, by omega, c, fun k i hk hi => ?_, fun i p1 p2 => ?_⟩
  · rw [fmI_k _ _ (by decide), h4 28 3 (by decide)]
    exact a
  · rw [fmI_at, if_neg (by omega), g k i hk (by omega), fmI_at, if_neg (by omega)]
    exact h1 k i (by omega)
  · by_cases ei : i = z
    · subst ei
      have e29 : ((fmI M4 31 i y).1 29 i).toInt = 4 := by
        rw [fmI_k _ _ (by decide), g 29 i (by omega) (by omega), fmI_k _ _ (by decide), h1 29 i (by decide)]
        exact h29
      refine ⟨fun _ => ?_, fun h8 => absurd e29 h8⟩
      rw [fmI_s, hy2]
      exact Int.le_refl _
    · refine (e i (by omega) p2).up (Nat.le_refl _) (fun k hk => ?_)
      rw [fmI_at, if_neg (by omega)]
      exact h4 k i (by omega)
def xEnd (Q : fmR → fmM → Prop) (M : fmM) (z : Nat) : Prop := (∀ M' : fmM, scInv Tx invX M' → scFr xrW M M' → xR M M' z → Q (.inl (some (.int 1))) M') ∧ ∀ M' : fmM, scInv Tx invX M' → scFr xrW M M' → Q (.inl (some (.int 0))) M'
def xG (j : Nat) : Prop := ∀ (M : fmM) (Q : fmR → fmM → Prop) (z o : Nat) (lv op : Int32), scInv Tx invX M → (M.1 28 3).toInt = (z : Int) → z ≤ 150 → 0 ≤ lv.toInt ∧ lv.toInt ≤ 8 → op.toInt = (o : Int) → o + j = 6 → xEnd Q M z → pvGood Tx (8 + 3 * j) qX9_readSteps [.ref 28, .ref 1, .int lv, .int op] M Q
def xSt (j : Nat) : Prop := ∀ (M : fmM) (Q : fmR → fmM → Prop) (z o : Nat) (lv op : Int32), scInv Tx invX M → (M.1 28 3).toInt = (z : Int) → z ≤ 150 → 0 ≤ lv.toInt ∧ lv.toInt ≤ 8 → op.toInt = (o : Int) → o + j = 6 → xEnd Q M z → pvGood Tx (7 + 3 * j) qX9_readStep [.ref 28, .ref 1, .int lv, .int op] M Q
def xAg (j : Nat) : Prop := ∀ (M : fmM) (Q : fmR → fmM → Prop) (z o : Nat) (lv op a : Int32), scInv Tx invX M → (M.1 28 3).toInt = ((z + 1 : Nat) : Int) → z < 150 → a.toInt = (z : Int) → (M.1 29 z).toInt = 4 → 0 ≤ lv.toInt ∧ lv.toInt ≤ 8 → op.toInt = (o : Int) → o + j = 6 → xEnd Q M z → pvGood Tx (9 + 3 * j) qX9_readAgain [.ref 28, .ref 1, .int lv, .int op, .int a] M Q
theorem lv_1 {x : Int32} (h : 0 ≤ x.toInt ∧ x.toInt ≤ 8) : -1 ≤ (x - 1).toInt ∧ (x - 1).toInt ≤ 7 := by
  have e1 : (1 : Int32).toInt = 1 := by decide
  rw [sc_sub (by omega) (by omega)]
  omega
theorem n_0 {n : Int32} (h : 0 ≤ n.toInt ∧ n.toInt ≤ 0) : n = 0 := i32_ext (by have e : (0 : Int32).toInt = 0 := (by decide); omega)
theorem n_1 {n : Int32} (h : 1 ≤ n.toInt ∧ n.toInt ≤ 1) : n = 1 := i32_ext (by have e : (1 : Int32).toInt = 1 := (by decide); omega)
set_option maxRecDepth 20000 in
theorem xs_loop {Q : fmR → fmM → Prop} {j o : Nat} {lv op la : Int32} (hSt : xSt j) (hlv : 0 ≤ lv.toInt ∧ lv.toInt ≤ 8) (hop : op.toInt = (o : Int)) (hoj : o + j = 6) : ∀ (m : Nat) (M : fmM) (i z : Nat) (ii : Int32), scInv Tx invX M → (M.1 28 3).toInt = (z : Int) → z ≤ 150 → ii.toInt = (i : Int) → i + m = 150 → xEnd Q M z → pvEv Tx (8 + 3 * j) qX9_readSteps 15 [some (.ref 28), some (.ref 1), some (.int lv), some (.int op), some (.int la), some (.int ii)] [] M Q := by
  intro m
  induction m with
  | zero =>
    intro M i z ii hI hz hz2 hi him hE
    refine pv_iload (pc := 15) (i := 5) rfl (fm_dec dtX9_readSteps 8 rfl) ?_
    refine pv_sipush (pc := 17) (v := 150) (by decide) (fm_dec dtX9_readSteps 9 rfl) ?_
    refine pv_icmp_ge (pc := 20) 61 (by decide) (fm_dec dtX9_readSteps 10 rfl) (fun _ => ?_) (fun hc20 => by exfalso; apply hc20; rw [sc_le]; have h9 : (150 : Int32).toInt = 150 := (by decide); omega)
    refine pv_iconst (pc := 61) (v := 1) (by decide) (fm_dec dtX9_readSteps 31 rfl) ?_
    exact pv_zreturn (pc := 62) rfl (by first | exact Or.inr rfl | exact Or.inl rfl) (fm_dec dtX9_readSteps 32 rfl) (hE.1 M hI scFr.rfl (xR.nil hz hz2 (xT.refl M)))
  | succ m ih =>
    intro M i z ii hI hz hz2 hi him hE
    refine pv_iload (pc := 15) (i := 5) rfl (fm_dec dtX9_readSteps 8 rfl) ?_
    refine pv_sipush (pc := 17) (v := 150) (by decide) (fm_dec dtX9_readSteps 9 rfl) ?_
    refine pv_icmp_ge (pc := 20) 61 (by decide) (fm_dec dtX9_readSteps 10 rfl) (fun hc20 => by exfalso; rw [sc_le] at hc20; have h9 : (150 : Int32).toInt = 150 := (by decide); omega) (fun _ => ?_)
    refine pv_aloadn (pc := 23) (n := 1) 1 rfl rfl (fm_dec dtX9_readSteps 11 rfl) ?_
    refine pv_invV0 (k := 1) (d' := 0) (pc := 24) pcv_X9_38 (by decide) rfl (Nat.le_of_ble_eq_true rfl) (by omega) (fm_dec dtX9_readSteps 12 rfl) ?_
    refine s_peek hI (fun n24 M24 b24 m24 hI24 f24 => ?_) (fun n24 M24 b24 m24 hI24 f24 => ?_)
    · refine pv_then1 ?_
      refine pv_iload (pc := 27) (i := 4) rfl (fm_dec dtX9_readSteps 13 rfl) ?_
      refine pv_icmp_ne (pc := 29) 34 (by decide) (fm_dec dtX9_readSteps 14 rfl) (fun hc29 => ?_) (fun hc29 => ?_)
      · have t24 := xT.of1 f24
        refine pv_aloadn (pc := 34) (n := 0) 0 rfl rfl (fm_dec dtX9_readSteps 17 rfl) ?_
        refine pv_aloadn (pc := 35) (n := 1) 1 rfl rfl (fm_dec dtX9_readSteps 18 rfl) ?_
        refine pv_iloadn (pc := 36) (n := 2) 2 rfl rfl (fm_dec dtX9_readSteps 19 rfl) ?_
        refine pv_iloadn (pc := 37) (n := 3) 3 rfl rfl (fm_dec dtX9_readSteps 20 rfl) ?_
        refine pv_invV3 (k := 28) (d' := (7 + 3 * j)) (pc := 38) pcv_X9_44 (by decide) rfl (Nat.le_of_ble_eq_true rfl) (by omega) (fm_dec dtX9_readSteps 21 rfl) ?_
        refine hSt M24 _ z o lv op hI24 (by rw [(f24 28 3 rfl).1]; exact hz) hz2 hlv hop hoj ⟨fun M38 hI38 f38 k38 => ?_, fun M38 hI38 f38 => ?_⟩  
        · refine pv_then1 ?_
          refine pv_if_eq (pc := 41) 53 (by decide) (fm_dec dtX9_readSteps 22 rfl) (fun hc41 => by exfalso; revert hc41; decide) (fun _ => ?_)
          refine pv_aloadn (pc := 44) (n := 1) 1 rfl rfl (fm_dec dtX9_readSteps 23 rfl) ?_
          refine pv_bipush (pc := 45) (v := 59) (by decide) (fm_dec dtX9_readSteps 24 rfl) ?_
          refine pv_invV1 (k := 1) (d' := 1) (pc := 47) pcv_X9_47 (by decide) rfl (Nat.le_of_ble_eq_true rfl) (by omega) (fm_dec dtX9_readSteps 25 rfl) ?_
          refine s_sign59 (by decide) hI38 (fun n47 M47 b47 hI47 f47 => ?_)
          refine pv_then1 ?_
          refine pv_if_ne (pc := 50) 55 (by decide) (fm_dec dtX9_readSteps 26 rfl) (fun hc50 => ?_) (fun hc50 => ?_)
          · refine pv_iincc (pc := 55) 5 1 (by decide) rfl (by decide) rfl (fm_dec dtX9_readSteps 29 rfl) ?_
            dsimp only [List.set_cons_zero, List.set_cons_succ]
            refine pv_goto (pc := 58) 15 (by decide) (fm_dec dtX9_readSteps 30 rfl) ?_
            obtain ⟨z1, e1, e2⟩ := (k38.post (xT.of3 f47)).sz
            have hfr : scFr xrW M M47 := scFr.trans (scFr.trans (scFr.trans scFr.rfl f24 (by decide)) f38 (by decide)) f47 (by decide)
            have hr9 : xR M M47 z := xR.pre t24 (k38.post (xT.of3 f47))
            exact ih M47 (i + 1) z1 _ hI47 e1 e2 (i32_p1 hi (by omega)) (by omega) ⟨fun M9 h1 h2 h3 => hE.1 M9 h1 (scFr.trans hfr h2 (by decide)) (hr9.seq e1 h3), fun M9 h1 h2 => hE.2 M9 h1 (scFr.trans hfr h2 (by decide))⟩
          · refine pv_iconst (pc := 53) (v := 0) (by decide) (fm_dec dtX9_readSteps 27 rfl) ?_
            exact pv_zreturn (pc := 54) rfl (by first | exact Or.inr rfl | exact Or.inl rfl) (fm_dec dtX9_readSteps 28 rfl) (hE.2 M47 hI47 (scFr.trans (scFr.trans (scFr.trans scFr.rfl f24 (by decide)) f38 (by decide)) f47 (by decide)))
        · refine pv_then1 ?_
          refine pv_if_eq (pc := 41) 53 (by decide) (fm_dec dtX9_readSteps 22 rfl) (fun _ => ?_) (fun hc41 => by exfalso; revert hc41; decide)
          refine pv_iconst (pc := 53) (v := 0) (by decide) (fm_dec dtX9_readSteps 27 rfl) ?_
          exact pv_zreturn (pc := 54) rfl (by first | exact Or.inr rfl | exact Or.inl rfl) (fm_dec dtX9_readSteps 28 rfl) (hE.2 M38 hI38 (scFr.trans (scFr.trans scFr.rfl f24 (by decide)) f38 (by decide)))
      · refine pv_iconst (pc := 32) (v := 1) (by decide) (fm_dec dtX9_readSteps 15 rfl) ?_
        exact pv_zreturn (pc := 33) rfl (by first | exact Or.inr rfl | exact Or.inl rfl) (fm_dec dtX9_readSteps 16 rfl) (hE.1 M24 hI24 (scFr.trans scFr.rfl f24 (by decide)) (xR.nil hz hz2 (xT.of1 f24)))
    · refine pv_then1 ?_
      refine pv_iload (pc := 27) (i := 4) rfl (fm_dec dtX9_readSteps 13 rfl) ?_
      refine pv_icmp_ne (pc := 29) 34 (by decide) (fm_dec dtX9_readSteps 14 rfl) (fun hc29 => ?_) (fun hc29 => ?_)
      · have t24 := xT.of1 f24
        refine pv_aloadn (pc := 34) (n := 0) 0 rfl rfl (fm_dec dtX9_readSteps 17 rfl) ?_
        refine pv_aloadn (pc := 35) (n := 1) 1 rfl rfl (fm_dec dtX9_readSteps 18 rfl) ?_
        refine pv_iloadn (pc := 36) (n := 2) 2 rfl rfl (fm_dec dtX9_readSteps 19 rfl) ?_
        refine pv_iloadn (pc := 37) (n := 3) 3 rfl rfl (fm_dec dtX9_readSteps 20 rfl) ?_
        refine pv_invV3 (k := 28) (d' := (7 + 3 * j)) (pc := 38) pcv_X9_44 (by decide) rfl (Nat.le_of_ble_eq_true rfl) (by omega) (fm_dec dtX9_readSteps 21 rfl) ?_
        refine hSt M24 _ z o lv op hI24 (by rw [(f24 28 3 rfl).1]; exact hz) hz2 hlv hop hoj ⟨fun M38 hI38 f38 k38 => ?_, fun M38 hI38 f38 => ?_⟩  
        · refine pv_then1 ?_
          refine pv_if_eq (pc := 41) 53 (by decide) (fm_dec dtX9_readSteps 22 rfl) (fun hc41 => by exfalso; revert hc41; decide) (fun _ => ?_)
          refine pv_aloadn (pc := 44) (n := 1) 1 rfl rfl (fm_dec dtX9_readSteps 23 rfl) ?_
          refine pv_bipush (pc := 45) (v := 59) (by decide) (fm_dec dtX9_readSteps 24 rfl) ?_
          refine pv_invV1 (k := 1) (d' := 1) (pc := 47) pcv_X9_47 (by decide) rfl (Nat.le_of_ble_eq_true rfl) (by omega) (fm_dec dtX9_readSteps 25 rfl) ?_
          refine s_sign59 (by decide) hI38 (fun n47 M47 b47 hI47 f47 => ?_)
          refine pv_then1 ?_
          refine pv_if_ne (pc := 50) 55 (by decide) (fm_dec dtX9_readSteps 26 rfl) (fun hc50 => ?_) (fun hc50 => ?_)
          · refine pv_iincc (pc := 55) 5 1 (by decide) rfl (by decide) rfl (fm_dec dtX9_readSteps 29 rfl) ?_
            dsimp only [List.set_cons_zero, List.set_cons_succ]
            refine pv_goto (pc := 58) 15 (by decide) (fm_dec dtX9_readSteps 30 rfl) ?_
            obtain ⟨z1, e1, e2⟩ := (k38.post (xT.of3 f47)).sz
            have hfr : scFr xrW M M47 := scFr.trans (scFr.trans (scFr.trans scFr.rfl f24 (by decide)) f38 (by decide)) f47 (by decide)
            have hr9 : xR M M47 z := xR.pre t24 (k38.post (xT.of3 f47))
            exact ih M47 (i + 1) z1 _ hI47 e1 e2 (i32_p1 hi (by omega)) (by omega) ⟨fun M9 h1 h2 h3 => hE.1 M9 h1 (scFr.trans hfr h2 (by decide)) (hr9.seq e1 h3), fun M9 h1 h2 => hE.2 M9 h1 (scFr.trans hfr h2 (by decide))⟩
          · refine pv_iconst (pc := 53) (v := 0) (by decide) (fm_dec dtX9_readSteps 27 rfl) ?_
            exact pv_zreturn (pc := 54) rfl (by first | exact Or.inr rfl | exact Or.inl rfl) (fm_dec dtX9_readSteps 28 rfl) (hE.2 M47 hI47 (scFr.trans (scFr.trans (scFr.trans scFr.rfl f24 (by decide)) f38 (by decide)) f47 (by decide)))
        · refine pv_then1 ?_
          refine pv_if_eq (pc := 41) 53 (by decide) (fm_dec dtX9_readSteps 22 rfl) (fun _ => ?_) (fun hc41 => by exfalso; revert hc41; decide)
          refine pv_iconst (pc := 53) (v := 0) (by decide) (fm_dec dtX9_readSteps 27 rfl) ?_
          exact pv_zreturn (pc := 54) rfl (by first | exact Or.inr rfl | exact Or.inl rfl) (fm_dec dtX9_readSteps 28 rfl) (hE.2 M38 hI38 (scFr.trans (scFr.trans scFr.rfl f24 (by decide)) f38 (by decide)))
      · refine pv_iconst (pc := 32) (v := 1) (by decide) (fm_dec dtX9_readSteps 15 rfl) ?_
        exact pv_zreturn (pc := 33) rfl (by first | exact Or.inr rfl | exact Or.inl rfl) (fm_dec dtX9_readSteps 16 rfl) (hE.1 M24 hI24 (scFr.trans scFr.rfl f24 (by decide)) (xR.nil hz hz2 (xT.of1 f24)))
set_option maxRecDepth 20000 in
theorem xs_G {j : Nat} (hSt : xSt j) : xG j := by
  intro M Q z o lv op hI hz hz2 hlv hop hoj hE
  refine pvGood_of (Nat.le_of_ble_eq_true rfl) ?_
  show pvEv Tx (8 + 3 * j) qX9_readSteps 0 [some (.ref 28), some (.ref 1), some (.int lv), some (.int op), none, none] [] M Q
  refine pv_iloadn (pc := 0) (n := 3) 3 rfl rfl (fm_dec dtX9_readSteps 0 rfl) ?_
  refine pv_if_ne (pc := 1) 8 (by decide) (fm_dec dtX9_readSteps 1 rfl) (fun hc1 => ?_) (fun hc1 => ?_)
  · refine pv_bipush (pc := 8) (v := 93) (by decide) (fm_dec dtX9_readSteps 4 rfl) ?_
    refine pv_istore (pc := 10) (i := 4) (by decide) rfl (fm_dec dtX9_readSteps 5 rfl) ?_
    dsimp only [List.set_cons_zero, List.set_cons_succ]
    refine pv_iconst (pc := 12) (v := 0) (by decide) (fm_dec dtX9_readSteps 6 rfl) ?_
    refine pv_istore (pc := 13) (i := 5) (by decide) rfl (fm_dec dtX9_readSteps 7 rfl) ?_
    dsimp only [List.set_cons_zero, List.set_cons_succ]
    exact xs_loop hSt hlv hop hoj 150 M 0 z 0 hI hz hz2 (by decide) (by omega) hE
  · refine pv_iconst (pc := 4) (v := (-1)) (by decide) (fm_dec dtX9_readSteps 2 rfl) ?_
    refine pv_goto (pc := 5) 10 (by decide) (fm_dec dtX9_readSteps 3 rfl) ?_
    refine pv_istore (pc := 10) (i := 4) (by decide) rfl (fm_dec dtX9_readSteps 5 rfl) ?_
    dsimp only [List.set_cons_zero, List.set_cons_succ]
    refine pv_iconst (pc := 12) (v := 0) (by decide) (fm_dec dtX9_readSteps 6 rfl) ?_
    refine pv_istore (pc := 13) (i := 5) (by decide) rfl (fm_dec dtX9_readSteps 7 rfl) ?_
    dsimp only [List.set_cons_zero, List.set_cons_succ]
    exact xs_loop hSt hlv hop hoj 150 M 0 z 0 hI hz hz2 (by decide) (by omega) hE
set_option maxRecDepth 20000 in
theorem xa_G {j : Nat} (hG : xG j) : xAg j := by
  intro M Q z o lv op a hI hz hz2 ha h29 hlv hop hoj hE
  refine pvGood_of (Nat.le_of_ble_eq_true rfl) ?_
  show pvEv Tx (9 + 3 * j) qX9_readAgain 0 [some (.ref 28), some (.ref 1), some (.int lv), some (.int op), some (.int a)] [] M Q
  refine pv_aloadn (pc := 0) (n := 0) 0 rfl rfl (fm_dec dtX9_readAgain 0 rfl) ?_
  refine pv_getR (k := 28) (j := 1) (ci := 9) (pc := 1) 30 rfl (by decide) pfl_X9_15 (by decide) rfl (by decide) (fm_dec dtX9_readAgain 1 rfl) ?_
  refine pv_iload (pc := 4) (i := 4) rfl (fm_dec dtX9_readAgain 2 rfl) ?_
  refine pv_aloadn (pc := 6) (n := 1) 1 rfl rfl (fm_dec dtX9_readAgain 3 rfl) ?_
  refine pv_iconst (pc := 7) (v := 0) (by decide) (fm_dec dtX9_readAgain 4 rfl) ?_
  refine pv_bipush (pc := 8) (v := 20) (by decide) (fm_dec dtX9_readAgain 5 rfl) ?_
  refine pv_invV2 (k := 1) (d' := 2) (pc := 10) pcv_X9_68 (by decide) rfl (Nat.le_of_ble_eq_true rfl) (by omega) (fm_dec dtX9_readAgain 6 rfl) ?_
  refine s_num20 (by decide) (by decide) hI (fun n10 M10 b10 m10 hI10 f10 => ?_) (fun n10 M10 b10 m10 hI10 f10 => ?_)
  · refine pv_then1 ?_
    refine pv_iast (k := 30) (n := 150) (pc := 13) (by decide) rfl rfl (ix_in ha hz2) (fm_dec dtX9_readAgain 7 rfl) ?_
    rw [i32_cl ha]
    have hI13 : scInv Tx invX (fmI M10 30 z n10) := xInv.put hI10 (by rw [xi_30]; omega)
    refine pv_aloadn (pc := 14) (n := 1) 1 rfl rfl (fm_dec dtX9_readAgain 8 rfl) ?_
    refine pv_invV0 (k := 1) (d' := 0) (pc := 15) pcv_X9_72 (by decide) rfl (Nat.le_of_ble_eq_true rfl) (by omega) (fm_dec dtX9_readAgain 9 rfl) ?_
    refine s_failed hI13 (fun n15 M15 b15 m15 hI15 f15 => ?_) (fun n15 M15 b15 m15 hI15 f15 => ?_)
    · refine pv_then1 ?_
      refine pv_if_ne (pc := 18) 49 (by decide) (fm_dec dtX9_readAgain 10 rfl) (fun hc18 => by exfalso; exact hc18 (n_0 b15)) (fun _ => ?_)
      refine pv_aloadn (pc := 21) (n := 1) 1 rfl rfl (fm_dec dtX9_readAgain 11 rfl) ?_
      refine pv_bipush (pc := 22) (v := 91) (by decide) (fm_dec dtX9_readAgain 12 rfl) ?_
      refine pv_invV1 (k := 1) (d' := 1) (pc := 24) pcv_X9_47 (by decide) rfl (Nat.le_of_ble_eq_true rfl) (by omega) (fm_dec dtX9_readAgain 13 rfl) ?_
      refine s_sign9 (by decide) hI15 (fun n24 M24 b24 hI24 f24 => ?_)
      refine pv_then1 ?_
      refine pv_if_eq (pc := 27) 49 (by decide) (fm_dec dtX9_readAgain 14 rfl) (fun hc27 => ?_) (fun hc27 => ?_)
      · refine pv_iconst (pc := 49) (v := 0) (by decide) (fm_dec dtX9_readAgain 25 rfl) ?_
        exact pv_zreturn (pc := 50) rfl (by first | exact Or.inr rfl | exact Or.inl rfl) (fm_dec dtX9_readAgain 26 rfl) (hE.2 M24 hI24 (scFr.trans (scFr.trans (scFr.toI (scFr.trans scFr.rfl f10 (by decide)) (in_xr (Or.inr (Or.inl rfl)) hz2)) f15 (by decide)) f24 (by decide)))
      · refine pv_aloadn (pc := 30) (n := 0) 0 rfl rfl (fm_dec dtX9_readAgain 15 rfl) ?_
        refine pv_aloadn (pc := 31) (n := 1) 1 rfl rfl (fm_dec dtX9_readAgain 16 rfl) ?_
        refine pv_iloadn (pc := 32) (n := 2) 2 rfl rfl (fm_dec dtX9_readAgain 17 rfl) ?_
        refine pv_iloadn (pc := 33) (n := 3) 3 rfl rfl (fm_dec dtX9_readAgain 18 rfl) ?_
        refine pv_invV3 (k := 28) (d' := (8 + 3 * j)) (pc := 34) pcv_X9_34 (by decide) rfl (Nat.le_of_ble_eq_true rfl) (by omega) (fm_dec dtX9_readAgain 19 rfl) ?_
        refine hG M24 _ (z + 1) o lv op hI24 (by rw [xT.of3 f24 28 3 (by decide), (f15 28 3 rfl).1, fmI_k _ _ (by decide), xT.of3 f10 28 3 (by decide)]; exact hz) (by omega) hlv hop hoj ⟨fun M34 hI34 f34 k34 => ?_, fun M34 hI34 f34 => ?_⟩  
        · refine pv_then1 ?_
          refine pv_if_eq (pc := 37) 49 (by decide) (fm_dec dtX9_readAgain 20 rfl) (fun hc37 => by exfalso; revert hc37; decide) (fun _ => ?_)
          refine pv_aloadn (pc := 40) (n := 1) 1 rfl rfl (fm_dec dtX9_readAgain 21 rfl) ?_
          refine pv_bipush (pc := 41) (v := 93) (by decide) (fm_dec dtX9_readAgain 22 rfl) ?_
          refine pv_invV1 (k := 1) (d' := 1) (pc := 43) pcv_X9_47 (by decide) rfl (Nat.le_of_ble_eq_true rfl) (by omega) (fm_dec dtX9_readAgain 23 rfl) ?_
          refine s_sign9 (by decide) hI34 (fun n43 M43 b43 hI43 f43 => ?_)
          refine pv_then1 ?_
          refine pv_if_ne (pc := 46) 51 (by decide) (fm_dec dtX9_readAgain 24 rfl) (fun hc46 => ?_) (fun hc46 => ?_)
          · refine pv_aloadn (pc := 51) (n := 0) 0 rfl rfl (fm_dec dtX9_readAgain 27 rfl) ?_
            refine pv_getR (k := 28) (j := 2) (ci := 9) (pc := 52) 31 rfl (by decide) pfl_X9_18 (by decide) rfl (by decide) (fm_dec dtX9_readAgain 28 rfl) ?_
            refine pv_iload (pc := 55) (i := 4) rfl (fm_dec dtX9_readAgain 29 rfl) ?_
            refine pv_aloadn (pc := 57) (n := 0) 0 rfl rfl (fm_dec dtX9_readAgain 30 rfl) ?_
            refine pv_getI (k := 28) (j := 3) (ci := 9) (pc := 58) pfl_X9_21 (by decide) rfl (by decide) (fm_dec dtX9_readAgain 31 rfl) ?_
            refine pv_iast (k := 31) (n := 150) (pc := 61) (by decide) rfl rfl (ix_in ha hz2) (fm_dec dtX9_readAgain 32 rfl) ?_
            rw [i32_cl ha]
            refine pv_iconst (pc := 62) (v := 1) (by decide) (fm_dec dtX9_readAgain 33 rfl) ?_
            exact pv_zreturn (pc := 63) rfl (by first | exact Or.inr rfl | exact Or.inl rfl) (fm_dec dtX9_readAgain 34 rfl) (hE.1 _ (xInv.put hI43 (by rw [xi_31]; exact hI43.1 28 3 (by decide))) (scFr.toI (scFr.trans (scFr.trans (scFr.trans (scFr.trans (scFr.toI (scFr.trans scFr.rfl f10 (by decide)) (in_xr (Or.inr (Or.inl rfl)) hz2)) f15 (by decide)) f24 (by decide)) f34 (by decide)) f43 (by decide)) (in_xr (Or.inr (Or.inr rfl)) hz2)) (xR.close h29 hz2 (xT.of3 f10) (M2 := M24) (fun k i hk => (xT.of3 f24 k i hk).trans ((f15 k i rfl).1)) k34 (xT.of3 f43) rfl))
          · refine pv_iconst (pc := 49) (v := 0) (by decide) (fm_dec dtX9_readAgain 25 rfl) ?_
            exact pv_zreturn (pc := 50) rfl (by first | exact Or.inr rfl | exact Or.inl rfl) (fm_dec dtX9_readAgain 26 rfl) (hE.2 M43 hI43 (scFr.trans (scFr.trans (scFr.trans (scFr.trans (scFr.toI (scFr.trans scFr.rfl f10 (by decide)) (in_xr (Or.inr (Or.inl rfl)) hz2)) f15 (by decide)) f24 (by decide)) f34 (by decide)) f43 (by decide)))
        · refine pv_then1 ?_
          refine pv_if_eq (pc := 37) 49 (by decide) (fm_dec dtX9_readAgain 20 rfl) (fun _ => ?_) (fun hc37 => by exfalso; revert hc37; decide)
          refine pv_iconst (pc := 49) (v := 0) (by decide) (fm_dec dtX9_readAgain 25 rfl) ?_
          exact pv_zreturn (pc := 50) rfl (by first | exact Or.inr rfl | exact Or.inl rfl) (fm_dec dtX9_readAgain 26 rfl) (hE.2 M34 hI34 (scFr.trans (scFr.trans (scFr.trans (scFr.toI (scFr.trans scFr.rfl f10 (by decide)) (in_xr (Or.inr (Or.inl rfl)) hz2)) f15 (by decide)) f24 (by decide)) f34 (by decide)))
    · refine pv_then1 ?_
      refine pv_if_ne (pc := 18) 49 (by decide) (fm_dec dtX9_readAgain 10 rfl) (fun _ => ?_) (fun hc18 => by exfalso; rw [hc18] at b15; exact absurd b15 (by decide))
      refine pv_iconst (pc := 49) (v := 0) (by decide) (fm_dec dtX9_readAgain 25 rfl) ?_
      exact pv_zreturn (pc := 50) rfl (by first | exact Or.inr rfl | exact Or.inl rfl) (fm_dec dtX9_readAgain 26 rfl) (hE.2 M15 hI15 (scFr.trans (scFr.toI (scFr.trans scFr.rfl f10 (by decide)) (in_xr (Or.inr (Or.inl rfl)) hz2)) f15 (by decide)))
  · refine pv_then1 ?_
    refine pv_iast (k := 30) (n := 150) (pc := 13) (by decide) rfl rfl (ix_in ha hz2) (fm_dec dtX9_readAgain 7 rfl) ?_
    rw [i32_cl ha]
    have hI13 : scInv Tx invX (fmI M10 30 z n10) := xInv.put hI10 (by rw [xi_30]; omega)
    refine pv_aloadn (pc := 14) (n := 1) 1 rfl rfl (fm_dec dtX9_readAgain 8 rfl) ?_
    refine pv_invV0 (k := 1) (d' := 0) (pc := 15) pcv_X9_72 (by decide) rfl (Nat.le_of_ble_eq_true rfl) (by omega) (fm_dec dtX9_readAgain 9 rfl) ?_
    refine s_failed hI13 (fun n15 M15 b15 m15 hI15 f15 => ?_) (fun n15 M15 b15 m15 hI15 f15 => ?_)
    · refine pv_then1 ?_
      refine pv_if_ne (pc := 18) 49 (by decide) (fm_dec dtX9_readAgain 10 rfl) (fun hc18 => by exfalso; exact hc18 (n_0 b15)) (fun _ => ?_)
      refine pv_aloadn (pc := 21) (n := 1) 1 rfl rfl (fm_dec dtX9_readAgain 11 rfl) ?_
      refine pv_bipush (pc := 22) (v := 91) (by decide) (fm_dec dtX9_readAgain 12 rfl) ?_
      refine pv_invV1 (k := 1) (d' := 1) (pc := 24) pcv_X9_47 (by decide) rfl (Nat.le_of_ble_eq_true rfl) (by omega) (fm_dec dtX9_readAgain 13 rfl) ?_
      refine s_sign9 (by decide) hI15 (fun n24 M24 b24 hI24 f24 => ?_)
      refine pv_then1 ?_
      refine pv_if_eq (pc := 27) 49 (by decide) (fm_dec dtX9_readAgain 14 rfl) (fun hc27 => ?_) (fun hc27 => ?_)
      · refine pv_iconst (pc := 49) (v := 0) (by decide) (fm_dec dtX9_readAgain 25 rfl) ?_
        exact pv_zreturn (pc := 50) rfl (by first | exact Or.inr rfl | exact Or.inl rfl) (fm_dec dtX9_readAgain 26 rfl) (hE.2 M24 hI24 (scFr.trans (scFr.trans (scFr.toI (scFr.trans scFr.rfl f10 (by decide)) (in_xr (Or.inr (Or.inl rfl)) hz2)) f15 (by decide)) f24 (by decide)))
      · refine pv_aloadn (pc := 30) (n := 0) 0 rfl rfl (fm_dec dtX9_readAgain 15 rfl) ?_
        refine pv_aloadn (pc := 31) (n := 1) 1 rfl rfl (fm_dec dtX9_readAgain 16 rfl) ?_
        refine pv_iloadn (pc := 32) (n := 2) 2 rfl rfl (fm_dec dtX9_readAgain 17 rfl) ?_
        refine pv_iloadn (pc := 33) (n := 3) 3 rfl rfl (fm_dec dtX9_readAgain 18 rfl) ?_
        refine pv_invV3 (k := 28) (d' := (8 + 3 * j)) (pc := 34) pcv_X9_34 (by decide) rfl (Nat.le_of_ble_eq_true rfl) (by omega) (fm_dec dtX9_readAgain 19 rfl) ?_
        refine hG M24 _ (z + 1) o lv op hI24 (by rw [xT.of3 f24 28 3 (by decide), (f15 28 3 rfl).1, fmI_k _ _ (by decide), xT.of3 f10 28 3 (by decide)]; exact hz) (by omega) hlv hop hoj ⟨fun M34 hI34 f34 k34 => ?_, fun M34 hI34 f34 => ?_⟩  
        · refine pv_then1 ?_
          refine pv_if_eq (pc := 37) 49 (by decide) (fm_dec dtX9_readAgain 20 rfl) (fun hc37 => by exfalso; revert hc37; decide) (fun _ => ?_)
          refine pv_aloadn (pc := 40) (n := 1) 1 rfl rfl (fm_dec dtX9_readAgain 21 rfl) ?_
          refine pv_bipush (pc := 41) (v := 93) (by decide) (fm_dec dtX9_readAgain 22 rfl) ?_
          refine pv_invV1 (k := 1) (d' := 1) (pc := 43) pcv_X9_47 (by decide) rfl (Nat.le_of_ble_eq_true rfl) (by omega) (fm_dec dtX9_readAgain 23 rfl) ?_
          refine s_sign9 (by decide) hI34 (fun n43 M43 b43 hI43 f43 => ?_)
          refine pv_then1 ?_
          refine pv_if_ne (pc := 46) 51 (by decide) (fm_dec dtX9_readAgain 24 rfl) (fun hc46 => ?_) (fun hc46 => ?_)
          · refine pv_aloadn (pc := 51) (n := 0) 0 rfl rfl (fm_dec dtX9_readAgain 27 rfl) ?_
            refine pv_getR (k := 28) (j := 2) (ci := 9) (pc := 52) 31 rfl (by decide) pfl_X9_18 (by decide) rfl (by decide) (fm_dec dtX9_readAgain 28 rfl) ?_
            refine pv_iload (pc := 55) (i := 4) rfl (fm_dec dtX9_readAgain 29 rfl) ?_
            refine pv_aloadn (pc := 57) (n := 0) 0 rfl rfl (fm_dec dtX9_readAgain 30 rfl) ?_
            refine pv_getI (k := 28) (j := 3) (ci := 9) (pc := 58) pfl_X9_21 (by decide) rfl (by decide) (fm_dec dtX9_readAgain 31 rfl) ?_
            refine pv_iast (k := 31) (n := 150) (pc := 61) (by decide) rfl rfl (ix_in ha hz2) (fm_dec dtX9_readAgain 32 rfl) ?_
            rw [i32_cl ha]
            refine pv_iconst (pc := 62) (v := 1) (by decide) (fm_dec dtX9_readAgain 33 rfl) ?_
            exact pv_zreturn (pc := 63) rfl (by first | exact Or.inr rfl | exact Or.inl rfl) (fm_dec dtX9_readAgain 34 rfl) (hE.1 _ (xInv.put hI43 (by rw [xi_31]; exact hI43.1 28 3 (by decide))) (scFr.toI (scFr.trans (scFr.trans (scFr.trans (scFr.trans (scFr.toI (scFr.trans scFr.rfl f10 (by decide)) (in_xr (Or.inr (Or.inl rfl)) hz2)) f15 (by decide)) f24 (by decide)) f34 (by decide)) f43 (by decide)) (in_xr (Or.inr (Or.inr rfl)) hz2)) (xR.close h29 hz2 (xT.of3 f10) (M2 := M24) (fun k i hk => (xT.of3 f24 k i hk).trans ((f15 k i rfl).1)) k34 (xT.of3 f43) rfl))
          · refine pv_iconst (pc := 49) (v := 0) (by decide) (fm_dec dtX9_readAgain 25 rfl) ?_
            exact pv_zreturn (pc := 50) rfl (by first | exact Or.inr rfl | exact Or.inl rfl) (fm_dec dtX9_readAgain 26 rfl) (hE.2 M43 hI43 (scFr.trans (scFr.trans (scFr.trans (scFr.trans (scFr.toI (scFr.trans scFr.rfl f10 (by decide)) (in_xr (Or.inr (Or.inl rfl)) hz2)) f15 (by decide)) f24 (by decide)) f34 (by decide)) f43 (by decide)))
        · refine pv_then1 ?_
          refine pv_if_eq (pc := 37) 49 (by decide) (fm_dec dtX9_readAgain 20 rfl) (fun _ => ?_) (fun hc37 => by exfalso; revert hc37; decide)
          refine pv_iconst (pc := 49) (v := 0) (by decide) (fm_dec dtX9_readAgain 25 rfl) ?_
          exact pv_zreturn (pc := 50) rfl (by first | exact Or.inr rfl | exact Or.inl rfl) (fm_dec dtX9_readAgain 26 rfl) (hE.2 M34 hI34 (scFr.trans (scFr.trans (scFr.trans (scFr.toI (scFr.trans scFr.rfl f10 (by decide)) (in_xr (Or.inr (Or.inl rfl)) hz2)) f15 (by decide)) f24 (by decide)) f34 (by decide)))
    · refine pv_then1 ?_
      refine pv_if_ne (pc := 18) 49 (by decide) (fm_dec dtX9_readAgain 10 rfl) (fun _ => ?_) (fun hc18 => by exfalso; rw [hc18] at b15; exact absurd b15 (by decide))
      refine pv_iconst (pc := 49) (v := 0) (by decide) (fm_dec dtX9_readAgain 25 rfl) ?_
      exact pv_zreturn (pc := 50) rfl (by first | exact Or.inr rfl | exact Or.inl rfl) (fm_dec dtX9_readAgain 26 rfl) (hE.2 M15 hI15 (scFr.trans (scFr.toI (scFr.trans scFr.rfl f10 (by decide)) (in_xr (Or.inr (Or.inl rfl)) hz2)) f15 (by decide)))
set_option maxRecDepth 20000 in
theorem xt_0 : xSt 0 := by
  intro M Q z o lv op hI hz hz2 hlv hop hoj hE
  refine pvGood_of (Nat.le_of_ble_eq_true rfl) ?_
  show pvEv Tx (7 + 3 * 0) qX9_readStep 0 [some (.ref 28), some (.ref 1), some (.int lv), some (.int op), none, none, none] [] M Q
  refine pv_aloadn (pc := 0) (n := 1) 1 rfl rfl (fm_dec dtX9_readStep 0 rfl) ?_
  refine pv_invV0 (k := 1) (d' := 1) (pc := 1) pcv_X9_51 (by decide) rfl (Nat.le_of_ble_eq_true rfl) (by omega) (fm_dec dtX9_readStep 1 rfl) ?_
  refine s_next hI (fun n1 M1 b1 hI1 f1 => ?_)
  refine pv_then1 ?_
  refine pv_istore (pc := 4) (i := 4) (by decide) rfl (fm_dec dtX9_readStep 2 rfl) ?_
  dsimp only [List.set_cons_zero, List.set_cons_succ]
  refine pv_aloadn (pc := 6) (n := 1) 1 rfl rfl (fm_dec dtX9_readStep 3 rfl) ?_
  refine pv_ldcT (i := 4) (pc := 7) pkn_X9_54 ptx_X9_54 (fm_dec dtX9_readStep 4 rfl) ?_
  refine pv_invV1 (k := 1) (d' := 5) (pc := 9) pcv_X9_56 (by decide) rfl (Nat.le_of_ble_eq_true rfl) (by omega) (fm_dec dtX9_readStep 5 rfl) ?_
  refine s_word hI1 (fun n9 M9 b9 hI9 f9 => ?_)
  refine pv_then1 ?_
  refine pv_istore (pc := 12) (i := 5) (by decide) rfl (fm_dec dtX9_readStep 6 rfl) ?_
  dsimp only [List.set_cons_zero, List.set_cons_succ]
  have hz9 : (M9.1 28 3).toInt = (z : Int) := (by rw [xT.of3 f9 28 3 (by decide), xT.of1 f1 28 3 (by decide)]; exact hz)
  refine pv_iload (pc := 14) (i := 5) rfl (fm_dec dtX9_readStep 7 rfl) ?_
  refine pv_iconst (pc := 16) (v := (-1)) (by decide) (fm_dec dtX9_readStep 8 rfl) ?_
  refine pv_icmp_eq (pc := 17) 30 (by decide) (fm_dec dtX9_readStep 9 rfl) (fun hc17 => ?_) (fun hc17 => ?_)
  · refine pv_iconst (pc := 30) (v := 0) (by decide) (fm_dec dtX9_readStep 14 rfl) ?_
    exact pv_zreturn (pc := 31) rfl (by first | exact Or.inr rfl | exact Or.inl rfl) (fm_dec dtX9_readStep 15 rfl) (hE.2 M9 hI9 (scFr.trans (scFr.trans scFr.rfl f1 (by decide)) f9 (by decide)))
  · refine pv_aloadn (pc := 20) (n := 0) 0 rfl rfl (fm_dec dtX9_readStep 10 rfl) ?_
    refine pv_getI (k := 28) (j := 3) (ci := 9) (pc := 21) pfl_X9_21 (by decide) rfl (by decide) (fm_dec dtX9_readStep 11 rfl) ?_
    refine pv_sipush (pc := 24) (v := 150) (by decide) (fm_dec dtX9_readStep 12 rfl) ?_
    refine pv_icmp_lt (pc := 27) 32 (by decide) (fm_dec dtX9_readStep 13 rfl) (fun hc27 => ?_) (fun hc27 => ?_)
    · have hz3 : z < 150 := (by rw [sc_lt] at hc27; have h9 : (150 : Int32).toInt = 150 := (by decide); omega)
      refine pv_aloadn (pc := 32) (n := 0) 0 rfl rfl (fm_dec dtX9_readStep 16 rfl) ?_
      refine pv_getI (k := 28) (j := 3) (ci := 9) (pc := 33) pfl_X9_21 (by decide) rfl (by decide) (fm_dec dtX9_readStep 17 rfl) ?_
      refine pv_istore (pc := 36) (i := 6) (by decide) rfl (fm_dec dtX9_readStep 18 rfl) ?_
      dsimp only [List.set_cons_zero, List.set_cons_succ]
      refine pv_aloadn (pc := 38) (n := 0) 0 rfl rfl (fm_dec dtX9_readStep 19 rfl) ?_
      refine pv_dup (pc := 39) rfl (fm_dec dtX9_readStep 20 rfl) ?_
      refine pv_getI (k := 28) (j := 3) (ci := 9) (pc := 40) pfl_X9_21 (by decide) rfl (by decide) (fm_dec dtX9_readStep 21 rfl) ?_
      refine pv_iconst (pc := 43) (v := 1) (by decide) (fm_dec dtX9_readStep 22 rfl) ?_
      refine pv_iadd (pc := 44) (fm_dec dtX9_readStep 23 rfl) ?_
      refine pv_putI (k := 28) (j := 3) (ci := 9) (pc := 45) pfl_X9_21 (by decide) rfl (by decide) (fm_dec dtX9_readStep 24 rfl) ?_
      refine pv_aloadn (pc := 48) (n := 0) 0 rfl rfl (fm_dec dtX9_readStep 25 rfl) ?_
      refine pv_getR (k := 28) (j := 0) (ci := 9) (pc := 49) 29 rfl (by decide) pfl_X9_9 (by decide) rfl (by decide) (fm_dec dtX9_readStep 26 rfl) ?_
      refine pv_iload (pc := 52) (i := 6) rfl (fm_dec dtX9_readStep 27 rfl) ?_
      refine pv_iload (pc := 54) (i := 5) rfl (fm_dec dtX9_readStep 28 rfl) ?_
      refine pv_iast (k := 29) (n := 150) (pc := 56) (by decide) rfl rfl (ix_in hz9 hz3) (fm_dec dtX9_readStep 29 rfl) ?_
      rw [i32_cl hz9]
      have hIS : scInv Tx invX (stpM M9 n9 z) := stpM_inv hI9 hz9 hz3 ⟨by have h9 : ¬ n9.toInt = -1 := (fun h9 => hc17 (i32_ext (h9.trans (by decide)))); omega, b9.2⟩
      refine pv_iload (pc := 57) (i := 5) rfl (fm_dec dtX9_readStep 30 rfl) ?_
      refine pv_iconst (pc := 59) (v := 4) (by decide) (fm_dec dtX9_readStep 31 rfl) ?_
      refine pv_icmp_ne (pc := 60) 91 (by decide) (fm_dec dtX9_readStep 32 rfl) (fun hc60 => ?_) (fun hc60 => ?_)
      · refine pv_aloadn (pc := 91) (n := 0) 0 rfl rfl (fm_dec dtX9_readStep 50 rfl) ?_
        refine pv_getR (k := 28) (j := 1) (ci := 9) (pc := 92) 30 rfl (by decide) pfl_X9_15 (by decide) rfl (by decide) (fm_dec dtX9_readStep 51 rfl) ?_
        refine pv_iload (pc := 95) (i := 6) rfl (fm_dec dtX9_readStep 52 rfl) ?_
        refine pv_iload (pc := 97) (i := 5) rfl (fm_dec dtX9_readStep 53 rfl) ?_
        refine pv_iconst (pc := 99) (v := 3) (by decide) (fm_dec dtX9_readStep 54 rfl) ?_
        refine pv_icmp_ne (pc := 100) 107 (by decide) (fm_dec dtX9_readStep 55 rfl) (fun hc100 => ?_) (fun hc100 => ?_)
        · refine pv_aloadn (pc := 107) (n := 1) 1 rfl rfl (fm_dec dtX9_readStep 58 rfl) ?_
          refine pv_iconst (pc := 108) (v := 0) (by decide) (fm_dec dtX9_readStep 59 rfl) ?_
          refine pv_iloadn (pc := 109) (n := 2) 2 rfl rfl (fm_dec dtX9_readStep 60 rfl) ?_
          refine pv_iconst (pc := 110) (v := 1) (by decide) (fm_dec dtX9_readStep 61 rfl) ?_
          refine pv_isub (pc := 111) (fm_dec dtX9_readStep 62 rfl) ?_
          refine pv_invV2 (k := 1) (d' := 2) (pc := 112) pcv_X9_68 (by decide) rfl (Nat.le_of_ble_eq_true rfl) (by omega) (fm_dec dtX9_readStep 63 rfl) ?_
          refine s_num7 (by decide) (lv_1 hlv) hIS (fun n112 M112 b112 m112 hI112 f112 => ?_) (fun n112 M112 b112 m112 hI112 f112 => ?_)
          · refine pv_then1 ?_
            refine pv_iast (k := 30) (n := 150) (pc := 115) (by decide) rfl rfl (ix_in hz9 hz3) (fm_dec dtX9_readStep 64 rfl) ?_
            rw [i32_cl hz9]
            have hI115 : scInv Tx invX (fmI M112 30 z n112) := xInv.put hI112 (by rw [xi_30]; omega)
            refine pv_aloadn (pc := 116) (n := 1) 1 rfl rfl (fm_dec dtX9_readStep 65 rfl) ?_
            refine pv_invV0 (k := 1) (d' := 0) (pc := 117) pcv_X9_72 (by decide) rfl (Nat.le_of_ble_eq_true rfl) (by omega) (fm_dec dtX9_readStep 66 rfl) ?_
            refine s_failed hI115 (fun n117 M117 b117 m117 hI117 f117 => ?_) (fun n117 M117 b117 m117 hI117 f117 => ?_)
            · refine pv_then1 ?_
              refine pv_if_ne (pc := 120) 127 (by decide) (fm_dec dtX9_readStep 67 rfl) (fun hc120 => by exfalso; exact hc120 (n_0 b117)) (fun _ => ?_)
              refine pv_iconst (pc := 123) (v := 1) (by decide) (fm_dec dtX9_readStep 68 rfl) ?_
              refine pv_goto (pc := 124) 128 (by decide) (fm_dec dtX9_readStep 69 rfl) ?_
              exact pv_zreturn (pc := 128) rfl (by first | exact Or.inr rfl | exact Or.inl rfl) (fm_dec dtX9_readStep 71 rfl) (hE.1 M117 hI117 (scFr.trans (scFr.toI (scFr.trans (stpM_fr (scFr.trans (scFr.trans scFr.rfl f1 (by decide)) f9 (by decide)) hz3) f112 (by decide)) (in_xr (Or.inr (Or.inl rfl)) hz3)) f117 (by decide)) (xR.one hc60 (xT.trans (xT.of1 f1) (xT.of3 f9)) hz9 hz3 (xT.of3 f112) b112 (fun k i hk => (f117 k i rfl).1)))
            · refine pv_then1 ?_
              refine pv_if_ne (pc := 120) 127 (by decide) (fm_dec dtX9_readStep 67 rfl) (fun _ => ?_) (fun hc120 => by exfalso; rw [hc120] at b117; exact absurd b117 (by decide))
              refine pv_iconst (pc := 127) (v := 0) (by decide) (fm_dec dtX9_readStep 70 rfl) ?_
              exact pv_zreturn (pc := 128) rfl (by first | exact Or.inr rfl | exact Or.inl rfl) (fm_dec dtX9_readStep 71 rfl) (hE.2 M117 hI117 (scFr.trans (scFr.toI (scFr.trans (stpM_fr (scFr.trans (scFr.trans scFr.rfl f1 (by decide)) f9 (by decide)) hz3) f112 (by decide)) (in_xr (Or.inr (Or.inl rfl)) hz3)) f117 (by decide)))
          · refine pv_then1 ?_
            refine pv_iast (k := 30) (n := 150) (pc := 115) (by decide) rfl rfl (ix_in hz9 hz3) (fm_dec dtX9_readStep 64 rfl) ?_
            rw [i32_cl hz9]
            have hI115 : scInv Tx invX (fmI M112 30 z n112) := xInv.put hI112 (by rw [xi_30]; omega)
            refine pv_aloadn (pc := 116) (n := 1) 1 rfl rfl (fm_dec dtX9_readStep 65 rfl) ?_
            refine pv_invV0 (k := 1) (d' := 0) (pc := 117) pcv_X9_72 (by decide) rfl (Nat.le_of_ble_eq_true rfl) (by omega) (fm_dec dtX9_readStep 66 rfl) ?_
            refine s_failed hI115 (fun n117 M117 b117 m117 hI117 f117 => ?_) (fun n117 M117 b117 m117 hI117 f117 => ?_)
            · refine pv_then1 ?_
              exfalso
              have h9 : M117.1 1 4 = M112.1 1 4 := (by rw [(f117 1 4 rfl).1, fmI_k _ _ (by decide)])
              rw [h9] at m117
              omega
            · refine pv_then1 ?_
              refine pv_if_ne (pc := 120) 127 (by decide) (fm_dec dtX9_readStep 67 rfl) (fun _ => ?_) (fun hc120 => by exfalso; rw [hc120] at b117; exact absurd b117 (by decide))
              refine pv_iconst (pc := 127) (v := 0) (by decide) (fm_dec dtX9_readStep 70 rfl) ?_
              exact pv_zreturn (pc := 128) rfl (by first | exact Or.inr rfl | exact Or.inl rfl) (fm_dec dtX9_readStep 71 rfl) (hE.2 M117 hI117 (scFr.trans (scFr.toI (scFr.trans (stpM_fr (scFr.trans (scFr.trans scFr.rfl f1 (by decide)) f9 (by decide)) hz3) f112 (by decide)) (in_xr (Or.inr (Or.inl rfl)) hz3)) f117 (by decide)))
        · refine pv_iconst (pc := 103) (v := 0) (by decide) (fm_dec dtX9_readStep 56 rfl) ?_
          refine pv_goto (pc := 104) 115 (by decide) (fm_dec dtX9_readStep 57 rfl) ?_
          refine pv_iast (k := 30) (n := 150) (pc := 115) (by decide) rfl rfl (ix_in hz9 hz3) (fm_dec dtX9_readStep 64 rfl) ?_
          rw [i32_cl hz9]
          have hI115 : scInv Tx invX (fmI (stpM M9 n9 z) 30 z 0) := xInv.put hIS (by rw [xi_30]; decide)
          refine pv_aloadn (pc := 116) (n := 1) 1 rfl rfl (fm_dec dtX9_readStep 65 rfl) ?_
          refine pv_invV0 (k := 1) (d' := 0) (pc := 117) pcv_X9_72 (by decide) rfl (Nat.le_of_ble_eq_true rfl) (by omega) (fm_dec dtX9_readStep 66 rfl) ?_
          refine s_failed hI115 (fun n117 M117 b117 m117 hI117 f117 => ?_) (fun n117 M117 b117 m117 hI117 f117 => ?_)
          · refine pv_then1 ?_
            refine pv_if_ne (pc := 120) 127 (by decide) (fm_dec dtX9_readStep 67 rfl) (fun hc120 => by exfalso; exact hc120 (n_0 b117)) (fun _ => ?_)
            refine pv_iconst (pc := 123) (v := 1) (by decide) (fm_dec dtX9_readStep 68 rfl) ?_
            refine pv_goto (pc := 124) 128 (by decide) (fm_dec dtX9_readStep 69 rfl) ?_
            exact pv_zreturn (pc := 128) rfl (by first | exact Or.inr rfl | exact Or.inl rfl) (fm_dec dtX9_readStep 71 rfl) (hE.1 M117 hI117 (scFr.trans (scFr.toI (stpM_fr (scFr.trans (scFr.trans scFr.rfl f1 (by decide)) f9 (by decide)) hz3) (in_xr (Or.inr (Or.inl rfl)) hz3)) f117 (by decide)) (xR.one hc60 (xT.trans (xT.of1 f1) (xT.of3 f9)) hz9 hz3 (xT.refl _) (show 0 ≤ (0 : Int32).toInt ∧ (0 : Int32).toInt ≤ 7 by decide) (fun k i hk => (f117 k i rfl).1)))
          · refine pv_then1 ?_
            refine pv_if_ne (pc := 120) 127 (by decide) (fm_dec dtX9_readStep 67 rfl) (fun _ => ?_) (fun hc120 => by exfalso; rw [hc120] at b117; exact absurd b117 (by decide))
            refine pv_iconst (pc := 127) (v := 0) (by decide) (fm_dec dtX9_readStep 70 rfl) ?_
            exact pv_zreturn (pc := 128) rfl (by first | exact Or.inr rfl | exact Or.inl rfl) (fm_dec dtX9_readStep 71 rfl) (hE.2 M117 hI117 (scFr.trans (scFr.toI (stpM_fr (scFr.trans (scFr.trans scFr.rfl f1 (by decide)) f9 (by decide)) hz3) (in_xr (Or.inr (Or.inl rfl)) hz3)) f117 (by decide)))
      · refine pv_iloadn (pc := 63) (n := 3) 3 rfl rfl (fm_dec dtX9_readStep 33 rfl) ?_
        refine pv_bipush (pc := 64) (v := 6) (by decide) (fm_dec dtX9_readStep 34 rfl) ?_
        refine pv_icmp_lt (pc := 66) 79 (by decide) (fm_dec dtX9_readStep 35 rfl) (fun hc66 => by exfalso; rw [sc_lt] at hc66; have h9 : (6 : Int32).toInt = 6 := (by decide); omega) (fun _ => ?_)
        refine pv_aloadn (pc := 69) (n := 1) 1 rfl rfl (fm_dec dtX9_readStep 36 rfl) ?_
        refine pv_iconst (pc := 70) (v := 3) (by decide) (fm_dec dtX9_readStep 37 rfl) ?_
        refine pv_iload (pc := 71) (i := 4) rfl (fm_dec dtX9_readStep 38 rfl) ?_
        refine pv_invV2 (k := 1) (d' := 0) (pc := 73) pcv_X9_60 (by decide) rfl (Nat.le_of_ble_eq_true rfl) (by omega) (fm_dec dtX9_readStep 39 rfl) ?_
        refine s_fail3 (by decide) b1 hIS (fun n73 M73 b73 m73 hI73 f73 => ?_)
        refine pv_then1 ?_
        refine pv_goto (pc := 76) 90 (by decide) (fm_dec dtX9_readStep 40 rfl) ?_
        have e73 := n_0 b73
        subst e73
        exact pv_zreturn (pc := 90) rfl (Or.inl rfl) (fm_dec dtX9_readStep 49 rfl) (hE.2 M73 hI73 (scFr.trans (stpM_fr (scFr.trans (scFr.trans scFr.rfl f1 (by decide)) f9 (by decide)) hz3) f73 (by decide)))
    · refine pv_iconst (pc := 30) (v := 0) (by decide) (fm_dec dtX9_readStep 14 rfl) ?_
      exact pv_zreturn (pc := 31) rfl (by first | exact Or.inr rfl | exact Or.inl rfl) (fm_dec dtX9_readStep 15 rfl) (hE.2 M9 hI9 (scFr.trans (scFr.trans scFr.rfl f1 (by decide)) f9 (by decide)))
set_option maxRecDepth 20000 in
theorem xt_G {j : Nat} (hj : 1 ≤ j) (hA : xAg (j - 1)) : xSt j := by
  intro M Q z o lv op hI hz hz2 hlv hop hoj hE
  refine pvGood_of (Nat.le_of_ble_eq_true rfl) ?_
  show pvEv Tx (7 + 3 * j) qX9_readStep 0 [some (.ref 28), some (.ref 1), some (.int lv), some (.int op), none, none, none] [] M Q
  refine pv_aloadn (pc := 0) (n := 1) 1 rfl rfl (fm_dec dtX9_readStep 0 rfl) ?_
  refine pv_invV0 (k := 1) (d' := 1) (pc := 1) pcv_X9_51 (by decide) rfl (Nat.le_of_ble_eq_true rfl) (by omega) (fm_dec dtX9_readStep 1 rfl) ?_
  refine s_next hI (fun n1 M1 b1 hI1 f1 => ?_)
  refine pv_then1 ?_
  refine pv_istore (pc := 4) (i := 4) (by decide) rfl (fm_dec dtX9_readStep 2 rfl) ?_
  dsimp only [List.set_cons_zero, List.set_cons_succ]
  refine pv_aloadn (pc := 6) (n := 1) 1 rfl rfl (fm_dec dtX9_readStep 3 rfl) ?_
  refine pv_ldcT (i := 4) (pc := 7) pkn_X9_54 ptx_X9_54 (fm_dec dtX9_readStep 4 rfl) ?_
  refine pv_invV1 (k := 1) (d' := 5) (pc := 9) pcv_X9_56 (by decide) rfl (Nat.le_of_ble_eq_true rfl) (by omega) (fm_dec dtX9_readStep 5 rfl) ?_
  refine s_word hI1 (fun n9 M9 b9 hI9 f9 => ?_)
  refine pv_then1 ?_
  refine pv_istore (pc := 12) (i := 5) (by decide) rfl (fm_dec dtX9_readStep 6 rfl) ?_
  dsimp only [List.set_cons_zero, List.set_cons_succ]
  have hz9 : (M9.1 28 3).toInt = (z : Int) := (by rw [xT.of3 f9 28 3 (by decide), xT.of1 f1 28 3 (by decide)]; exact hz)
  refine pv_iload (pc := 14) (i := 5) rfl (fm_dec dtX9_readStep 7 rfl) ?_
  refine pv_iconst (pc := 16) (v := (-1)) (by decide) (fm_dec dtX9_readStep 8 rfl) ?_
  refine pv_icmp_eq (pc := 17) 30 (by decide) (fm_dec dtX9_readStep 9 rfl) (fun hc17 => ?_) (fun hc17 => ?_)
  · refine pv_iconst (pc := 30) (v := 0) (by decide) (fm_dec dtX9_readStep 14 rfl) ?_
    exact pv_zreturn (pc := 31) rfl (by first | exact Or.inr rfl | exact Or.inl rfl) (fm_dec dtX9_readStep 15 rfl) (hE.2 M9 hI9 (scFr.trans (scFr.trans scFr.rfl f1 (by decide)) f9 (by decide)))
  · refine pv_aloadn (pc := 20) (n := 0) 0 rfl rfl (fm_dec dtX9_readStep 10 rfl) ?_
    refine pv_getI (k := 28) (j := 3) (ci := 9) (pc := 21) pfl_X9_21 (by decide) rfl (by decide) (fm_dec dtX9_readStep 11 rfl) ?_
    refine pv_sipush (pc := 24) (v := 150) (by decide) (fm_dec dtX9_readStep 12 rfl) ?_
    refine pv_icmp_lt (pc := 27) 32 (by decide) (fm_dec dtX9_readStep 13 rfl) (fun hc27 => ?_) (fun hc27 => ?_)
    · have hz3 : z < 150 := (by rw [sc_lt] at hc27; have h9 : (150 : Int32).toInt = 150 := (by decide); omega)
      refine pv_aloadn (pc := 32) (n := 0) 0 rfl rfl (fm_dec dtX9_readStep 16 rfl) ?_
      refine pv_getI (k := 28) (j := 3) (ci := 9) (pc := 33) pfl_X9_21 (by decide) rfl (by decide) (fm_dec dtX9_readStep 17 rfl) ?_
      refine pv_istore (pc := 36) (i := 6) (by decide) rfl (fm_dec dtX9_readStep 18 rfl) ?_
      dsimp only [List.set_cons_zero, List.set_cons_succ]
      refine pv_aloadn (pc := 38) (n := 0) 0 rfl rfl (fm_dec dtX9_readStep 19 rfl) ?_
      refine pv_dup (pc := 39) rfl (fm_dec dtX9_readStep 20 rfl) ?_
      refine pv_getI (k := 28) (j := 3) (ci := 9) (pc := 40) pfl_X9_21 (by decide) rfl (by decide) (fm_dec dtX9_readStep 21 rfl) ?_
      refine pv_iconst (pc := 43) (v := 1) (by decide) (fm_dec dtX9_readStep 22 rfl) ?_
      refine pv_iadd (pc := 44) (fm_dec dtX9_readStep 23 rfl) ?_
      refine pv_putI (k := 28) (j := 3) (ci := 9) (pc := 45) pfl_X9_21 (by decide) rfl (by decide) (fm_dec dtX9_readStep 24 rfl) ?_
      refine pv_aloadn (pc := 48) (n := 0) 0 rfl rfl (fm_dec dtX9_readStep 25 rfl) ?_
      refine pv_getR (k := 28) (j := 0) (ci := 9) (pc := 49) 29 rfl (by decide) pfl_X9_9 (by decide) rfl (by decide) (fm_dec dtX9_readStep 26 rfl) ?_
      refine pv_iload (pc := 52) (i := 6) rfl (fm_dec dtX9_readStep 27 rfl) ?_
      refine pv_iload (pc := 54) (i := 5) rfl (fm_dec dtX9_readStep 28 rfl) ?_
      refine pv_iast (k := 29) (n := 150) (pc := 56) (by decide) rfl rfl (ix_in hz9 hz3) (fm_dec dtX9_readStep 29 rfl) ?_
      rw [i32_cl hz9]
      have hIS : scInv Tx invX (stpM M9 n9 z) := stpM_inv hI9 hz9 hz3 ⟨by have h9 : ¬ n9.toInt = -1 := (fun h9 => hc17 (i32_ext (h9.trans (by decide)))); omega, b9.2⟩
      refine pv_iload (pc := 57) (i := 5) rfl (fm_dec dtX9_readStep 30 rfl) ?_
      refine pv_iconst (pc := 59) (v := 4) (by decide) (fm_dec dtX9_readStep 31 rfl) ?_
      refine pv_icmp_ne (pc := 60) 91 (by decide) (fm_dec dtX9_readStep 32 rfl) (fun hc60 => ?_) (fun hc60 => ?_)
      · refine pv_aloadn (pc := 91) (n := 0) 0 rfl rfl (fm_dec dtX9_readStep 50 rfl) ?_
        refine pv_getR (k := 28) (j := 1) (ci := 9) (pc := 92) 30 rfl (by decide) pfl_X9_15 (by decide) rfl (by decide) (fm_dec dtX9_readStep 51 rfl) ?_
        refine pv_iload (pc := 95) (i := 6) rfl (fm_dec dtX9_readStep 52 rfl) ?_
        refine pv_iload (pc := 97) (i := 5) rfl (fm_dec dtX9_readStep 53 rfl) ?_
        refine pv_iconst (pc := 99) (v := 3) (by decide) (fm_dec dtX9_readStep 54 rfl) ?_
        refine pv_icmp_ne (pc := 100) 107 (by decide) (fm_dec dtX9_readStep 55 rfl) (fun hc100 => ?_) (fun hc100 => ?_)
        · refine pv_aloadn (pc := 107) (n := 1) 1 rfl rfl (fm_dec dtX9_readStep 58 rfl) ?_
          refine pv_iconst (pc := 108) (v := 0) (by decide) (fm_dec dtX9_readStep 59 rfl) ?_
          refine pv_iloadn (pc := 109) (n := 2) 2 rfl rfl (fm_dec dtX9_readStep 60 rfl) ?_
          refine pv_iconst (pc := 110) (v := 1) (by decide) (fm_dec dtX9_readStep 61 rfl) ?_
          refine pv_isub (pc := 111) (fm_dec dtX9_readStep 62 rfl) ?_
          refine pv_invV2 (k := 1) (d' := 2) (pc := 112) pcv_X9_68 (by decide) rfl (Nat.le_of_ble_eq_true rfl) (by omega) (fm_dec dtX9_readStep 63 rfl) ?_
          refine s_num7 (by decide) (lv_1 hlv) hIS (fun n112 M112 b112 m112 hI112 f112 => ?_) (fun n112 M112 b112 m112 hI112 f112 => ?_)
          · refine pv_then1 ?_
            refine pv_iast (k := 30) (n := 150) (pc := 115) (by decide) rfl rfl (ix_in hz9 hz3) (fm_dec dtX9_readStep 64 rfl) ?_
            rw [i32_cl hz9]
            have hI115 : scInv Tx invX (fmI M112 30 z n112) := xInv.put hI112 (by rw [xi_30]; omega)
            refine pv_aloadn (pc := 116) (n := 1) 1 rfl rfl (fm_dec dtX9_readStep 65 rfl) ?_
            refine pv_invV0 (k := 1) (d' := 0) (pc := 117) pcv_X9_72 (by decide) rfl (Nat.le_of_ble_eq_true rfl) (by omega) (fm_dec dtX9_readStep 66 rfl) ?_
            refine s_failed hI115 (fun n117 M117 b117 m117 hI117 f117 => ?_) (fun n117 M117 b117 m117 hI117 f117 => ?_)
            · refine pv_then1 ?_
              refine pv_if_ne (pc := 120) 127 (by decide) (fm_dec dtX9_readStep 67 rfl) (fun hc120 => by exfalso; exact hc120 (n_0 b117)) (fun _ => ?_)
              refine pv_iconst (pc := 123) (v := 1) (by decide) (fm_dec dtX9_readStep 68 rfl) ?_
              refine pv_goto (pc := 124) 128 (by decide) (fm_dec dtX9_readStep 69 rfl) ?_
              exact pv_zreturn (pc := 128) rfl (by first | exact Or.inr rfl | exact Or.inl rfl) (fm_dec dtX9_readStep 71 rfl) (hE.1 M117 hI117 (scFr.trans (scFr.toI (scFr.trans (stpM_fr (scFr.trans (scFr.trans scFr.rfl f1 (by decide)) f9 (by decide)) hz3) f112 (by decide)) (in_xr (Or.inr (Or.inl rfl)) hz3)) f117 (by decide)) (xR.one hc60 (xT.trans (xT.of1 f1) (xT.of3 f9)) hz9 hz3 (xT.of3 f112) b112 (fun k i hk => (f117 k i rfl).1)))
            · refine pv_then1 ?_
              refine pv_if_ne (pc := 120) 127 (by decide) (fm_dec dtX9_readStep 67 rfl) (fun _ => ?_) (fun hc120 => by exfalso; rw [hc120] at b117; exact absurd b117 (by decide))
              refine pv_iconst (pc := 127) (v := 0) (by decide) (fm_dec dtX9_readStep 70 rfl) ?_
              exact pv_zreturn (pc := 128) rfl (by first | exact Or.inr rfl | exact Or.inl rfl) (fm_dec dtX9_readStep 71 rfl) (hE.2 M117 hI117 (scFr.trans (scFr.toI (scFr.trans (stpM_fr (scFr.trans (scFr.trans scFr.rfl f1 (by decide)) f9 (by decide)) hz3) f112 (by decide)) (in_xr (Or.inr (Or.inl rfl)) hz3)) f117 (by decide)))
          · refine pv_then1 ?_
            refine pv_iast (k := 30) (n := 150) (pc := 115) (by decide) rfl rfl (ix_in hz9 hz3) (fm_dec dtX9_readStep 64 rfl) ?_
            rw [i32_cl hz9]
            have hI115 : scInv Tx invX (fmI M112 30 z n112) := xInv.put hI112 (by rw [xi_30]; omega)
            refine pv_aloadn (pc := 116) (n := 1) 1 rfl rfl (fm_dec dtX9_readStep 65 rfl) ?_
            refine pv_invV0 (k := 1) (d' := 0) (pc := 117) pcv_X9_72 (by decide) rfl (Nat.le_of_ble_eq_true rfl) (by omega) (fm_dec dtX9_readStep 66 rfl) ?_
            refine s_failed hI115 (fun n117 M117 b117 m117 hI117 f117 => ?_) (fun n117 M117 b117 m117 hI117 f117 => ?_)
            · refine pv_then1 ?_
              exfalso
              have h9 : M117.1 1 4 = M112.1 1 4 := (by rw [(f117 1 4 rfl).1, fmI_k _ _ (by decide)])
              rw [h9] at m117
              omega
            · refine pv_then1 ?_
              refine pv_if_ne (pc := 120) 127 (by decide) (fm_dec dtX9_readStep 67 rfl) (fun _ => ?_) (fun hc120 => by exfalso; rw [hc120] at b117; exact absurd b117 (by decide))
              refine pv_iconst (pc := 127) (v := 0) (by decide) (fm_dec dtX9_readStep 70 rfl) ?_
              exact pv_zreturn (pc := 128) rfl (by first | exact Or.inr rfl | exact Or.inl rfl) (fm_dec dtX9_readStep 71 rfl) (hE.2 M117 hI117 (scFr.trans (scFr.toI (scFr.trans (stpM_fr (scFr.trans (scFr.trans scFr.rfl f1 (by decide)) f9 (by decide)) hz3) f112 (by decide)) (in_xr (Or.inr (Or.inl rfl)) hz3)) f117 (by decide)))
        · refine pv_iconst (pc := 103) (v := 0) (by decide) (fm_dec dtX9_readStep 56 rfl) ?_
          refine pv_goto (pc := 104) 115 (by decide) (fm_dec dtX9_readStep 57 rfl) ?_
          refine pv_iast (k := 30) (n := 150) (pc := 115) (by decide) rfl rfl (ix_in hz9 hz3) (fm_dec dtX9_readStep 64 rfl) ?_
          rw [i32_cl hz9]
          have hI115 : scInv Tx invX (fmI (stpM M9 n9 z) 30 z 0) := xInv.put hIS (by rw [xi_30]; decide)
          refine pv_aloadn (pc := 116) (n := 1) 1 rfl rfl (fm_dec dtX9_readStep 65 rfl) ?_
          refine pv_invV0 (k := 1) (d' := 0) (pc := 117) pcv_X9_72 (by decide) rfl (Nat.le_of_ble_eq_true rfl) (by omega) (fm_dec dtX9_readStep 66 rfl) ?_
          refine s_failed hI115 (fun n117 M117 b117 m117 hI117 f117 => ?_) (fun n117 M117 b117 m117 hI117 f117 => ?_)
          · refine pv_then1 ?_
            refine pv_if_ne (pc := 120) 127 (by decide) (fm_dec dtX9_readStep 67 rfl) (fun hc120 => by exfalso; exact hc120 (n_0 b117)) (fun _ => ?_)
            refine pv_iconst (pc := 123) (v := 1) (by decide) (fm_dec dtX9_readStep 68 rfl) ?_
            refine pv_goto (pc := 124) 128 (by decide) (fm_dec dtX9_readStep 69 rfl) ?_
            exact pv_zreturn (pc := 128) rfl (by first | exact Or.inr rfl | exact Or.inl rfl) (fm_dec dtX9_readStep 71 rfl) (hE.1 M117 hI117 (scFr.trans (scFr.toI (stpM_fr (scFr.trans (scFr.trans scFr.rfl f1 (by decide)) f9 (by decide)) hz3) (in_xr (Or.inr (Or.inl rfl)) hz3)) f117 (by decide)) (xR.one hc60 (xT.trans (xT.of1 f1) (xT.of3 f9)) hz9 hz3 (xT.refl _) (show 0 ≤ (0 : Int32).toInt ∧ (0 : Int32).toInt ≤ 7 by decide) (fun k i hk => (f117 k i rfl).1)))
          · refine pv_then1 ?_
            refine pv_if_ne (pc := 120) 127 (by decide) (fm_dec dtX9_readStep 67 rfl) (fun _ => ?_) (fun hc120 => by exfalso; rw [hc120] at b117; exact absurd b117 (by decide))
            refine pv_iconst (pc := 127) (v := 0) (by decide) (fm_dec dtX9_readStep 70 rfl) ?_
            exact pv_zreturn (pc := 128) rfl (by first | exact Or.inr rfl | exact Or.inl rfl) (fm_dec dtX9_readStep 71 rfl) (hE.2 M117 hI117 (scFr.trans (scFr.toI (stpM_fr (scFr.trans (scFr.trans scFr.rfl f1 (by decide)) f9 (by decide)) hz3) (in_xr (Or.inr (Or.inl rfl)) hz3)) f117 (by decide)))
      · refine pv_iloadn (pc := 63) (n := 3) 3 rfl rfl (fm_dec dtX9_readStep 33 rfl) ?_
        refine pv_bipush (pc := 64) (v := 6) (by decide) (fm_dec dtX9_readStep 34 rfl) ?_
        refine pv_icmp_lt (pc := 66) 79 (by decide) (fm_dec dtX9_readStep 35 rfl) (fun _ => ?_) (fun hc66 => by exfalso; apply hc66; rw [sc_lt]; have h9 : (6 : Int32).toInt = 6 := (by decide); omega)
        have e9 : n9 = 4 := hc60
        refine pv_aloadn (pc := 79) (n := 0) 0 rfl rfl (fm_dec dtX9_readStep 41 rfl) ?_
        refine pv_aloadn (pc := 80) (n := 1) 1 rfl rfl (fm_dec dtX9_readStep 42 rfl) ?_
        refine pv_iloadn (pc := 81) (n := 2) 2 rfl rfl (fm_dec dtX9_readStep 43 rfl) ?_
        refine pv_iloadn (pc := 82) (n := 3) 3 rfl rfl (fm_dec dtX9_readStep 44 rfl) ?_
        refine pv_iconst (pc := 83) (v := 1) (by decide) (fm_dec dtX9_readStep 45 rfl) ?_
        refine pv_iadd (pc := 84) (fm_dec dtX9_readStep 46 rfl) ?_
        refine pv_iload (pc := 85) (i := 6) rfl (fm_dec dtX9_readStep 47 rfl) ?_
        refine pv_invV4 (k := 28) (d' := (9 + 3 * (j - 1))) (pc := 87) pcv_X9_64 (by decide) rfl (Nat.le_of_ble_eq_true rfl) (by omega) (fm_dec dtX9_readStep 48 rfl) ?_
        refine hA (stpM M9 n9 z) _ z (o + 1) lv (op + 1) _ hIS (by unfold stpM; rw [fmI_k _ _ (by decide), fmI_s]; exact i32_p1 hz9 (by omega)) hz3 hz9 (by unfold stpM; rw [fmI_s, e9]; decide) hlv (i32_p1 hop (by omega)) (by omega) ⟨fun M87 hI87 f87 k87 => ?_, fun M87 hI87 f87 => ?_⟩  
        · refine pv_then1 ?_
          exact pv_zreturn (pc := 90) rfl (by first | exact Or.inr rfl | exact Or.inl rfl) (fm_dec dtX9_readStep 49 rfl) (hE.1 M87 hI87 (scFr.trans (stpM_fr (scFr.trans (scFr.trans scFr.rfl f1 (by decide)) f9 (by decide)) hz3) f87 (by decide)) (xR.ag (xT.trans (xT.of1 f1) (xT.of3 f9)) k87))
        · refine pv_then1 ?_
          exact pv_zreturn (pc := 90) rfl (by first | exact Or.inr rfl | exact Or.inl rfl) (fm_dec dtX9_readStep 49 rfl) (hE.2 M87 hI87 (scFr.trans (stpM_fr (scFr.trans (scFr.trans scFr.rfl f1 (by decide)) f9 (by decide)) hz3) f87 (by decide)))
    · refine pv_iconst (pc := 30) (v := 0) (by decide) (fm_dec dtX9_readStep 14 rfl) ?_
      exact pv_zreturn (pc := 31) rfl (by first | exact Or.inr rfl | exact Or.inl rfl) (fm_dec dtX9_readStep 15 rfl) (hE.2 M9 hI9 (scFr.trans (scFr.trans scFr.rfl f1 (by decide)) f9 (by decide)))
theorem xg_all : ∀ j, xG j := by
  intro j
  induction j with
  | zero => exact xs_G xt_0
  | succ j ih => exact xs_G (xt_G (by omega) (xa_G ih))
end
-- P 12y
section
/-- steps are done -/
def xQ (M : fmM) (n g : Nat) : Prop := n ≤ 150 ∧ xS M 0 n ∧ scInv Tx invX M ∧ (M.1 28 4).toInt = (g : Int) ∧ g ≤ 200
theorem pfW_k {k j : Nat} (h : k = 29 ∨ k = 30 ∨ k = 31) : scIn pfW k j = false := by
  rcases h with rfl | rfl | rfl <;> rfl
theorem xQ.fr {M M' : fmM} {n g g' : Nat} (h : xQ M n g) (hf : scFr pfW M M') (hI : scInv Tx invX M') (hg : (M'.1 28 4).toInt = (g' : Int)) (h2 : g' ≤ 200) : xQ M' n g' :=
  ⟨h.1, fun i a b => (h.2.1 i a b).up (Nat.le_refl _) (fun k hk => (hf k i (pfW_k hk)).1), hI, hg, h2⟩
theorem pfFr.trans {M M1 M2 : fmM} (h : scFr pfW M M1) (h' : scFr pfW M1 M2) : scFr pfW M M2 := scFr.trans h h' (by decide)
def xpE (Q : fmR → fmM → Prop) (M : fmM) (g : Nat) : Prop := ∀ (M' : fmM) (g' : Nat), scInv Tx invX M' → scFr pfW M M' → (M'.1 28 4).toInt = (g' : Int) → g ≤ g' → g' ≤ 200 → Q (.inl none) M'
theorem xpE.fr {Q : fmR → fmM → Prop} {M M1 : fmM} {g g1 : Nat} (h : xpE Q M g) (hf : scFr pfW M M1) (hg : g ≤ g1) : xpE Q M1 g1 := fun M' g' a b c d e => h M' g' a (pfFr.trans hf b) c (by omega) e
def xpP (m : Nat) : Prop := ∀ (M : fmM) (Q : fmR → fmM → Prop) (n g aN tN : Nat) (fr to op a : Int32) (v7 : Option Value), xQ M n g → g + m = 200 → a.toInt = (aN : Int) → to.toInt = (tN : Int) → tN ≤ n → xpE Q M g → pvEv Tx (12 + m) qX9_perform 3 [some (.ref 28), some (.ref 32), some (.ref 47), some (.int fr), some (.int to), some (.int op), some (.int a), v7] [] M Q
def xpG (m : Nat) : Prop := ∀ (M : fmM) (Q : fmR → fmM → Prop) (n g aN tN : Nat) (to op a : Int32), xQ M n g → g + m = 200 → a.toInt = (aN : Int) → to.toInt = (tN : Int) → tN ≤ n → xpE Q M g → pvGood Tx (12 + m) qX9_perform [.ref 28, .ref 32, .ref 47, .int a, .int to, .int op] M Q
theorem mx_nat {x y : Int32} {p : Nat} (hx : x.toInt = (p : Int)) (hy : 0 ≤ y.toInt) : ∃ q : Nat, (pvMx true x y).toInt = (q : Int) := by
  show ∃ q : Nat, (if x.toInt ≤ y.toInt then y else x).toInt = (q : Int)
  split
  · exact ⟨y.toInt.toNat, by omega⟩
  · exact ⟨p, hx⟩
theorem inv_28 {M : fmM} {j : Nat} {x : Int32} (hI : scInv Tx invX M) (hj : j = 5 ∨ j = 6) : scInv Tx invX (fmI M 28 j x) := by
  rcases hj with rfl | rfl <;> exact xInv.put hI (scq_t x)
theorem inv_284 {M : fmM} {g : Nat} (hI : scInv Tx invX M) (hg : (M.1 28 4).toInt = (g : Int)) (h : g < 200) : scInv Tx invX (fmI M 28 4 (M.1 28 4 + 1)) := by
  have h1 := i32_p1 hg (by omega)
  refine xInv.put hI ⟨?_, ?_⟩
  · show (0 : Int) ≤ _
    omega
  · show _ ≤ (200 : Int)
    omega
theorem fr_28 {M0 M : fmM} {j : Nat} {x : Int32} (h : scFr pfW M0 M) (hj : j = 4 ∨ j = 5 ∨ j = 6) : scFr pfW M0 (fmI M 28 j x) := by
  rcases hj with rfl | rfl | rfl <;> exact scFr.toI h rfl
def tIx (r : fmR) : Prop := (∃ n : Int32, r = .inl (some (.int n))) ∨ r = .inr fmIAE
set_option maxRecDepth 20000 in
theorem xp_t {Q : fmR → fmM → Prop} {m : Nat} (ih : ∀ m' : Nat, m' < m → xpP m') {M : fmM} {n g aN tN : Nat} {fr to op a : Int32} {v7 : Option Value} (hG : xQ M n g) (hg : 200 - g < m) (ha : a.toInt = (aN : Int)) (ha150 : aN < 150) (ht : to.toInt = (tN : Int)) (htn : tN ≤ n) (hq : xpE Q M g) : pvEv Tx (12 + m) qX9_perform 108 [some (.ref 28), some (.ref 32), some (.ref 47), some (.int fr), some (.int to), some (.int op), some (.int a), v7] [] M Q := by
  refine pv_iload (pc := 108) (i := 6) rfl (fm_dec dtX9_perform 55 rfl) ?_
  refine pv_iconst (pc := 110) (v := 1) (by decide) (fm_dec dtX9_perform 56 rfl) ?_
  refine pv_iadd (pc := 111) (fm_dec dtX9_perform 57 rfl) ?_
  refine pv_aloadn (pc := 112) (n := 0) 0 rfl rfl (fm_dec dtX9_perform 58 rfl) ?_
  refine pv_getR (k := 28) (j := 2) (ci := 9) (pc := 113) 31 rfl (by decide) pfl_X9_18 (by decide) rfl (by decide) (fm_dec dtX9_perform 59 rfl) ?_
  refine pv_iload (pc := 116) (i := 6) rfl (fm_dec dtX9_perform 60 rfl) ?_
  refine pv_iald (k := 31) (n := 150) (pc := 118) (by decide) rfl rfl (ix_in ha ha150) (fm_dec dtX9_perform 61 rfl) ?_
  refine pv_mm (pc := 119) pmm_X9_80 (by omega) (Nat.le_of_ble_eq_true rfl) (fm_dec dtX9_perform 62 rfl) ?_
  refine pv_istore (pc := 122) (i := 6) (by decide) rfl (fm_dec dtX9_perform 63 rfl) ?_
  dsimp only [List.set_cons_zero, List.set_cons_succ]
  refine pv_goto (pc := 124) 3 (by decide) (fm_dec dtX9_perform 64 rfl) ?_
  obtain ⟨q, hq9⟩ := mx_nat (y := M.1 31 a.toNatClampNeg) (i32_p1 ha (by omega)) (hG.2.2.1.1 31 a.toNatClampNeg (show a.toInt.toNat < 150 by omega)).1
  exact (ih (200 - g) hg M Q n g q tN _ _ _ _ _ hG (by have := hG.2.2.2.2; omega) hq9 ht htn hq).up (by omega)
set_option maxRecDepth 20000 in
theorem xp_in {Q : fmR → fmM → Prop} {m : Nat} (hGG : ∀ m' : Nat, m' < m → xpG m') {n aN v : Nat} {fr to op a : Int32} (ha : a.toInt = (aN : Int)) (han : aN < n) (ha150 : aN < 150) (hv20 : v ≤ 20) : ∀ (q : Nat) (M : fmM) (g c : Nat) (cc : Int32), xQ M n g → 200 - g < m → (M.1 29 aN).toInt = 4 → (M.1 30 aN).toInt ≤ (v : Int) → cc.toInt = (c : Int) → c + q = v → (∀ (M' : fmM) (g' : Nat) (v7 : Option Value), xQ M' n g' → scFr pfW M M' → g ≤ g' → pvEv Tx (12 + m) qX9_perform 108 [some (.ref 28), some (.ref 32), some (.ref 47), some (.int fr), some (.int to), some (.int op), some (.int a), v7] [] M' Q) → pvEv Tx (12 + m) qX9_perform 59 [some (.ref 28), some (.ref 32), some (.ref 47), some (.int fr), some (.int to), some (.int op), some (.int a), some (.int cc)] [] M Q := by
  intro q
  induction q with
  | zero =>
    intro M g c cc hG hg h29 hv hc hcq hq
    refine pv_iload (pc := 59) (i := 7) rfl (fm_dec dtX9_perform 29 rfl) ?_
    refine pv_aloadn (pc := 61) (n := 0) 0 rfl rfl (fm_dec dtX9_perform 30 rfl) ?_
    refine pv_getR (k := 28) (j := 1) (ci := 9) (pc := 62) 30 rfl (by decide) pfl_X9_15 (by decide) rfl (by decide) (fm_dec dtX9_perform 31 rfl) ?_
    refine pv_iload (pc := 65) (i := 6) rfl (fm_dec dtX9_perform 32 rfl) ?_
    refine pv_iald (k := 30) (n := 150) (pc := 67) (by decide) rfl rfl (ix_in ha ha150) (fm_dec dtX9_perform 33 rfl) ?_
    refine pv_icmp_ge (pc := 68) 108 (by decide) (fm_dec dtX9_perform 34 rfl) (fun _ => ?_) (fun hc68 => by exfalso; apply hc68; rw [sc_le, i32_cl ha]; omega)
    exact hq M g _ hG scFr.rfl (Nat.le_refl _)
  | succ q ih =>
    intro M g c cc hG hg h29 hv hc hcq hq
    refine pv_iload (pc := 59) (i := 7) rfl (fm_dec dtX9_perform 29 rfl) ?_
    refine pv_aloadn (pc := 61) (n := 0) 0 rfl rfl (fm_dec dtX9_perform 30 rfl) ?_
    refine pv_getR (k := 28) (j := 1) (ci := 9) (pc := 62) 30 rfl (by decide) pfl_X9_15 (by decide) rfl (by decide) (fm_dec dtX9_perform 31 rfl) ?_
    refine pv_iload (pc := 65) (i := 6) rfl (fm_dec dtX9_perform 32 rfl) ?_
    refine pv_iald (k := 30) (n := 150) (pc := 67) (by decide) rfl rfl (ix_in ha ha150) (fm_dec dtX9_perform 33 rfl) ?_
    refine pv_icmp_ge (pc := 68) 108 (by decide) (fm_dec dtX9_perform 34 rfl) (fun hc68 => ?_) (fun hc68 => ?_)
    · exact hq M g _ hG scFr.rfl (Nat.le_refl _)
    · have hlt : c < v := (by have h9 := hc68; rw [sc_le, i32_cl ha] at h9; omega)
      obtain ⟨e, he, hen⟩ : ∃ e : Nat, (M.1 31 aN).toInt = (e : Int) ∧ e ≤ n := (by have h0 : 0 ≤ (M.1 31 aN).toInt := (hG.2.2.1.1 31 aN ha150).1; have h9 := (hG.2.1 aN (Nat.zero_le _) han).1 h29; exact ⟨(M.1 31 aN).toInt.toNat, by omega, by omega⟩)
      refine pv_aloadn (pc := 71) (n := 0) 0 rfl rfl (fm_dec dtX9_perform 35 rfl) ?_
      refine pv_getI (k := 28) (j := 4) (ci := 9) (pc := 72) pfl_X9_25 (by decide) rfl (by decide) (fm_dec dtX9_perform 36 rfl) ?_
      refine pv_sipush (pc := 75) (v := 200) (by decide) (fm_dec dtX9_perform 37 rfl) ?_
      refine pv_icmp_ge (pc := 78) 108 (by decide) (fm_dec dtX9_perform 38 rfl) (fun hc78 => ?_) (fun hc78 => ?_)
      · exact hq M g _ hG scFr.rfl (Nat.le_refl _)
      · refine pv_aloadn (pc := 81) (n := 0) 0 rfl rfl (fm_dec dtX9_perform 39 rfl) ?_
        refine pv_aloadn (pc := 82) (n := 1) 1 rfl rfl (fm_dec dtX9_perform 40 rfl) ?_
        refine pv_aloadn (pc := 83) (n := 2) 2 rfl rfl (fm_dec dtX9_perform 41 rfl) ?_
        refine pv_iload (pc := 84) (i := 6) rfl (fm_dec dtX9_perform 42 rfl) ?_
        refine pv_iconst (pc := 86) (v := 1) (by decide) (fm_dec dtX9_perform 43 rfl) ?_
        refine pv_iadd (pc := 87) (fm_dec dtX9_perform 44 rfl) ?_
        refine pv_aloadn (pc := 88) (n := 0) 0 rfl rfl (fm_dec dtX9_perform 45 rfl) ?_
        refine pv_getR (k := 28) (j := 2) (ci := 9) (pc := 89) 31 rfl (by decide) pfl_X9_18 (by decide) rfl (by decide) (fm_dec dtX9_perform 46 rfl) ?_
        refine pv_iload (pc := 92) (i := 6) rfl (fm_dec dtX9_perform 47 rfl) ?_
        refine pv_iald (k := 31) (n := 150) (pc := 94) (by decide) rfl rfl (ix_in ha ha150) (fm_dec dtX9_perform 48 rfl) ?_
        refine pv_iload (pc := 95) (i := 5) rfl (fm_dec dtX9_perform 49 rfl) ?_
        refine pv_iconst (pc := 97) (v := 1) (by decide) (fm_dec dtX9_perform 50 rfl) ?_
        refine pv_iadd (pc := 98) (fm_dec dtX9_perform 51 rfl) ?_
        refine pv_invV5 (k := 28) (d' := (12 + (200 - g))) (pc := 99) pcv_X9_76 (by decide) rfl (Nat.le_of_ble_eq_true rfl) (by omega) (fm_dec dtX9_perform 52 rfl) ?_
        refine hGG (200 - g) hg M _ n g (aN + 1) e (M.1 31 a.toNatClampNeg) (op + 1) (a + 1) hG (by have := hG.2.2.2.2; omega) (i32_p1 ha (by omega)) (by rw [i32_cl ha]; exact he) hen (fun M99 g99 hI99 f99 hg99 a99 c99 => ?_) 
        refine pv_then0 ?_
        refine pv_iincc (pc := 102) 7 1 (by decide) rfl (by decide) rfl (fm_dec dtX9_perform 53 rfl) ?_
        dsimp only [List.set_cons_zero, List.set_cons_succ]
        refine pv_goto (pc := 105) 59 (by decide) (fm_dec dtX9_perform 54 rfl) ?_
        refine ih M99 g99 (c + 1) _ (hG.fr f99 hI99 hg99 c99) (by omega) (by rw [(f99 29 aN rfl).1]; exact h29) (by rw [(f99 30 aN rfl).1]; exact hv) (i32_p1 hc (by omega)) (by omega) (fun M9 g9 v9 a b d => hq M9 g9 v9 a (pfFr.trans f99 b) (by omega))
theorem xp_G {m : Nat} (h : xpP m) : xpG m := by
  intro M Q n g aN tN to op a hG hm ha ht htn hq
  refine pvGood_of (Nat.le_of_ble_eq_true rfl) ?_
  show pvEv Tx (12 + m) qX9_perform 0 [some (.ref 28), some (.ref 32), some (.ref 47), some (.int a), some (.int to), some (.int op), none, none] [] M Q
  refine pv_iloadn (pc := 0) (n := 3) 3 rfl rfl (fm_dec dtX9_perform 0 rfl) ?_
  refine pv_istore (pc := 1) (i := 6) (by decide) rfl (fm_dec dtX9_perform 1 rfl) ?_
  dsimp only [List.set_cons_zero, List.set_cons_succ]
  exact h M Q n g aN tN a to op a none hG hm ha ht htn hq
set_option maxRecDepth 20000 in
theorem xp_P : ∀ m, xpP m := by
  intro m
  induction m using Nat.strongRecOn with
  | _ m ih =>
    intro M Q n g aN tN fr to op a v7 hG hm ha ht htn hq
    have h4 := hG.2.2.2.1
    refine pv_iload (pc := 3) (i := 6) rfl (fm_dec dtX9_perform 2 rfl) ?_
    refine pv_iload (pc := 5) (i := 4) rfl (fm_dec dtX9_perform 3 rfl) ?_
    refine pv_icmp_ge (pc := 7) 178 (by decide) (fm_dec dtX9_perform 4 rfl) (fun hc7 => ?_) (fun hc7 => ?_)
    · exact pv_return (pc := 178) rfl (fm_dec dtX9_perform 92 rfl) (hq M g hG.2.2.1 scFr.rfl h4 (Nat.le_refl _) hG.2.2.2.2)
    · refine pv_iload (pc := 10) (i := 6) rfl (fm_dec dtX9_perform 5 rfl) ?_
      refine pv_sipush (pc := 12) (v := 150) (by decide) (fm_dec dtX9_perform 6 rfl) ?_
      refine pv_icmp_ge (pc := 15) 178 (by decide) (fm_dec dtX9_perform 7 rfl) (fun hc15 => ?_) (fun hc15 => ?_)
      · exact pv_return (pc := 178) rfl (fm_dec dtX9_perform 92 rfl) (hq M g hG.2.2.1 scFr.rfl h4 (Nat.le_refl _) hG.2.2.2.2)
      · refine pv_aloadn (pc := 18) (n := 0) 0 rfl rfl (fm_dec dtX9_perform 8 rfl) ?_
        refine pv_getI (k := 28) (j := 4) (ci := 9) (pc := 19) pfl_X9_25 (by decide) rfl (by decide) (fm_dec dtX9_perform 9 rfl) ?_
        refine pv_sipush (pc := 22) (v := 200) (by decide) (fm_dec dtX9_perform 10 rfl) ?_
        refine pv_icmp_ge (pc := 25) 178 (by decide) (fm_dec dtX9_perform 11 rfl) (fun hc25 => ?_) (fun hc25 => ?_)
        · exact pv_return (pc := 178) rfl (fm_dec dtX9_perform 92 rfl) (hq M g hG.2.2.1 scFr.rfl h4 (Nat.le_refl _) hG.2.2.2.2)
        · refine pv_iload (pc := 28) (i := 5) rfl (fm_dec dtX9_perform 12 rfl) ?_
          refine pv_bipush (pc := 30) (v := 6) (by decide) (fm_dec dtX9_perform 13 rfl) ?_
          refine pv_icmp_gt (pc := 32) 178 (by decide) (fm_dec dtX9_perform 14 rfl) (fun hc32 => ?_) (fun hc32 => ?_)
          · exact pv_return (pc := 178) rfl (fm_dec dtX9_perform 92 rfl) (hq M g hG.2.2.1 scFr.rfl h4 (Nat.le_refl _) hG.2.2.2.2)
          · have hg2 : g < 200 := (by rw [sc_le] at hc25; have h9 : (200 : Int32).toInt = 200 := (by decide); omega)
            have han : aN < n := (by rw [sc_le] at hc7; omega)
            have ha150 : aN < 150 := (by have := hG.1; omega)
            have hI1 := inv_284 hG.2.2.1 h4 hg2
            have f1 := fr_28 (j := 4) (x := M.1 28 4 + 1) (scFr.rfl (M := M)) (by omega)
            have h1r : ∀ k i, k ≠ 28 → (fmI M 28 4 (M.1 28 4 + 1)).1 k i = M.1 k i := fun k i hk => by rw [fmI_k _ _ hk]
            have hG1 : xQ (fmI M 28 4 (M.1 28 4 + 1)) n (g + 1) := hG.fr f1 hI1 (by rw [fmI_s]; exact i32_p1 h4 (by omega)) (by omega)
            refine pv_aloadn (pc := 35) (n := 0) 0 rfl rfl (fm_dec dtX9_perform 15 rfl) ?_
            refine pv_dup (pc := 36) rfl (fm_dec dtX9_perform 16 rfl) ?_
            refine pv_getI (k := 28) (j := 4) (ci := 9) (pc := 37) pfl_X9_25 (by decide) rfl (by decide) (fm_dec dtX9_perform 17 rfl) ?_
            refine pv_iconst (pc := 40) (v := 1) (by decide) (fm_dec dtX9_perform 18 rfl) ?_
            refine pv_iadd (pc := 41) (fm_dec dtX9_perform 19 rfl) ?_
            refine pv_putI (k := 28) (j := 4) (ci := 9) (pc := 42) pfl_X9_25 (by decide) rfl (by decide) (fm_dec dtX9_perform 20 rfl) ?_
            refine pv_aloadn (pc := 45) (n := 0) 0 rfl rfl (fm_dec dtX9_perform 21 rfl) ?_
            refine pv_getR (k := 28) (j := 0) (ci := 9) (pc := 46) 29 rfl (by decide) pfl_X9_9 (by decide) rfl (by decide) (fm_dec dtX9_perform 22 rfl) ?_
            refine pv_iload (pc := 49) (i := 6) rfl (fm_dec dtX9_perform 23 rfl) ?_
            refine pv_iald (k := 29) (n := 150) (pc := 51) (by decide) rfl rfl (ix_in ha ha150) (fm_dec dtX9_perform 24 rfl) ?_
            refine pv_iconst (pc := 52) (v := 4) (by decide) (fm_dec dtX9_perform 25 rfl) ?_
            refine pv_icmp_ne (pc := 53) 127 (by decide) (fm_dec dtX9_perform 26 rfl) (fun hc53 => ?_) (fun hc53 => ?_)
            · have hn4 : ¬ (M.1 29 aN).toInt = 4 := (fun h9 => hc53 (by rw [i32_cl ha, h1r 29 aN (by decide)]; exact i32_ext (h9.trans (by decide))))
              have hnum : 0 ≤ (M.1 30 aN).toInt ∧ (M.1 30 aN).toInt ≤ 7 := (hG.2.1 aN (Nat.zero_le _) han).2 hn4
              refine pv_aloadn (pc := 127) (n := 1) 1 rfl rfl (fm_dec dtX9_perform 65 rfl) ?_
              refine pv_aloadn (pc := 128) (n := 2) 2 rfl rfl (fm_dec dtX9_perform 66 rfl) ?_
              refine pv_aloadn (pc := 129) (n := 0) 0 rfl rfl (fm_dec dtX9_perform 67 rfl) ?_
              refine pv_getR (k := 28) (j := 0) (ci := 9) (pc := 130) 29 rfl (by decide) pfl_X9_9 (by decide) rfl (by decide) (fm_dec dtX9_perform 68 rfl) ?_
              refine pv_iload (pc := 133) (i := 6) rfl (fm_dec dtX9_perform 69 rfl) ?_
              refine pv_iald (k := 29) (n := 150) (pc := 135) (by decide) rfl rfl (ix_in ha ha150) (fm_dec dtX9_perform 70 rfl) ?_
              refine pv_aloadn (pc := 136) (n := 0) 0 rfl rfl (fm_dec dtX9_perform 71 rfl) ?_
              refine pv_getR (k := 28) (j := 1) (ci := 9) (pc := 137) 30 rfl (by decide) pfl_X9_15 (by decide) rfl (by decide) (fm_dec dtX9_perform 72 rfl) ?_
              refine pv_iload (pc := 140) (i := 6) rfl (fm_dec dtX9_perform 73 rfl) ?_
              refine pv_iald (k := 30) (n := 150) (pc := 142) (by decide) rfl rfl (ix_in ha ha150) (fm_dec dtX9_perform 74 rfl) ?_
              refine pv_iS4 (d' := 5) (pc := 143) pcs_X9_85 (Nat.le_of_ble_eq_true rfl) (by omega) (fm_dec dtX9_perform 75 rfl) ?_
              refine s_pstep (by rw [i32_cl ha, h1r 29 aN (by decide)]; have h9 := hG.2.2.1.1 29 aN ha150; rw [xi_29] at h9; have h8 : 0 ≤ (M.1 29 aN).toInt ∧ (M.1 29 aN).toInt ≤ 4 := h9; omega) (by rw [i32_cl ha, h1r 30 aN (by decide)]; exact hnum) hI1 (fun n143 M143 b143 hI143 f143 => ?_)
              refine pv_then1 ?_
              refine pv_if_eq (pc := 146) 162 (by decide) (fm_dec dtX9_perform 76 rfl) (fun hc146 => ?_) (fun hc146 => ?_)
              · refine pv_aloadn (pc := 162) (n := 0) 0 rfl rfl (fm_dec dtX9_perform 84 rfl) ?_
                refine pv_dup (pc := 163) rfl (fm_dec dtX9_perform 85 rfl) ?_
                refine pv_getI (k := 28) (j := 6) (ci := 9) (pc := 164) pfl_X9_31 (by decide) rfl (by decide) (fm_dec dtX9_perform 86 rfl) ?_
                refine pv_iconst (pc := 167) (v := 1) (by decide) (fm_dec dtX9_perform 87 rfl) ?_
                refine pv_iadd (pc := 168) (fm_dec dtX9_perform 88 rfl) ?_
                refine pv_putI (k := 28) (j := 6) (ci := 9) (pc := 169) pfl_X9_31 (by decide) rfl (by decide) (fm_dec dtX9_perform 89 rfl) ?_
                refine pv_iincc (pc := 172) 6 1 (by decide) rfl (by decide) rfl (fm_dec dtX9_perform 90 rfl) ?_
                dsimp only [List.set_cons_zero, List.set_cons_succ]
                refine pv_goto (pc := 175) 3 (by decide) (fm_dec dtX9_perform 91 rfl) ?_
                have f9 := fr_28 (j := 6) (x := M143.1 28 6 + 1) (scFr.trans f1 f143 (by decide)) (by omega)
                exact (ih (200 - (g + 1)) (by omega) _ Q n (g + 1) (aN + 1) tN _ _ _ _ _ (hG.fr f9 (inv_28 hI143 (by omega)) (by rw [fmI_j _ _ (by decide), (f143 28 4 rfl).1, fmI_s]; exact i32_p1 h4 (by omega)) (by omega)) (by omega) (i32_p1 ha (by omega)) ht htn (hq.fr f9 (by omega))).up (by omega)
              · refine pv_aloadn (pc := 149) (n := 0) 0 rfl rfl (fm_dec dtX9_perform 77 rfl) ?_
                refine pv_dup (pc := 150) rfl (fm_dec dtX9_perform 78 rfl) ?_
                refine pv_getI (k := 28) (j := 5) (ci := 9) (pc := 151) pfl_X9_28 (by decide) rfl (by decide) (fm_dec dtX9_perform 79 rfl) ?_
                refine pv_iconst (pc := 154) (v := 1) (by decide) (fm_dec dtX9_perform 80 rfl) ?_
                refine pv_iadd (pc := 155) (fm_dec dtX9_perform 81 rfl) ?_
                refine pv_putI (k := 28) (j := 5) (ci := 9) (pc := 156) pfl_X9_28 (by decide) rfl (by decide) (fm_dec dtX9_perform 82 rfl) ?_
                refine pv_goto (pc := 159) 172 (by decide) (fm_dec dtX9_perform 83 rfl) ?_
                refine pv_iincc (pc := 172) 6 1 (by decide) rfl (by decide) rfl (fm_dec dtX9_perform 90 rfl) ?_
                dsimp only [List.set_cons_zero, List.set_cons_succ]
                refine pv_goto (pc := 175) 3 (by decide) (fm_dec dtX9_perform 91 rfl) ?_
                have f9 := fr_28 (j := 5) (x := M143.1 28 5 + 1) (scFr.trans f1 f143 (by decide)) (by omega)
                exact (ih (200 - (g + 1)) (by omega) _ Q n (g + 1) (aN + 1) tN _ _ _ _ _ (hG.fr f9 (inv_28 hI143 (by omega)) (by rw [fmI_j _ _ (by decide), (f143 28 4 rfl).1, fmI_s]; exact i32_p1 h4 (by omega)) (by omega)) (by omega) (i32_p1 ha (by omega)) ht htn (hq.fr f9 (by omega))).up (by omega)
            · refine pv_iconst (pc := 56) (v := 0) (by decide) (fm_dec dtX9_perform 27 rfl) ?_
              refine pv_istore (pc := 57) (i := 7) (by decide) rfl (fm_dec dtX9_perform 28 rfl) ?_
              dsimp only [List.set_cons_zero, List.set_cons_succ]
              have h29 : (M.1 29 aN).toInt = 4 := (by have h9 := hc53; rw [i32_cl ha, h1r 29 aN (by decide)] at h9; rw [h9]; decide)
              have hv9 : -1 ≤ (M.1 30 aN).toInt ∧ (M.1 30 aN).toInt ≤ 20 := (by have h9 := hG.2.2.1.1 30 aN ha150; rw [xi_30] at h9; exact h9)
              exact xp_in (fun m' h9 => xp_G (ih m' h9)) ha han ha150 (Nat.le_refl 20) 20 _ (g + 1) 0 0 hG1 (by omega) (by rw [h1r 29 aN (by decide)]; exact h29) (by rw [h1r 30 aN (by decide)]; exact hv9.2) (by decide) (by omega) (fun M' g' v7 h9 f9 a9 => xp_t ih h9 (by omega) ha ha150 ht htn (hq.fr (pfFr.trans f1 f9) (by omega)))
abbrev kpW : List (Nat × Nat × Nat) := [(46, 2, 1), (50, 1, 6), (51, 1, 6), (52, 1, 6), (53, 1, 6), (54, 1, 6), (55, 1, 6), (56, 1, 6), (57, 1, 6), (58, 1, 6), (59, 1, 6), (60, 1, 6), (61, 1, 6), (62, 1, 6), (63, 1, 6), (64, 1, 6), (65, 1, 6), (66, 0, 8), (67, 0, 8), (68, 0, 8), (69, 0, 8), (70, 0, 8), (71, 0, 8), (72, 0, 8), (73, 0, 8), (74, 0, 8), (75, 0, 8), (76, 0, 8), (77, 0, 8), (78, 0, 8), (79, 0, 8), (80, 0, 8), (81, 0, 8)]
def rdM (M : fmM) : fmM := fmI (fmI (fmI (fmI M 28 3 0) 28 4 0) 28 5 0) 28 6 0
set_option maxRecDepth 20000 in
theorem c_xread {M : fmM} {Q : fmR → fmM → Prop} {lv : Int32} (hI : scInv Tx invX M) (hlv : 0 ≤ lv.toInt ∧ lv.toInt ≤ 8) (hq : ∀ (M' : fmM) (z : Nat), scInv Tx invX M' → scFr [(1, 3, 3), (28, 3, 4), (29, 0, 150), (30, 0, 150), (31, 0, 150)] M M' → (M'.1 28 4).toInt = 0 → (M'.1 28 3).toInt = (z : Int) → z ≤ 150 → xS M' 0 z → Q (.inl (some (.int 1))) M') (hn : ∀ M' : fmM, scInv Tx invX M' → scFr [(1, 3, 3), (28, 3, 4), (29, 0, 150), (30, 0, 150), (31, 0, 150)] M M' → Q (.inl (some (.int 0))) M') : pvGood Tx 27 qX9_read [.ref 28, .ref 1, .int lv] M Q := by
  refine pvGood_of (Nat.le_of_ble_eq_true rfl) ?_
  show pvEv Tx 27 qX9_read 0 [some (.ref 28), some (.ref 1), some (.int lv)] [] M Q
  refine pv_aloadn (pc := 0) (n := 0) 0 rfl rfl (fm_dec dtX9_read 0 rfl) ?_
  refine pv_iconst (pc := 1) (v := 0) (by decide) (fm_dec dtX9_read 1 rfl) ?_
  refine pv_putI (k := 28) (j := 3) (ci := 9) (pc := 2) pfl_X9_21 (by decide) rfl (by decide) (fm_dec dtX9_read 2 rfl) ?_
  refine pv_aloadn (pc := 5) (n := 0) 0 rfl rfl (fm_dec dtX9_read 3 rfl) ?_
  refine pv_iconst (pc := 6) (v := 0) (by decide) (fm_dec dtX9_read 4 rfl) ?_
  refine pv_putI (k := 28) (j := 4) (ci := 9) (pc := 7) pfl_X9_25 (by decide) rfl (by decide) (fm_dec dtX9_read 5 rfl) ?_
  refine pv_aloadn (pc := 10) (n := 0) 0 rfl rfl (fm_dec dtX9_read 6 rfl) ?_
  refine pv_iconst (pc := 11) (v := 0) (by decide) (fm_dec dtX9_read 7 rfl) ?_
  refine pv_putI (k := 28) (j := 5) (ci := 9) (pc := 12) pfl_X9_28 (by decide) rfl (by decide) (fm_dec dtX9_read 8 rfl) ?_
  refine pv_aloadn (pc := 15) (n := 0) 0 rfl rfl (fm_dec dtX9_read 9 rfl) ?_
  refine pv_iconst (pc := 16) (v := 0) (by decide) (fm_dec dtX9_read 10 rfl) ?_
  refine pv_putI (k := 28) (j := 6) (ci := 9) (pc := 17) pfl_X9_31 (by decide) rfl (by decide) (fm_dec dtX9_read 11 rfl) ?_
  have hI2 : scInv Tx invX (rdM M) := inv_28 (inv_28 (xInv.put (xInv.put hI (by decide)) (by decide)) (Or.inl rfl)) (Or.inr rfl)
  have f2 : scFr [(1, 3, 3), (28, 3, 4), (29, 0, 150), (30, 0, 150), (31, 0, 150)] M (rdM M) := scFr.toI (scFr.toI (scFr.toI (scFr.toI scFr.rfl rfl) rfl) rfl) rfl
  refine pv_aloadn (pc := 20) (n := 0) 0 rfl rfl (fm_dec dtX9_read 12 rfl) ?_
  refine pv_aloadn (pc := 21) (n := 1) 1 rfl rfl (fm_dec dtX9_read 13 rfl) ?_
  refine pv_iloadn (pc := 22) (n := 2) 2 rfl rfl (fm_dec dtX9_read 14 rfl) ?_
  refine pv_iconst (pc := 23) (v := 0) (by decide) (fm_dec dtX9_read 15 rfl) ?_
  refine pv_invV3 (k := 28) (d' := (8 + 3 * 6)) (pc := 24) pcv_X9_34 (by decide) rfl (Nat.le_of_ble_eq_true rfl) (by omega) (fm_dec dtX9_read 16 rfl) ?_
  refine xg_all 6 (rdM M) _ 0 0 lv 0 hI2 rfl (by decide) hlv rfl (by decide) ⟨fun M24 hI24 f24 k24 => ?_, fun M24 hI24 f24 => ?_⟩  
  · refine pv_then1 ?_
    exact pv_zreturn (pc := 27) rfl (by first | exact Or.inr rfl | exact Or.inl rfl) (fm_dec dtX9_read 17 rfl) (by obtain ⟨z, a, b, c, d, e⟩ := k24; exact hq M24 z hI24 (scFr.trans f2 f24 (by decide)) (by rw [(f24 28 4 rfl).1]; rfl) a c e)
  · refine pv_then1 ?_
    exact pv_zreturn (pc := 27) rfl (by first | exact Or.inr rfl | exact Or.inl rfl) (fm_dec dtX9_read 17 rfl) (hn M24 hI24 (scFr.trans f2 f24 (by decide)))
theorem kpW_k {k j : Nat} (h : k < 46) : scIn kpW k j = false := by
  unfold scIn
  rw [List.any_eq_false]
  intro w hw
  have h9 : ∀ w ∈ kpW, 46 ≤ w.1 := by decide
  have h8 := h9 w hw
  have e : (w.1 == k) = false := by
    rw [beq_eq_false_iff_ne]
    omega
  rw [e]
  simp
set_option maxRecDepth 20000 in
theorem xt_work {M : fmM} {Q : fmR → fmM → Prop} {nn : Int32} (hI : scInv Tx invX M) (hq : ∀ (r : fmR) (M' : fmM), tIx r → scInv Tx invX M' → Q r M') : pvGood Tx 213 qX10_work [.ref 0, .int nn] M Q := by
  refine pvGood_of (Nat.le_of_ble_eq_true rfl) ?_
  show pvEv Tx 213 qX10_work 0 [some (.ref 0), some (.int nn)] [] M Q
  refine pv_aloadn (pc := 0) (n := 0) 0 rfl rfl (fm_dec dtX10_work 0 rfl) ?_
  refine pv_iloadn (pc := 1) (n := 1) 1 rfl rfl (fm_dec dtX10_work 1 rfl) ?_
  refine pv_sipush (pc := 2) (v := 150) (by decide) (fm_dec dtX10_work 2 rfl) ?_
  refine pv_invV2 (k := 0) (d' := 1) (pc := 5) pcv_X10_108 (by decide) rfl (Nat.le_of_ble_eq_true rfl) (by omega) (fm_dec dtX10_work 3 rfl) ?_
  refine s_open (scq_t nn) (scq_t 150) hI (fun M5 hI5 f5 => ?_) (fun M5 hI5 f5 => ?_)
  · refine pv_then0 ?_
    refine pv_aloadn (pc := 8) (n := 0) 0 rfl rfl (fm_dec dtX10_work 4 rfl) ?_
    refine pv_getR (k := 0) (j := 9) (ci := 10) (pc := 9) 46 rfl (by decide) pfl_X10_75 (by decide) rfl (by decide) (fm_dec dtX10_work 5 rfl) ?_
    refine pv_getI (k := 46) (j := 2) (ci := 5) (pc := 12) pfl_X10_126 (by decide) rfl (by decide) (fm_dec dtX10_work 6 rfl) ?_
    refine pv_bipush (pc := 15) (v := 16) (by decide) (fm_dec dtX10_work 7 rfl) ?_
    refine pv_icmp_lt (pc := 17) 23 (by decide) (fm_dec dtX10_work 8 rfl) (fun hc17 => ?_) (fun hc17 => ?_)
    · refine pv_aloadn (pc := 23) (n := 0) 0 rfl rfl (fm_dec dtX10_work 11 rfl) ?_
      refine pv_getR (k := 0) (j := 5) (ci := 10) (pc := 24) 28 rfl (by decide) pfl_X10_43 (by decide) rfl (by decide) (fm_dec dtX10_work 12 rfl) ?_
      refine pv_aloadn (pc := 27) (n := 0) 0 rfl rfl (fm_dec dtX10_work 13 rfl) ?_
      refine pv_getR (k := 0) (j := 0) (ci := 10) (pc := 28) 1 rfl (by decide) pfl_X10_12 (by decide) rfl (by decide) (fm_dec dtX10_work 14 rfl) ?_
      refine pv_aloadn (pc := 31) (n := 0) 0 rfl rfl (fm_dec dtX10_work 15 rfl) ?_
      refine pv_getR (k := 0) (j := 1) (ci := 10) (pc := 32) 3 rfl (by decide) pfl_X10_19 (by decide) rfl (by decide) (fm_dec dtX10_work 16 rfl) ?_
      refine pv_getI (k := 3) (j := 9) (ci := 8) (pc := 35) pfl_X10_138 (by decide) rfl (by decide) (fm_dec dtX10_work 17 rfl) ?_
      refine pv_invV2 (k := 28) (d' := 27) (pc := 38) pcv_X10_142 (by decide) rfl (Nat.le_of_ble_eq_true rfl) (by omega) (fm_dec dtX10_work 18 rfl) ?_
      refine c_xread hI5 (hI5.1 3 9 (by decide)) (fun M38 z hI38 f38 h4 hz hz2 hS => ?_) (fun M38 hI38 f38 => ?_)  
      · refine pv_then1 ?_
        refine pv_if_ne (pc := 41) 55 (by decide) (fm_dec dtX10_work 19 rfl) (fun _ => ?_) (fun hc41 => by exfalso; revert hc41; decide)
        refine pv_aloadn (pc := 55) (n := 0) 0 rfl rfl (fm_dec dtX10_work 26 rfl) ?_
        refine pv_getR (k := 0) (j := 9) (ci := 10) (pc := 56) 46 rfl (by decide) pfl_X10_75 (by decide) rfl (by decide) (fm_dec dtX10_work 27 rfl) ?_
        refine pv_invV0 (k := 46) (d' := 1) (pc := 59) pcv_X10_145 (by decide) rfl (Nat.le_of_ble_eq_true rfl) (by omega) (fm_dec dtX10_work 28 rfl) ?_
        refine s_keepx hI38 (fun M59 hI59 f59 => ?_)
        refine pv_then0 ?_
        have hQ9 : xQ M59 z 0 := ⟨hz2, fun i a b => (hS i a b).up (Nat.le_refl _) (fun k hk => (f59 k i (kpW_k (by omega))).1), hI59, (by rw [(f59 28 4 (kpW_k (by decide))).1]; exact h4), by decide⟩
        refine pv_aloadn (pc := 62) (n := 0) 0 rfl rfl (fm_dec dtX10_work 29 rfl) ?_
        refine pv_getR (k := 0) (j := 5) (ci := 10) (pc := 63) 28 rfl (by decide) pfl_X10_43 (by decide) rfl (by decide) (fm_dec dtX10_work 30 rfl) ?_
        refine pv_aloadn (pc := 66) (n := 0) 0 rfl rfl (fm_dec dtX10_work 31 rfl) ?_
        refine pv_getR (k := 0) (j := 6) (ci := 10) (pc := 67) 32 rfl (by decide) pfl_X10_52 (by decide) rfl (by decide) (fm_dec dtX10_work 32 rfl) ?_
        refine pv_aloadn (pc := 70) (n := 0) 0 rfl rfl (fm_dec dtX10_work 33 rfl) ?_
        refine pv_getR (k := 0) (j := 9) (ci := 10) (pc := 71) 46 rfl (by decide) pfl_X10_75 (by decide) rfl (by decide) (fm_dec dtX10_work 34 rfl) ?_
        refine pv_getR (k := 46) (j := 0) (ci := 5) (pc := 74) 47 rfl (by decide) pfl_X10_90 (by decide) rfl (by decide) (fm_dec dtX10_work 35 rfl) ?_
        refine pv_iconst (pc := 77) (v := 0) (by decide) (fm_dec dtX10_work 36 rfl) ?_
        refine pv_aloadn (pc := 78) (n := 0) 0 rfl rfl (fm_dec dtX10_work 37 rfl) ?_
        refine pv_getR (k := 0) (j := 5) (ci := 10) (pc := 79) 28 rfl (by decide) pfl_X10_43 (by decide) rfl (by decide) (fm_dec dtX10_work 38 rfl) ?_
        refine pv_getI (k := 28) (j := 3) (ci := 9) (pc := 82) pfl_X10_148 (by decide) rfl (by decide) (fm_dec dtX10_work 39 rfl) ?_
        refine pv_iconst (pc := 85) (v := 0) (by decide) (fm_dec dtX10_work 40 rfl) ?_
        refine pv_invV5 (k := 28) (d' := (12 + 200)) (pc := 86) pcv_X10_151 (by decide) rfl (Nat.le_of_ble_eq_true rfl) (by omega) (fm_dec dtX10_work 41 rfl) ?_
        refine xp_G (xp_P 200) M59 _ z 0 0 z _ 0 0 hQ9 (by omega) (by decide) (by rw [(f59 28 3 (kpW_k (by decide))).1]; exact hz) (Nat.le_refl _) (fun M86 g86 hI86 f86 hg86 _ _ => ?_) 
        refine pv_then0 ?_
        refine pv_aloadn (pc := 89) (n := 0) 0 rfl rfl (fm_dec dtX10_work 42 rfl) ?_
        refine pv_aloadn (pc := 90) (n := 0) 0 rfl rfl (fm_dec dtX10_work 43 rfl) ?_
        refine pv_getR (k := 0) (j := 5) (ci := 10) (pc := 91) 28 rfl (by decide) pfl_X10_43 (by decide) rfl (by decide) (fm_dec dtX10_work 44 rfl) ?_
        refine pv_getI (k := 28) (j := 6) (ci := 9) (pc := 94) pfl_X10_155 (by decide) rfl (by decide) (fm_dec dtX10_work 45 rfl) ?_
        refine pv_putI (k := 0) (j := 14) (ci := 10) (pc := 97) pfl_X10_132 (by decide) rfl (by decide) (fm_dec dtX10_work 46 rfl) ?_
        refine pv_aloadn (pc := 100) (n := 0) 0 rfl rfl (fm_dec dtX10_work 47 rfl) ?_
        refine pv_getR (k := 0) (j := 7) (ci := 10) (pc := 101) 34 rfl (by decide) pfl_X10_61 (by decide) rfl (by decide) (fm_dec dtX10_work 48 rfl) ?_
        refine pv_invV0 (k := 34) (d' := 0) (pc := 104) pcv_X10_135 (by decide) rfl (Nat.le_of_ble_eq_true rfl) (by omega) (fm_dec dtX10_work 49 rfl) ?_
        refine s_forget (xInv.put hI86 (scq_t _)) (fun M104 hI104 f104 => ?_)
        refine pv_then0 ?_
        refine pv_aloadn (pc := 107) (n := 0) 0 rfl rfl (fm_dec dtX10_work 50 rfl) ?_
        refine pv_getR (k := 0) (j := 5) (ci := 10) (pc := 108) 28 rfl (by decide) pfl_X10_43 (by decide) rfl (by decide) (fm_dec dtX10_work 51 rfl) ?_
        refine pv_getI (k := 28) (j := 5) (ci := 9) (pc := 111) pfl_X10_158 (by decide) rfl (by decide) (fm_dec dtX10_work 52 rfl) ?_
        exact pv_ireturn (pc := 114) rfl (fm_dec dtX10_work 53 rfl) (hq _ _ (Or.inl ⟨_, rfl⟩) hI104)
      · refine pv_then1 ?_
        refine pv_if_ne (pc := 41) 55 (by decide) (fm_dec dtX10_work 19 rfl) (fun hc41 => by exfalso; revert hc41; decide) (fun _ => ?_)
        refine pv_aloadn (pc := 44) (n := 0) 0 rfl rfl (fm_dec dtX10_work 20 rfl) ?_
        refine pv_getR (k := 0) (j := 0) (ci := 10) (pc := 45) 1 rfl (by decide) pfl_X10_12 (by decide) rfl (by decide) (fm_dec dtX10_work 21 rfl) ?_
        refine pv_getI (k := 1) (j := 4) (ci := 7) (pc := 48) pfl_X10_116 (by decide) rfl (by decide) (fm_dec dtX10_work 22 rfl) ?_
        refine pv_bipush (pc := 51) (v := 10) (by decide) (fm_dec dtX10_work 23 rfl) ?_
        refine pv_isub (pc := 53) (fm_dec dtX10_work 24 rfl) ?_
        exact pv_ireturn (pc := 54) rfl (fm_dec dtX10_work 25 rfl) (hq _ _ (Or.inl ⟨_, rfl⟩) hI38)
    · refine pv_bipush (pc := 20) (v := (-20)) (by decide) (fm_dec dtX10_work 9 rfl) ?_
      exact pv_ireturn (pc := 22) rfl (fm_dec dtX10_work 10 rfl) (hq _ _ (Or.inl ⟨_, rfl⟩) hI5)
  · refine pv_thenX ?_
    exact hq _ _ (Or.inr rfl) hI5
end
-- P 13
section
-- MAKING: a machine whose world is a list that grows; what comes stands behind
theorem va_AOA.moved {t : FieldType} {u U : State} (hvm : u.vm.Alike U.vm) (h : va_AOA t u) : va_AOA t U := by
  have h2 : (Cond.arrayOver (.array t)).before #[] (u.setVm U.vm) = true := by rw [Cond.arrayOver_setVmC hvm]; exact h
  exact h2
def lwEnv (G : fmG) (A : Nat → Prop) (s : State) : Prop := fmEnv G A s ∧ va_AO "LifeDrawer$Shelf" s ∧ va_AO "LifeDrawer$State" s ∧ va_AOA .int s
theorem lwEnv.warm {G : fmG} {A : Nat → Prop} {s U : State} {H : Heap} {locs : List Loc} (h : lwEnv G A s) (hS : va_S A s.heap H locs) (hU : U.heap = H) (hW : s.WarmedH U.vm) : lwEnv G A U := ⟨h.1.warm hS hU hW, h.2.1.moved hW.alike, h.2.2.1.moved hW.alike, va_AOA.moved hW.alike h.2.2.2⟩
theorem lwEnv.calling {G : fmG} {A : Nat → Prop} {U : State} {g : JFrame} {mk : MethodId} {a : Array Value} (h : lwEnv G A U) : lwEnv G A (U.calling g mk a) := ⟨h.1.calling, h.2.1.moved (u := U) (U := U.calling g mk a) (Vm.Alike.refl U.vm), h.2.2.1.moved (u := U) (U := U.calling g mk a) (Vm.Alike.refl U.vm), va_AOA.moved (u := U) (U := U.calling g mk a) (Vm.Alike.refl U.vm) h.2.2.2⟩
def lwPic (G : fmG) (A : Nat → Prop) (ws : va_W) (H : Heap) : Prop := va_P G.2.1 vwCl ws H ∧ va_D A ws
def lwQc (G : fmG) (A : Nat → Prop) (Q : va_W → Prop) : Array Value → State → Outcome → State → Prop := va_Qv Q (fun ws t => lwPic G A ws t.heap) A
def lwRm (d mc ms : Nat) : Room := { frames := d + 10, locals := 60 * d + 200, cells := mc, slots := ms }
def lwFix (p : Program) (s : State) (m : MethodId) (args : Array Value) (meth : Method) (c : Code) (y : fmY) : Prop := p.tables.exec = Jvm.exec ∧ c.code = y.2.1 ∧ c.maxLocals = y.2.2.1 ∧ meth.sig.returnType = y.2.2.2 ∧ s.vm.findClass y.1.cls = some m.cls ∧ (∀ w ∈ fmWy y, w.before args s = true) ∧ meth.locks = false ∧ meth.name = y.1.name
def lwEv (l : Launch) (G : fmG) (d mc ms : Nat) (y : fmY) (pc : Nat) (L : List (Option Value)) (st : List Value) (ws : va_W) (cu su : Nat) (Q : va_W → Prop) : Prop :=
  ∀ (p : Program) (e : Env) (s : State) (m : MethodId) (args : Array Value) (below : List Frame) (meth : Method) (c : Code) (H : Heap) (locs : List Loc) (A : Nat → Prop) (ls : Array Slot), lwFix p s m args meth c y → lwEnv G A s → (∀ q : Nat, s.heap.size ≤ q → A q) → lwPic G A ws H → va_S A s.heap H locs → fmHas ls y.2.2.1 L →
    W p l e (lwRm d mc ms) s m args below meth c H locs cu su (MQ below (lwQc G A Q) args s mc ms A) (F0 m pc ls st)
def lwPc (G : fmG) (args : List Value) (ws : va_W) (A : Nat → Prop) : Array Value → State → Prop := va_Pc args (fun U => lwEnv G A U ∧ (∀ q : Nat, U.heap.size ≤ q → A q) ∧ lwPic G A ws U.heap)
def lwGood (l : Launch) (G : fmG) (d mc ms : Nat) (y : fmY) (args : List Value) (ws : va_W) (Q : va_W → Prop) : Prop := ∀ A : Nat → Prop, Met l y.1 (fmWy y) (lwRm d mc ms) (lwPc G args ws A) (lwQc G A Q) mc ms A
theorem lwPc.blind {G : fmG} {args : List Value} {ws : va_W} {A : Nat → Prop} : FrameBlind (lwPc G args ws A) := by
  intro a U g mk h
  obtain ⟨h0, h1, h2, h3⟩ := h
  exact ⟨h0, h1.calling, h2, h3⟩
theorem lwGood_of {l : Launch} {G : fmG} {d mc ms : Nat} {y : fmY} {args : List Value} {ws : va_W} {Q : va_W → Prop} (hn : plainName y.1.cls = true) (hlen : (lg_sl args).length ≤ y.2.2.1) (k : lwEv l G d mc ms y 0 (fmArgs args ++ List.replicate (y.2.2.1 - (fmArgs args).length) none) [] ws 0 0 Q) : lwGood l G d mc ms y args ws Q := by
  intro A
  refine Met.ofW (cc := y.2.1) (maxL := y.2.2.1) (ret := y.2.2.2) hn rfl ?_
  intro p e s m args' below meth c s₁ B hml hv
  obtain ⟨rfl, hE, hA, hP⟩ := hv
  have hx := B.exec
  have hb := B.bytes
  have hr := B.returns
  have hts := atoms_spec (ws := fmWy y) B.pre
  have hown : s.vm.findClass y.1.cls = some m.cls := findClass_of_methodNamed B.named
  have hlocks := B.notSynchronized
  have hin : meth.name = y.1.name := (name_of_methodNamed B.named B.method).1
  have hS : va_S A s.heap s.heap [] := va_S.rf
  have hl0 := lv_entry args (n := y.2.2.1) hlen
  rw [lg_entry_eq]
  generalize (lg_sl args ++ List.replicate (y.2.2.1 - (lg_sl args).length) Slot.unset).toArray = ls at hl0 ⊢
  refine k p e s m args.toArray below meth c s.heap [] A ls ⟨hx, hb, hml, hr, hown, hts, hlocks, hin⟩ hE hA hP hS ⟨hl0.1, hl0.2.1, fun i v hi => ?_⟩
  have h1 : (fmArgs args)[i]? = some (some v) := by
    rcases Nat.lt_or_ge i (fmArgs args).length with q | q
    · rwa [List.getElem?_append_left q] at hi
    · rw [List.getElem?_append_right q] at hi
      have := List.mem_of_getElem? hi
      simp at this
  have h2 := fmArgs_lv args 0 i v h1
  rw [Nat.zero_add] at h2
  exact hl0.2.2 (i, v) h2
theorem lw_oi : Cond.instanceMethod Lib.objectInit ∈ fmWs := fm_c1 32 (by eq_refl) rfl
theorem lw_oc : Cond.code Lib.objectInit ⟨#[0xb1]⟩ 1 none ∈ fmWs := fm_c1 33 (by eq_refl) rfl
section LwRows
variable {l : Launch} {G : fmG} {d mc ms : Nat} {y : fmY} {pc : Nat} {L : List (Option Value)} {st : List Value} {ws : va_W} {cu su : Nat} {Q : va_W → Prop}
theorem lz_row {pc' : Nat} {st' : List Value} (h : ∀ (p : Program) (e : Env) (R : Room) (s : State) (m : MethodId) (args : Array Value) (below : List Frame) (meth : Method) (c : Code) (H : Heap) (locs : List Loc) (cells slots : Nat) (Qf : State → Prop) (ls : Array Slot), p.tables.exec = Jvm.exec → c.code = y.2.1 → fmHas ls y.2.2.1 L → W p l e R s m args below meth c H locs cells slots Qf (F0 m pc' ls st') → W p l e R s m args below meth c H locs cells slots Qf (F0 m pc ls st))
    (k : lwEv l G d mc ms y pc' L st' ws cu su Q) : lwEv l G d mc ms y pc L st ws cu su Q := by
  intro p e s m args below meth c H locs A ls hF hE hA hP hS hL
  exact h p e _ s m args below meth c H locs cu su _ ls hF.1 hF.2.1 hL (k p e s m args below meth c H locs A ls hF hE hA hP hS hL)
theorem lw_br {pt pf : Nat} {st' : List Value} {cnd : Prop} (h : ∀ (p : Program) (e : Env) (R : Room) (s : State) (m : MethodId) (args : Array Value) (below : List Frame) (meth : Method) (c : Code) (H : Heap) (locs : List Loc) (cells slots : Nat) (Qf : State → Prop) (ls : Array Slot), p.tables.exec = Jvm.exec → c.code = y.2.1 → (cnd → W p l e R s m args below meth c H locs cells slots Qf (F0 m pt ls st')) → (¬ cnd → W p l e R s m args below meth c H locs cells slots Qf (F0 m pf ls st')) → W p l e R s m args below meth c H locs cells slots Qf (F0 m pc ls st))
    (kt : cnd → lwEv l G d mc ms y pt L st' ws cu su Q) (kf : ¬ cnd → lwEv l G d mc ms y pf L st' ws cu su Q) : lwEv l G d mc ms y pc L st ws cu su Q := by
  intro p e s m args below meth c H locs A ls hF hE hA hP hS hL
  exact h p e _ s m args below meth c H locs cu su _ ls hF.1 hF.2.1 (fun q => kt q p e s m args below meth c H locs A ls hF hE hA hP hS hL) (fun q => kf q p e s m args below meth c H locs A ls hF hE hA hP hS hL)
theorem lw_rowl {pc' : Nat} {st' : List Value} {L' : List (Option Value)} (h : ∀ (p : Program) (e : Env) (R : Room) (s : State) (m : MethodId) (args : Array Value) (below : List Frame) (meth : Method) (c : Code) (H : Heap) (locs : List Loc) (cells slots : Nat) (Qf : State → Prop) (ls : Array Slot), p.tables.exec = Jvm.exec → c.code = y.2.1 → fmHas ls y.2.2.1 L → (∀ ls' : Array Slot, fmHas ls' y.2.2.1 L' → W p l e R s m args below meth c H locs cells slots Qf (F0 m pc' ls' st')) → W p l e R s m args below meth c H locs cells slots Qf (F0 m pc ls st))
    (k : lwEv l G d mc ms y pc' L' st' ws cu su Q) : lwEv l G d mc ms y pc L st ws cu su Q := by
  intro p e s m args below meth c H locs A ls hF hE hA hP hS hL
  exact h p e _ s m args below meth c H locs cu su _ ls hF.1 hF.2.1 hL (fun ls' hL' => k p e s m args below meth c H locs A ls' hF hE hA hP hS hL')

theorem lw_iconst {n : Int} {v : Int32} (hv : Int32.ofInt n = v) (hdg : decode y.2.1 pc = .ok (.iconst n, 1)) (k : lwEv l G d mc ms y (pc + 1) L (.int v :: st) ws cu su Q) : lwEv l G d mc ms y pc L (st) ws cu su Q := lz_row (fun _ _ _ _ _ _ _ _ _ _ _ _ _ _ _ hx hb hL kk => lv_iconst hx hb hdg hv kk) k
theorem lw_bipush {n : Int} {v : Int32} (hv : (Int8.ofInt n).toInt32 = v) (hdg : decode y.2.1 pc = .ok (.bipush n, 2)) (k : lwEv l G d mc ms y (pc + 2) L (.int v :: st) ws cu su Q) : lwEv l G d mc ms y pc L (st) ws cu su Q := lz_row (fun _ _ _ _ _ _ _ _ _ _ _ _ _ _ _ hx hb hL kk => lv_bipush hx hb hdg hv kk) k
theorem lw_sipush {n : Int} {v : Int32} (hv : (Int16.ofInt n).toInt32 = v) (hdg : decode y.2.1 pc = .ok (.sipush n, 3)) (k : lwEv l G d mc ms y (pc + 3) L (.int v :: st) ws cu su Q) : lwEv l G d mc ms y pc L (st) ws cu su Q := lz_row (fun _ _ _ _ _ _ _ _ _ _ _ _ _ _ _ hx hb hL kk => lv_sipush hx hb hdg hv kk) k
theorem lw_iload_n {n : Fin 4} {x : Int32} (hv : L[(n : Nat)]? = some (some (.int x))) (hdg : decode y.2.1 pc = .ok (.iload_n n, 1)) (k : lwEv l G d mc ms y (pc + 1) L (.int x :: st) ws cu su Q) : lwEv l G d mc ms y pc L (st) ws cu su Q := lz_row (fun _ _ _ _ _ _ _ _ _ _ _ _ _ _ _ hx hb hL kk => lv_iload_n hx hb hdg rfl (hL.2.2 _ _ hv) kk) k
theorem lw_istore_n {n : Fin 4} {x : Int32} (hn : (n : Nat) < y.2.2.1) (h2 : fmNo2 L (n : Nat) = true) (hdg : decode y.2.1 pc = .ok (.istore_n n, 1)) (k : lwEv l G d mc ms y (pc + 1) (L.set (n : Nat) (some (.int x))) st ws cu su Q) : lwEv l G d mc ms y pc L (.int x :: st) ws cu su Q := lw_rowl (fun _ _ _ _ _ _ _ _ _ _ _ _ _ _ _ hx hb hL kk => lv_istore_n hx hb hdg rfl hL.lv hn rfl (fun ls h => kk ls (fmHas.set1 h h2))) k
theorem lw_aload_n {n : Fin 4} {x : Nat} (hv : L[(n : Nat)]? = some (some (.ref x))) (hdg : decode y.2.1 pc = .ok (.aload_n n, 1)) (k : lwEv l G d mc ms y (pc + 1) L (.ref x :: st) ws cu su Q) : lwEv l G d mc ms y pc L (st) ws cu su Q := lz_row (fun _ _ _ _ _ _ _ _ _ _ _ _ _ _ _ hx hb hL kk => lv_aload_n hx hb hdg rfl (hL.2.2 _ _ hv) kk) k
theorem lw_iinc {i : Nat} {n : Int} {x v : Int32} (hl : L[i]? = some (some (.int x))) (hv : x + Int32.ofInt n = v) (hn : i < y.2.2.1) (h2 : fmNo2 L i = true) (hdg : decode y.2.1 pc = .ok (.iinc i n, 3)) (k : lwEv l G d mc ms y (pc + 3) (L.set i (some (.int v))) st ws cu su Q) : lwEv l G d mc ms y pc L st ws cu su Q := by
  obtain ⟨k9, hk9⟩ := fm_lvk hl
  exact lw_rowl (fun _ _ _ _ _ _ _ _ _ _ _ _ _ _ _ hx hb hL kk => lv_iinc hx hb hdg hL.lv hk9 hv hn rfl (fun ls h => kk ls (fmHas.set1 h h2))) k
theorem lw_dup {v : Value} (hc : v.category = 1) (hdg : decode y.2.1 pc = .ok (.dup, 1)) (k : lwEv l G d mc ms y (pc + 1) L (v :: v :: st) ws cu su Q) : lwEv l G d mc ms y pc L (v :: st) ws cu su Q := lz_row (fun _ _ _ _ _ _ _ _ _ _ _ _ _ _ _ hx hb hL kk => lv_dup hx hb hdg hc kk) k
theorem lw_goto {off : Int} (tgt : Nat) (ht : (pc : Int) + off = (tgt : Int)) (hdg : decode y.2.1 pc = .ok (.goto off, 3)) (k : lwEv l G d mc ms y tgt L st ws cu su Q) : lwEv l G d mc ms y pc L st ws cu su Q := lz_row (fun _ _ _ _ _ _ _ _ _ _ _ _ _ _ _ hx hb hL kk => lv_goto hx hb hdg ht kk) k
theorem lw_icmp_ge {x z : Int32} {off : Int} (tgt : Nat) (ht : (pc : Int) + off = (tgt : Int)) (hdg : decode y.2.1 pc = .ok (.if_icmp .ge off, 3)) (kt : z ≤ x → lwEv l G d mc ms y tgt L st ws cu su Q) (kf : ¬ (z ≤ x) → lwEv l G d mc ms y (pc + 3) L st ws cu su Q) : lwEv l G d mc ms y pc L (.int z :: .int x :: st) ws cu su Q := lw_br (fun _ _ _ _ _ _ _ _ _ _ _ _ _ _ _ hx hb k1 k2 => lv_icmp_ge hx hb hdg ht k1 k2) kt kf
theorem lw_iloadn {n : Fin 4} {x : Int32} (i : Nat) (hi : (n : Nat) = i) (hv : L[i]? = some (some (.int x))) (hdg : decode y.2.1 pc = .ok (.iload_n n, 1)) (k : lwEv l G d mc ms y (pc + 1) L (.int x :: st) ws cu su Q) : lwEv l G d mc ms y pc L st ws cu su Q := lw_iload_n (by rw [hi]; exact hv) hdg k
theorem lw_aloadn {n : Fin 4} {x : Nat} (i : Nat) (hi : (n : Nat) = i) (hv : L[i]? = some (some (.ref x))) (hdg : decode y.2.1 pc = .ok (.aload_n n, 1)) (k : lwEv l G d mc ms y (pc + 1) L (.ref x :: st) ws cu su Q) : lwEv l G d mc ms y pc L st ws cu su Q := lw_aload_n (by rw [hi]; exact hv) hdg k
theorem lw_istoren {n : Fin 4} {x : Int32} (i : Nat) (hi : (n : Nat) = i) (hn : i < y.2.2.1) (h2 : fmNo2 L i = true) (hdg : decode y.2.1 pc = .ok (.istore_n n, 1)) (k : lwEv l G d mc ms y (pc + 1) (L.set i (some (.int x))) st ws cu su Q) : lwEv l G d mc ms y pc L (.int x :: st) ws cu su Q := by
  subst hi; exact lw_istore_n hn h2 hdg k
theorem lw_iincc (i : Nat) {n : Int} {x : Int32} (c : Int32) (hc : Int32.ofInt n = c) (hl : L[i]? = some (some (.int x))) (hn : i < y.2.2.1) (h2 : fmNo2 L i = true) (hdg : decode y.2.1 pc = .ok (.iinc i n, 3)) (k : lwEv l G d mc ms y (pc + 3) (L.set i (some (.int (x + c)))) st ws cu su Q) : lwEv l G d mc ms y pc L st ws cu su Q := lw_iinc hl (by rw [hc]) hn h2 hdg k
theorem lw_ws {ws' : va_W} (h : ws = ws') (k : lwEv l G d mc ms y pc L st ws' cu su Q) : lwEv l G d mc ms y pc L st ws cu su Q := by rw [h]; exact k
theorem lw_more {cu' su' : Nat} (h1 : cu ≤ cu') (h2 : su ≤ su') (k : lwEv l G d mc ms y pc L st ws cu' su' Q) : lwEv l G d mc ms y pc L st ws cu su Q := by
  intro p e s m args below meth c H locs A ls hF hE hA hP hS hL
  exact W.widen h1 h2 (k p e s m args below meth c H locs A ls hF hE hA hP hS hL)
theorem lw_return (hr : y.2.2.2 = none) (hc : cu ≤ mc) (hs : su ≤ ms) (hdg : decode y.2.1 pc = .ok (.return_, 1)) (hq : Q ws) : lwEv l G d mc ms y pc L [] ws cu su Q := by
  refine lw_more hc hs ?_
  intro p e s m args below meth c H locs A ls hF hE hA hP hS hL
  have hlocks := hF.2.2.2.2.2.2.1
  exact W.vret hF.1 hF.2.1 (hF.2.2.2.1.trans hr) (fun t ht hW => ⟨⟨ws, rfl, hq, by show lwPic G A ws t.heap; rw [ht]; exact hP⟩, hS.F ht⟩) hS.2.2 hdg
/-- Object's own constructor -/
theorem lw_obj {idx a : Nat} (hl : Cond.methodLink y.1.cls idx Lib.objectInit ∈ fmWs) (hc : (st.map fun v => v.category).sum ≤ 60) (hdg : decode y.2.1 pc = .ok (.invokespecial idx, 3)) (k : lwEv l G d mc ms y (pc + 3) L st ws cu su Q) : lwEv l G d mc ms y pc L (.ref a :: st) ws cu su Q := by
  intro p e s m args below meth c H locs A ls hF hE hA hP hS hL
  have hts := hF.2.2.2.2.2.1
  have ok : ∀ w ∈ fmWs, w.before args s = true := fun w h => hts w (List.mem_cons_of_mem _ h)
  refine W.objInit hF.1 hF.2.1 hF.2.2.2.2.1 (ok _ hl) (ok _ lw_oi) (ok _ lw_oc) rfl (by rw [hF.2.2.1]; exact hL.1) rfl hdg ?_ ?_ (k p e s m args below meth c H locs A ls hF hE hA hP hS hL)
  · show 1 ≤ d + 10; omega
  · show 2 * 0 + (st.map fun v => v.category).sum + 12 ≤ 60 * d + 200; omega
/-- a field written in the constructor, final or not -/
theorem lw_put {i j ci idx : Nat} {w0 xs : va_W} {a : Nat} {fs : List Value} {v : Value} (he : xs[i]? = some (a, .inr (ci, fs))) (hf : fmFl y.1.cls idx ci j) (hfin : fmFin ci j = true → y.1.name = "<init>" ∧ ∀ r : vw_C, vwCl[ci]? = some r → (r.2.1 j).1 = y.1.cls) (hn : narrow (fmTy ci j) v = v) (hfit : fits (fmTy ci j) v = true) (hl : j < fs.length) (hdg : decode y.2.1 pc = .ok (.putfield idx, 3))
    (kk : lwEv l G d mc ms y (pc + 3) L st (w0 ++ xs.set i (a, .inr (ci, fs.set j v))) cu su Q) : lwEv l G d mc ms y pc L (v :: .ref a :: st) (w0 ++ xs) cu su Q := by
  intro p e s m args below meth c H locs A ls hF hE hA hP hS hL
  obtain ⟨r, hcl, hjr, hln⟩ := hf
  have hts := hF.2.2.2.2.2.1
  have hi : (w0 ++ xs)[w0.length + i]? = some (a, .inr (ci, fs)) := by
    rw [List.getElem?_append_right (by omega), Nat.add_sub_cancel_left]; exact he
  have hset : ∀ x, (w0 ++ xs).set (w0.length + i) x = w0 ++ xs.set i x := by
    intro x
    rw [List.set_append_right _ _ (by omega), Nat.add_sub_cancel_left]
  cases hfn : fmFin ci j with
  | false =>
    have hfr : (r.2.1 j).2.2.2 = false := by
      unfold fmFin at hfn
      rw [hcl.1] at hfn
      exact hfn
    refine va_put (C := r.1) (T := r.2.1) (N := r.2.2) hF.1 hF.2.1 hts (fun w h => List.mem_cons_of_mem _ (hcl.2.1 w h)) (fmTy ci) hcl.2.2.1 hcl.2.2.2 hF.2.2.2.2.1 hE.1.1 hP.1 hP.2 hS (w0.length + i) hi hcl.1 j hjr (hts _ (List.mem_cons_of_mem _ hln)) (fun _ h => h) hfr (hcl.2.2.1 j hjr) hn hfit hl hdg (fun H1 locs1 hP1 hD1 hS1 => ?_)
    rw [hset] at hP1 hD1
    exact kk p e s m args below meth c H1 locs1 A ls hF hE hA ⟨hP1, hD1⟩ hS1 hL
  | true =>
    have hfr : (r.2.1 j).2.2.2 = true := by
      unfold fmFin at hfn
      rw [hcl.1] at hfn
      exact hfn
    obtain ⟨h7, h8⟩ := hfin hfn
    refine va_putF (C := r.1) (T := r.2.1) (N := r.2.2) hF.1 hF.2.1 hts (fun w h => List.mem_cons_of_mem _ (hcl.2.1 w h)) (fmTy ci) hcl.2.2.1 hcl.2.2.2 hF.2.2.2.2.1 hE.1.1 hP.1 hP.2 hS (w0.length + i) hi hcl.1 j hjr (hts _ (List.mem_cons_of_mem _ hln)) (fun _ h => h) hfr (hF.2.2.2.2.2.2.2.trans h7) (h8 r hcl.1) (hcl.2.2.1 j hjr) hn hfit hl hdg (fun H1 locs1 hP1 hD1 hS1 => ?_)
    rw [hset] at hP1 hD1
    exact kk p e s m args below meth c H1 locs1 A ls hF hE hA ⟨hP1, hD1⟩ hS1 hL
theorem lw_get {i j ci idx : Nat} {w0 xs : va_W} {a : Nat} {fs : List Value} {v : Value} (he : xs[i]? = some (a, .inr (ci, fs))) (hf : fmFl y.1.cls idx ci j) (hv : fs[j]? = some v) (hdg : decode y.2.1 pc = .ok (.getfield idx, 3))
    (kk : lwEv l G d mc ms y (pc + 3) L (v :: st) (w0 ++ xs) cu su Q) : lwEv l G d mc ms y pc L (.ref a :: st) (w0 ++ xs) cu su Q := by
  intro p e s m args below meth c H locs A ls hF hE hA hP hS hL
  obtain ⟨r, hcl, hjr, hln⟩ := hf
  have hts := hF.2.2.2.2.2.1
  have hi : (w0 ++ xs)[w0.length + i]? = some (a, .inr (ci, fs)) := by
    rw [List.getElem?_append_right (by omega), Nat.add_sub_cancel_left]; exact he
  exact va_get (C := r.1) (T := r.2.1) (N := r.2.2) hF.1 hF.2.1 hts (fun w h => List.mem_cons_of_mem _ (hcl.2.1 w h)) hF.2.2.2.2.1 hE.1.1 hP.1 (w0.length + i) hi hcl.1 j hjr (hts _ (List.mem_cons_of_mem _ hln)) (fun _ h => h) hv hdg (kk p e s m args below meth c H locs A ls hF hE hA hP hS hL)
/-- a new object -/
theorem lw_new {ci idx N : Nat} {r : vw_C} {fs : List Value} (hcl : fmCl ci r) (hN : r.2.2 = N) (hk : Cond.classLink y.1.cls idx r.1 ∈ fmWs) (hin : Cond.instantiable r.1 r.2.2 ∈ fmWs) (hini : Cond.initialized r.1 ∈ fmWs) (hfs : ∀ j, j < N → defaultValue (fmTy ci j) = vp_V fs j) (hc : cu + 1 ≤ mc) (hs : su + N ≤ ms) (hdg : decode y.2.1 pc = .ok (.new idx, 3))
    (kk : ∀ q : Nat, lwEv l G d mc ms y (pc + 3) L (.ref q :: st) (ws ++ [(q, .inr (ci, fs))]) (cu + 1) (su + N) Q) : lwEv l G d mc ms y pc L st ws cu su Q := by
  subst hN
  intro p e s m args below meth c H locs A ls hF hE hA hP hS hL
  have hts := hF.2.2.2.2.2.1
  have ok : ∀ w ∈ fmWs, w.before args s = true := fun w h => hts w (List.mem_cons_of_mem _ h)
  refine va_new (C := r.1) (T := r.2.1) (N := r.2.2) hF.1 hF.2.1 hts (fun w h => List.mem_cons_of_mem _ (hcl.2.1 w h)) (fmTy ci) hcl.2.2.1 hF.2.2.2.2.1 (ok _ hk) (ok _ hin) (ok _ hini) hE.1.1 hP.1 hP.2 hS hA hcl.1 hfs hc hs hdg (fun q H1 hP1 hD1 hS1 => ?_)
  exact kk q p e s m args below meth c H1 locs A ls hF hE hA ⟨hP1, hD1⟩ hS1 hL
/-- a new array of ints, longs or bytes -/
theorem lw_newa {atype : ArrayType} {t N : Nat} {ty : FieldType} {n : Int32} {a0 : vp_A} (hty : newarray.typeOf atype = ty) (ht : ∀ g : fmG, (fmTys g)[t]? = some (g.2.2.1 t, ty)) (hp : ∀ (U : State) (cA : ClassId), va_RA U cA ty → U.vm.findClass ("[" ++ ty.toString) = some cA) (harr : Cond.arrayClass (newarray.typeOf atype) ∈ fmWs) (ha : ∀ cA : ClassId, vp_cell cA a0 = arrV cA N (fun _ => defaultValue ty)) (hn : ¬ n < 0) (hN : n.toNatClampNeg = N) (hbytes : N * componentBytes ty ≤ 536870912) (hc : cu + 1 ≤ mc) (hs : su + N ≤ ms) (hdg : decode y.2.1 pc = .ok (.newarray atype, 2))
    (kk : ∀ q : Nat, lwEv l G d mc ms y (pc + 2) L (.ref q :: st) (ws ++ [(q, .inl (G.2.2.1 t, a0))]) (cu + 1) (su + N) Q) : lwEv l G d mc ms y pc L (.int n :: st) ws cu su Q := by
  intro p e s m args below meth c H locs A ls hF hE hA hP hS hL
  have hts := hF.2.2.2.2.2.1
  have ok : ∀ w ∈ fmWs, w.before args s = true := fun w h => hts w (List.mem_cons_of_mem _ h)
  refine va_newa hF.1 hF.2.1 (ok _ harr) hty hE.1.1 hP.1 hP.2 hS hA ha hn hN hbytes hc hs hdg (fun q cA H1 hK1 hP1 hD1 hS1 => ?_)
  have e1 := hp s cA (hK1.2 6 (cA, ty) rfl).2
  have e2 := hp s (G.2.2.1 t) (hE.1.1.2 t _ (ht G)).2
  have e3 : cA = G.2.2.1 t := Option.some.inj (e1.symm.trans e2)
  subst e3
  exact kk q p e s m args below meth c H1 locs A ls hF hE hA ⟨hP1, hD1⟩ hS1 hL
/-- a new array of objects -/
theorem lw_newq {t idx N : Nat} {C : String} {n : Int32} (ht : ∀ g : fmG, (fmTys g)[t]? = some (g.2.2.1 t, .object C)) (hk : Cond.classLink y.1.cls idx C ∈ fmWs) (hover : ∀ (A : Nat → Prop) (s : State), lwEnv G A s → va_AO C s) (hn : ¬ n < 0) (hN : n.toNatClampNeg = N) (hbytes : N * 4 ≤ 536870912) (hc : cu + 1 ≤ mc) (hs : su + N ≤ ms) (hdg : decode y.2.1 pc = .ok (.anewarray idx, 3))
    (kk : ∀ q : Nat, lwEv l G d mc ms y (pc + 3) L (.ref q :: st) (ws ++ [(q, .inl (G.2.2.1 t, N, .inr (.inr (.inr (.inr (fun _ => none))))))]) (cu + 1) (su + N) Q) : lwEv l G d mc ms y pc L (.int n :: st) ws cu su Q := by
  intro p e s m args below meth c H locs A ls hF hE hA hP hS hL
  have hts := hF.2.2.2.2.2.1
  have ok : ∀ w ∈ fmWs, w.before args s = true := fun w h => hts w (List.mem_cons_of_mem _ h)
  refine va_newq hF.1 hF.2.1 hF.2.2.2.2.1 (ok _ hk) (hover A s hE) hE.1.1 hP.1 hP.2 hS hA hn hN hbytes hc hs hdg (fun q cA H1 hK1 hP1 hD1 hS1 => ?_)
  obtain ⟨_, _, _, _, _, e1⟩ := (hK1.2 6 (cA, .object C) rfl).2
  obtain ⟨_, _, _, _, _, e2⟩ := (hE.1.1.2 t _ (ht G)).2
  have e3 : cA = G.2.2.1 t := Option.some.inj (e1.symm.trans e2)
  subst e3
  exact kk q p e s m args below meth c H1 locs A ls hF hE hA ⟨hP1, hD1⟩ hS1 hL
/-- a constructor called -/
theorem lw_init {d' mc' ms' idx n a : Nat} {y' : fmY} {As st0 : List Value} (hc : fmCb y.1.cls idx y' n) (hm : Cond.instanceMethod y'.1 ∈ fmWs) (hni : y'.1.name = "<init>") (hret : y'.2.2.2 = none) (hn : As.length = n) (hst0 : st0 = As.reverse ++ .ref a :: st) (hcat : (st.map fun v => v.category).sum ≤ 8) (hd : d' + 1 ≤ d) (h1 : cu + mc' ≤ mc) (h2 : su + ms' ≤ ms) (hdg : decode y.2.1 pc = .ok (.invokespecial idx, 3))
    (hg : lwGood l G d' mc' ms' y' (.ref a :: As) ws (fun ws' => lwEv l G d mc ms y (pc + 3) L st ws' (cu + mc') (su + ms') Q)) : lwEv l G d mc ms y pc L st0 ws cu su Q := by
  subst hst0
  intro p e s m args below meth c H locs A ls hF hE hA hP hS hL
  have hts := hF.2.2.2.2.2.1
  have ok : ∀ w ∈ fmWs, w.before args s = true := fun w h => hts w (List.mem_cons_of_mem _ h)
  have hcb : CallB (lwRm d mc ms) s args y.1.cls idx y'.1 y'.2.1 y'.2.2.1 none (fmWy y') (lwRm d' mc' ms') mc' ms' n := by
    rw [← hret]
    refine callB_of (Ts := fmWy y) n hts ?_ rfl rfl rfl (ok _ hc.2.1) (ok _ hc.1) hc.2.2.2.1 ⟨?_, ?_⟩
    · intro w hw
      rcases List.mem_cons.mp hw with e | h
      · rw [e]; exact ⟨List.mem_cons_of_mem _ hc.2.2.1, good_of_word (fmWs_good hc.2.2.1)⟩
      · exact ⟨List.mem_cons_of_mem _ h, good_of_word (fmWs_good h)⟩
    · show d' + 10 + 1 ≤ d + 10; omega
    · have := hc.2.2.2.2
      show 8 + (y'.2.2.1 + 11) + (60 * d' + 200) ≤ 60 * d + 200; omega
  refine va_callv (va_runI (As := As) (rest := st) ⟨hF.1, hF.2.1, hF.2.2.1, hF.2.2.2.2.1, hts⟩ (hg A) ⟨hcb, hni, ok _ hm⟩ ⟨lwPc.blind, fun U hU hW => ⟨rfl, hE.warm hS hU hW, fun q h => hA q (Nat.le_trans hS.1 (by rw [← hU]; exact h)), by rw [hU]; exact hP⟩⟩ rfl hn hL.1 rfl (lv_room hcat) hdg ⟨h1, h2⟩) hS (fun _ _ h => h) (fun _ h => h) (fun ws' t H1 locs1 ht hvm hq hB hz hk hS1 => ?_)
  rw [ht] at hB
  exact hq p e s m args below meth c H1 locs1 A ls hF hE hA hB hS1 hL
end LwRows
end
-- P 13b
section
-- MAKING, part two: references into arrays, arrays of arrays, calls of the flat machine's methods
theorem va_P.swp {D : va_G} {cl : List vw_C} {w1 w2 : va_W} {H : Heap} (h : va_P D cl (w1 ++ w2) H) : va_P D cl (w2 ++ w1) H := by
  refine va_P.app (fun k q hk => h (w1.length + k) q ?_) (fun k q hk => h k q ?_)
  · rw [List.getElem?_append_right (by omega), Nat.add_sub_cancel_left]; exact hk
  · rw [List.getElem?_append_left (List.getElem?_eq_some_iff.mp hk).1]; exact hk
theorem va_D.swp {A : Nat → Prop} {w1 w2 : va_W} (h : va_D A (w1 ++ w2)) : va_D A (w2 ++ w1) := by
  have g1 : ∀ (k : Nat) (q : Nat × va_E), w1[k]? = some q → (w1 ++ w2)[k]? = some q := fun k q hk => by
    rw [List.getElem?_append_left (List.getElem?_eq_some_iff.mp hk).1]; exact hk
  have g2 : ∀ (k : Nat) (q : Nat × va_E), w2[k]? = some q → (w1 ++ w2)[w1.length + k]? = some q := fun k q hk => by
    rw [List.getElem?_append_right (by omega), Nat.add_sub_cancel_left]; exact hk
  refine va_D.app ⟨fun i j p q hi hj e => ?_, fun k q hk => h.2 _ q (g2 k q hk)⟩ ⟨fun i j p q hi hj e => ?_, fun k q hk => h.2 _ q (g1 k q hk)⟩ (fun i j p q hi hj e => ?_)
  · have := h.1 _ _ p q (g2 i p hi) (g2 j q hj) e
    omega
  · exact h.1 _ _ p q (g1 i p hi) (g1 j q hj) e
  · have := h.1 _ _ p q (g2 i p hi) (g1 j q hj) e
    have := (List.getElem?_eq_some_iff.mp hj).1
    omega
theorem lw_ai : Cond.arrayClass .int ∈ fmWs := fm_c1 143 (by eq_refl) rfl
theorem lw_al : Cond.arrayClass .long ∈ fmWs := fm_c1 236 (by eq_refl) rfl
theorem lw_ab : Cond.arrayClass .byte ∈ fmWs := fm_c1 64 (by eq_refl) rfl
section LwRows2
variable {l : Launch} {G : fmG} {d mc ms : Nat} {y : fmY} {pc : Nat} {L : List (Option Value)} {st : List Value} {ws : va_W} {cu su : Nat} {Q : va_W → Prop}
theorem lw_astq {q0 t qk ci n v a : Nat} {r : vw_C} {vs : List Value} {f : Nat → Option Nat} {i : Int32} (ha : ws[q0]? = some (a, .inl (G.2.2.1 t, n, .inr (.inr (.inr (.inr f)))))) (ht : ∀ g : fmG, (fmTys g)[t]? = some (g.2.2.1 t, .object r.1)) (hv : ws[qk]? = some (v, .inr (ci, vs))) (hc : vwCl[ci]? = some r) (hin : vp_in i n) (hdg : decode y.2.1 pc = .ok (.aastore, 1))
    (kk : lwEv l G d mc ms y (pc + 1) L st (ws.set q0 (a, .inl (G.2.2.1 t, n, .inr (.inr (.inr (.inr (va_up f i.toNatClampNeg (some v)))))))) cu su Q) : lwEv l G d mc ms y pc L (.ref v :: .int i :: .ref a :: st) ws cu su Q := by
  intro p e s m args below meth c H locs A ls hF hE hA hP hS hL
  refine va_astq hF.1 hF.2.1 hE.1.1 hP.1 hP.2 hS q0 t qk ci ha (ht G) hv hc hin hdg (fun H1 locs1 hP1 hD1 hS1 => ?_)
  exact kk p e s m args below meth c H1 locs1 A ls hF hE hA ⟨hP1, hD1⟩ hS1 hL
theorem lw_mna {idx N K : Nat} {n k : Int32} (hk : Cond.classLink y.1.cls idx "[[I" ∈ fmWs) (hn : ¬ n < 0) (hk0 : ¬ k < 0) (hN : n.toNatClampNeg = N) (hK : k.toNatClampNeg = K) (hb1 : N * 4 ≤ 536870912) (hb2 : K * 4 ≤ 536870912) (hc : cu + (1 + N) ≤ mc) (hs : su + (N + N * K) ≤ ms) (hdg : decode y.2.1 pc = .ok (.multianewarray idx 2, 4))
    (kk : ∀ (q : Nat) (r : Nat → Nat), lwEv l G d mc ms y (pc + 4) L (.ref q :: st) (ws ++ ((q, .inl (G.2.2.1 5, N, .inr (.inr (.inr (.inr (fun i => if i < N then some (r i) else none)))))) :: (List.range N).map (fun i => (r i, .inl (G.2.2.1 0, K, .inl (fun _ => 0)))))) (cu + 1 + N) (su + N + N * K) Q) : lwEv l G d mc ms y pc L (.int k :: .int n :: st) ws cu su Q := by
  intro p e s m args below meth c H locs A ls hF hE hA hP hS hL
  have hts := hF.2.2.2.2.2.1
  have ok : ∀ w ∈ fmWs, w.before args s = true := fun w h => hts w (List.mem_cons_of_mem _ h)
  have hcy : s.vm.findClass (FieldType.array .int).toString = some (G.2.2.1 0) := (hE.1.1.2 0 _ rfl).2
  have hP0 : va_P G.2.1 vwCl (ws ++ va_pl [] (fun _ => .inl (G.2.2.1 0, 0, .inl (fun _ => 0)))) H := by
    rw [show va_pl [] (fun _ => (.inl (G.2.2.1 0, 0, .inl (fun _ => 0)) : va_E)) = [] from rfl, List.append_nil]; exact hP.1
  have hD0 : va_D A (ws ++ va_pl [] (fun _ => .inl (G.2.2.1 0, 0, .inl (fun _ => 0)))) := by
    rw [show va_pl [] (fun _ => (.inl (G.2.2.1 0, 0, .inl (fun _ => 0)) : va_E)) = [] from rfl, List.append_nil]; exact hP.2
  refine va_mna (ty := .int) (cy := G.2.2.1 0) (z := (K, .inl (fun _ => 0))) hF.1 hF.2.1 hF.2.2.2.2.1 (ok _ hk) hE.2.2.2 (ok _ lw_ai) hcy hE.1.1 hP0 hD0 hS hA hn hk0 hN hK hb1 hb2 (by omega) rfl rfl hc hs (fun c9 => by rw [vp_cell_i, ← arrV_new]; rfl) hdg (fun q r cA H1 hr hr2 hK1 hP1 hD1 hS1 => ?_)
  have e1 : s.vm.findClass ("[" ++ (FieldType.array .int).toString) = some cA := (hK1.2 6 (cA, .array .int) rfl).2
  have e2 : s.vm.findClass ("[" ++ (FieldType.array .int).toString) = some (G.2.2.1 5) := (hE.1.1.2 5 _ rfl).2
  have e3 : cA = G.2.2.1 5 := Option.some.inj (e1.symm.trans e2)
  subst e3
  have ew : ∀ (f : Nat → va_E) (x : va_E), va_pl ([] ++ (List.range N).map r) (vr_up f ((List.range N).map r) x) = (List.range N).map (fun i => (r i, x)) := by
    intro f x
    unfold va_pl
    rw [List.nil_append, List.map_map]
    apply List.map_congr_left
    intro i hi
    show (r i, vr_up f ((List.range N).map r) x (r i)) = (r i, x)
    rw [vr_up_in (List.mem_map.mpr ⟨i, hi, rfl⟩)]
  rw [ew, List.append_assoc] at hP1 hD1
  exact kk q r p e s m args below meth c H1 locs A ls hF hE hA ⟨hP1, hD1⟩ hS1 hL
theorem lw_callF {T : fmT} {g : Nat → Nat} {M : fmM} {w0 : va_W} {k ci d' idx n : Nat} {y' : fmY} {As st0 : List Value} (hc : fmCv y.1.cls idx y' n ci) (hk : k < T.1) (hkd : T.2.1 k = ci + 6) (hn : As.length = n) (hst0 : st0 = As.reverse ++ .ref (g k) :: st) (hcat : (st.map fun v => v.category).sum ≤ 8) (hd : d' + 1 ≤ d) (hcu : cu ≤ mc) (hsu : su ≤ ms) (hdg : decode y.2.1 pc = .ok (.invokevirtual idx, 3))
    (hg : fmGood T l (g, G.2) d' y' (.ref (g k) :: As) M (fun o M' => o = .inl none ∧ lwEv l G d mc ms y (pc + 3) L st (w0 ++ fmL T (g, G.2) M') cu su Q)) : lwEv l G d mc ms y pc L st0 (w0 ++ fmL T (g, G.2) M) cu su Q := by
  subst hst0
  obtain ⟨o, M', ⟨rfl, kk⟩, hM⟩ := hg
  intro p e s m args below meth c H locs A ls hF hE hA hP hS hL
  have hts := hF.2.2.2.2.2.1
  have ok : ∀ w ∈ fmWs, w.before args s = true := fun w h => hts w (List.mem_cons_of_mem _ h)
  obtain ⟨hcb, hci, hcs, r, hr1, hr2⟩ := hc
  have hEg : fmEnv (g, G.2) A s := hE.1
  have hP2 : fmPic T (g, G.2) A M w0 H := ⟨hP.1.swp, hP.2.swp⟩
  have hrecv := va_recv (s := s) hEg.1 hP2.1 hr1 (fmL_obj hk hkd)
  have hB : CallB (lwRm d mc ms) s args y.1.cls idx y'.1 y'.2.1 y'.2.2.1 y'.2.2.2 (fmWy y') (fmRm d' (.inl none)) (fmMc (.inl none)) (fmMs (.inl none)) n := by
    refine callB_of (Ts := fmWy y) n hts ?_ rfl rfl rfl (ok _ hcb.2.1) (ok _ hcb.1) hcb.2.2.2.1 ⟨?_, ?_⟩
    · intro w hw
      rcases List.mem_cons.mp hw with e | h
      · rw [e]; exact ⟨List.mem_cons_of_mem _ hcb.2.2.1, good_of_word (fmWs_good hcb.2.2.1)⟩
      · exact ⟨List.mem_cons_of_mem _ h, good_of_word (fmWs_good h)⟩
    · show d' + 10 + 1 ≤ d + 10; omega
    · have := hcb.2.2.2.2
      show 8 + (y'.2.2.1 + 11) + (60 * d' + 200) ≤ 60 * d + 200; omega
  have hr : vx_Run p l e (lwRm d mc ms) s m args below meth c H locs cu su (fmMc (.inl none)) (fmMs (.inl none)) (F0 m pc ls (As.reverse ++ .ref (g k) :: st)) st (fmQc T (g, G.2) A M' w0 (.inl none) (Value.ref (g k) :: As).toArray) (fmXC T (g, G.2) A M' w0 (.inl none)) A :=
    vx_runV (C := y'.1.cls) (As := As) (rest := st) ⟨hF.1, hF.2.1, hF.2.2.1, hF.2.2.2.2.1, hts⟩ (hM A w0) ⟨hB, ok _ hci, ok _ hcs⟩ ⟨fmPc.blind, by rw [← hr2]; exact hrecv, fun U hU hW => fm_pre hEg hA hP2 hS hU hW⟩ rfl hn hL.1 rfl (lv_room hcat) hdg ⟨by show cu + 0 ≤ mc; omega, by show su + 0 ≤ ms; omega⟩
  intro Tm hT X
  rcases hr Tm hT X with ⟨v', st₀, t, T', L', h0, X', hL', e1, e2, ⟨⟨v2, hv1, hv2⟩, hP', hF'⟩, stp⟩ | ⟨q, st₀, t, T', L', E, ce, h0, X', hL', e1, e2, ⟨hx, -⟩, -⟩
  · cases hv1
    cases hv2
    obtain ⟨k1, k2, k3⟩ := vx_keep h0 e1 hS (fun _ _ h => h) (fun _ h => h) hL' hF'
    obtain ⟨t2, a1, b1⟩ := kk p e s m args below meth c T'.heap (locs ++ L') A ls hF hE hA (by rw [e1]; exact ⟨hP'.1.swp, hP'.2.swp⟩) k3 hL T' rfl X'
    exact ⟨t2, stp t2 a1, b1⟩
  · cases hx
end LwRows2
end
-- P 13c
section
-- MAKING, part three: a world in any order; arrays of ints, longs, bytes
theorem fm_sums {α : Type} (a b : List α) (h : ∀ f : α → Nat, (a.map f).sum = (b.map f).sum) : a.Perm b := by
  have dec : DecidableEq α := fun x y => Classical.propDecidable (x = y)
  rw [List.perm_iff_count]
  intro x
  have hc : ∀ l : List α, l.count x = (l.map (fun y => if y = x then 1 else 0)).sum := by
    intro l
    induction l with
    | nil => rfl
    | cons y l ih =>
      rw [List.count_cons, ih, List.map_cons, List.sum_cons]
      by_cases e : y = x
      · simp [e]; omega
      · simp [e]
  rw [hc, hc]
  exact h _
theorem fm_inter {α β : Type} (u v : α → β) (ss : List α) : (ss.flatMap (fun x => [u x, v x])).Perm (ss.map u ++ ss.map v) := by
  apply fm_sums
  intro f
  induction ss with
  | nil => rfl
  | cons x ss ih =>
    simp only [List.flatMap_cons, List.map_append, List.map_cons, List.map_nil, List.sum_append, List.sum_cons, List.sum_nil] at ih ⊢
    omega
theorem va_P.perm {D : va_G} {cl : List vw_C} {w1 w2 : va_W} {H : Heap} (h : va_P D cl w1 H) (hp : w1.Perm w2) : va_P D cl w2 H := by
  intro k q hk
  have h1 : q ∈ w1 := hp.mem_iff.mpr (List.mem_of_getElem? hk)
  obtain ⟨i, hi⟩ := List.mem_iff_getElem?.mp h1
  exact h i q hi
theorem va_D.pw {A : Nat → Prop} {ws : va_W} : va_D A ws ↔ ws.Pairwise (fun p q => p.1 ≠ q.1) ∧ ∀ q ∈ ws, A q.1 := by
  constructor
  · intro h
    refine ⟨List.pairwise_iff_getElem.mpr (fun i j hi hj hij e => ?_), fun q hq => ?_⟩
    · have := h.1 i j ws[i] ws[j] (List.getElem?_eq_getElem hi) (List.getElem?_eq_getElem hj) e
      omega
    · obtain ⟨i, hi⟩ := List.mem_iff_getElem?.mp hq
      exact h.2 i q hi
  · intro h
    refine ⟨fun i j p q hi hj e => ?_, fun k q hk => h.2 q (List.mem_of_getElem? hk)⟩
    obtain ⟨li, ei⟩ := List.getElem?_eq_some_iff.mp hi
    obtain ⟨lj, ej⟩ := List.getElem?_eq_some_iff.mp hj
    have h1 := List.pairwise_iff_getElem.mp h.1
    rcases Nat.lt_trichotomy i j with c | c | c
    · exact absurd (by rw [ei, ej]; exact e) (h1 i j li lj c)
    · exact c
    · exact absurd (by rw [ei, ej]; exact e.symm) (h1 j i lj li c)
theorem va_D.perm {A : Nat → Prop} {w1 w2 : va_W} (h : va_D A w1) (hp : w1.Perm w2) : va_D A w2 := by
  rw [va_D.pw] at h ⊢
  exact ⟨(hp.pairwise_iff (fun h e => h e.symm)).mp h.1, fun q hq => h.2 q (hp.mem_iff.mpr hq)⟩
section LwRows3
variable {l : Launch} {G : fmG} {d mc ms : Nat} {y : fmY} {pc : Nat} {L : List (Option Value)} {st : List Value} {ws : va_W} {cu su : Nat} {Q : va_W → Prop}
theorem lw_perm {ws' : va_W} (h : ws.Perm ws') (k : lwEv l G d mc ms y pc L st ws' cu su Q) : lwEv l G d mc ms y pc L st ws cu su Q := by
  intro p e s m args below meth c H locs A ls hF hE hA hP hS hL
  exact k p e s m args below meth c H locs A ls hF hE hA ⟨hP.1.perm h, hP.2.perm h⟩ hS hL
theorem lw_assoc {w1 w2 w3 : va_W} (k : lwEv l G d mc ms y pc L st (w1 ++ (w2 ++ w3)) cu su Q) : lwEv l G d mc ms y pc L st ((w1 ++ w2) ++ w3) cu su Q := by rw [List.append_assoc]; exact k
theorem lw_newI {N : Nat} {n : Int32} (hn : ¬ n < 0) (hN : n.toNatClampNeg = N) (hb : N * 4 ≤ 536870912) (hc : cu + 1 ≤ mc) (hs : su + N ≤ ms) (hdg : decode y.2.1 pc = .ok (.newarray .int, 2))
    (kk : ∀ q : Nat, lwEv l G d mc ms y (pc + 2) L (.ref q :: st) (ws ++ [(q, .inl (G.2.2.1 0, N, .inl (fun _ => 0)))]) (cu + 1) (su + N) Q) : lwEv l G d mc ms y pc L (.int n :: st) ws cu su Q :=
  lw_newa (atype := .int) (t := 0) (ty := .int) (a0 := (N, .inl (fun _ => 0))) rfl (fun _ => rfl) (fun _ _ h => h) lw_ai (fun cA => by rw [vp_cell_i]; rfl) hn hN hb hc hs hdg kk
theorem lw_newJ {N : Nat} {n : Int32} (hn : ¬ n < 0) (hN : n.toNatClampNeg = N) (hb : N * 8 ≤ 536870912) (hc : cu + 1 ≤ mc) (hs : su + N ≤ ms) (hdg : decode y.2.1 pc = .ok (.newarray .long, 2))
    (kk : ∀ q : Nat, lwEv l G d mc ms y (pc + 2) L (.ref q :: st) (ws ++ [(q, .inl (G.2.2.1 1, N, .inr (.inl (fun _ => 0))))]) (cu + 1) (su + N) Q) : lwEv l G d mc ms y pc L (.int n :: st) ws cu su Q :=
  lw_newa (atype := .long) (t := 1) (ty := .long) (a0 := (N, .inr (.inl (fun _ => 0)))) rfl (fun _ => rfl) (fun _ _ h => h) lw_al (fun cA => by rw [vp_cell_l]; rfl) hn hN hb hc hs hdg kk
theorem lw_newB {N : Nat} {n : Int32} (hn : ¬ n < 0) (hN : n.toNatClampNeg = N) (hb : N * 1 ≤ 536870912) (hc : cu + 1 ≤ mc) (hs : su + N ≤ ms) (hdg : decode y.2.1 pc = .ok (.newarray .byte, 2))
    (kk : ∀ q : Nat, lwEv l G d mc ms y (pc + 2) L (.ref q :: st) (ws ++ [(q, .inl (G.2.2.1 2, N, .inl (fun _ => 0)))]) (cu + 1) (su + N) Q) : lwEv l G d mc ms y pc L (.int n :: st) ws cu su Q :=
  lw_newa (atype := .byte) (t := 2) (ty := .byte) (a0 := (N, .inl (fun _ => 0))) rfl (fun _ => rfl) (fun _ _ h => h) lw_ab (fun cA => by rw [vp_cell_i]; rfl) hn hN hb hc hs hdg kk
/-- a reference written into the array that stands first; the object is anywhere -/
theorem lw_astm {t ci n v a : Nat} {r : vw_C} {vs : List Value} {f : Nat → Option Nat} {i : Int32} {w1 : va_W} (ht : ∀ g : fmG, (fmTys g)[t]? = some (g.2.2.1 t, .object r.1)) (hv : (v, .inr (ci, vs)) ∈ w1) (hc : vwCl[ci]? = some r) (hin : vp_in i n) (hdg : decode y.2.1 pc = .ok (.aastore, 1))
    (kk : lwEv l G d mc ms y (pc + 1) L st ((a, .inl (G.2.2.1 t, n, .inr (.inr (.inr (.inr (va_up f i.toNatClampNeg (some v))))))) :: w1) cu su Q) : lwEv l G d mc ms y pc L (.ref v :: .int i :: .ref a :: st) ((a, .inl (G.2.2.1 t, n, .inr (.inr (.inr (.inr f))))) :: w1) cu su Q := by
  obtain ⟨k, hk⟩ := List.mem_iff_getElem?.mp hv
  exact lw_astq (q0 := 0) (qk := k + 1) (t := t) (r := r) rfl ht hk hc hin hdg kk
end LwRows3
end
