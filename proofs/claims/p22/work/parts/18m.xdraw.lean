-- THE CLASS'S DRAWER, exactly
theorem kp_in12 {k j : Nat} (h : 3 ≤ k) (h' : k < 3 + 10) : kpIn ([(3, 12)], []) k j = true := by
  simp only [kpIn, List.any_cons, List.any_nil, Bool.or_eq_true, Bool.and_eq_true, Nat.ble_eq, Bool.false_eq_true, or_false]
  omega
theorem kp_df {M M' : fmM} (h : dfFr M M') : kpt PXk M M' := fun k j hk => by
  have h9 := kpx_k hk
  exact (h.1 k j (by omega) (by omega)).1
def clrM (M : fmM) : fmM := fmI (fmI (fmI (fmI (fmI (fmI M 13 9 0) 13 10 0) 13 11 8) 13 12 5) 13 13 3) 13 14 2
theorem clr_ok {M : fmM} {tx : tX} {n : Nat} (hS : xS2 M tx n 0) (hI : scInv Tx invX M) : xS2 (clrM M) tx n 0 ∧ scInv Tx invX (clrM M) ∧ xdw 13 (clrM M) dD0 ∧ dfFr M (clrM M) := by
  refine ⟨hS.of rfl rfl rfl, ?_, ⟨⟨?_, ?_, ?_, ?_, ?_, ?_⟩, fun i h => (by cases h), fun i h => (by cases h)⟩, (((((((dfFr.refl M).put (by decide)).put (by decide)).put (by decide)).put (by decide)).put (by decide)).put (by decide))⟩
  · exact xInv.put (xInv.put (xInv.put (xInv.put (xInv.put (xInv.put hI (by decide)) (by decide)) (by decide)) (by decide)) (by decide)) (by decide)
  · show (0 : Int32).toInt = ((0 : Nat) : Int)
    decide
  · show (0 : Int32).toInt = ((0 : Nat) : Int)
    decide
  · show (8 : Int32).toInt = dD0.2.2.2.2 2
    decide
  · show (5 : Int32).toInt = dD0.2.2.2.2 3
    decide
  · show (3 : Int32).toInt = dD0.2.2.2.2 4
    decide
  · show (2 : Int32).toInt = dD0.2.2.2.2 5
    decide
theorem cb_60 {tx : tX} {c p q : Nat} {D D' : dD} (h : cBody tx c D p = .inr (D', q)) : ¬ c = 60 := by
  intro e
  subst e
  unfold cBody at h
  split at h
  · cases h
  · rw [if_pos (Or.inl rfl)] at h
    cases h
def xdEnd (M M' : fmM) (D : dD) : Prop := xdw 13 M' D ∧ dOk D ∧ M'.1 1 4 = 0 ∧ dfFr M M' ∧ scInv Tx invX M'
set_option maxRecDepth 20000 in
theorem c_xtclear {M : fmM} {Q : fmR → fmM → Prop}  (hq : Q (.inl none) (clrM M)) : pvGood Tx 0 qX8_clear [.ref 13] M Q := by
  refine pvGood_of (Nat.le_of_ble_eq_true rfl) ?_
  show pvEv Tx 0 qX8_clear 0 [some (.ref 13)] [] M Q
  refine pv_aloadn (pc := 0) (n := 0) 0 rfl rfl (fm_dec dtX8_clear 0 rfl) ?_
  refine pv_iconst (pc := 1) (v := 0) (by decide) (fm_dec dtX8_clear 1 rfl) ?_
  refine pv_putI (k := 13) (j := 9) (ci := 8) (pc := 2) pfl_X8_42 (by decide) rfl (by decide) (fm_dec dtX8_clear 2 rfl) ?_
  refine pv_aloadn (pc := 5) (n := 0) 0 rfl rfl (fm_dec dtX8_clear 3 rfl) ?_
  refine pv_iconst (pc := 6) (v := 0) (by decide) (fm_dec dtX8_clear 4 rfl) ?_
  refine pv_putI (k := 13) (j := 10) (ci := 8) (pc := 7) pfl_X8_46 (by decide) rfl (by decide) (fm_dec dtX8_clear 5 rfl) ?_
  refine pv_aloadn (pc := 10) (n := 0) 0 rfl rfl (fm_dec dtX8_clear 6 rfl) ?_
  refine pv_bipush (pc := 11) (v := 8) (by decide) (fm_dec dtX8_clear 7 rfl) ?_
  refine pv_putI (k := 13) (j := 11) (ci := 8) (pc := 13) pfl_X8_49 (by decide) rfl (by decide) (fm_dec dtX8_clear 8 rfl) ?_
  refine pv_aloadn (pc := 16) (n := 0) 0 rfl rfl (fm_dec dtX8_clear 9 rfl) ?_
  refine pv_iconst (pc := 17) (v := 5) (by decide) (fm_dec dtX8_clear 10 rfl) ?_
  refine pv_putI (k := 13) (j := 12) (ci := 8) (pc := 18) pfl_X8_52 (by decide) rfl (by decide) (fm_dec dtX8_clear 11 rfl) ?_
  refine pv_aloadn (pc := 21) (n := 0) 0 rfl rfl (fm_dec dtX8_clear 12 rfl) ?_
  refine pv_iconst (pc := 22) (v := 3) (by decide) (fm_dec dtX8_clear 13 rfl) ?_
  refine pv_putI (k := 13) (j := 13) (ci := 8) (pc := 23) pfl_X8_55 (by decide) rfl (by decide) (fm_dec dtX8_clear 14 rfl) ?_
  refine pv_aloadn (pc := 26) (n := 0) 0 rfl rfl (fm_dec dtX8_clear 15 rfl) ?_
  refine pv_iconst (pc := 27) (v := 2) (by decide) (fm_dec dtX8_clear 16 rfl) ?_
  refine pv_putI (k := 13) (j := 14) (ci := 8) (pc := 28) pfl_X8_58 (by decide) rfl (by decide) (fm_dec dtX8_clear 17 rfl) ?_
  exact pv_return (pc := 31) rfl (fm_dec dtX8_clear 18 rfl) hq
set_option maxRecDepth 20000 in
theorem xd_loop {Q : fmR → fmM → Prop} {tx : tX} {n : Nat} {M0 : fmM} (ht : tOk tx n) : ∀ (m : Nat) (M : fmM) (D : dD) (c p : Nat) (cc : Int32), xS2 M tx n p → M.1 1 4 = 0 → scInv Tx invX M → xdw 13 M D → dOk D → dfFr M0 M → cc.toInt = (c : Int) → c ≤ 60 → ¬ dwL tx n m c D (sk tx p) = .inl (9, 0) → (∀ (M2 : fmM) (D2 : dD), dwL tx n m c D (sk tx p) = .inr D2 → xdEnd M0 M2 D2 → Q (.inl (some (.int 1))) M2) → (∀ (M2 : fmM) (k a : Nat), dwL tx n m c D (sk tx p) = .inl (k, a) → tbad M0 M2 k a → Q (.inl (some (.int 0))) M2) → pvEv Tx 7 qX8_read 6 [some (.ref 13), some (.ref 1), some (.int cc)] [] M Q := by
  intro m
  induction m using Nat.strongRecOn with
  | _ m ih =>
    intro M D c p cc hS hf hI hW hD hF hcc hc60 hne hok hbad
    obtain ⟨f, rfl⟩ : ∃ f, m = f + 1 := (by cases m with | zero => exact absurd rfl hne | succ f => exact ⟨f, rfl⟩)
    refine pv_iloadn (pc := 6) (n := 2) 2 rfl rfl (fm_dec dtX8_read 4 rfl) ?_
    refine pv_bipush (pc := 7) (v := 60) (by decide) (fm_dec dtX8_read 5 rfl) ?_
    refine pv_icmp_gt (pc := 9) 48 (by decide) (fm_dec dtX8_read 6 rfl) (fun hc9 => by exfalso; rw [sc_lt] at hc9; have h7 : (60 : Int32).toInt = 60 := (by decide); omega) (fun _ => ?_)
    refine pv_aloadn (pc := 12) (n := 1) 1 rfl rfl (fm_dec dtX8_read 7 rfl) ?_
    refine pv_invV0 (k := 1) (d' := 0) (pc := 13) pcv_X8_67 (by decide) rfl (Nat.le_of_ble_eq_true rfl) (by decide) (fm_dec dtX8_read 8 rfl) ?_
    refine x_peek hS hf hI (fun M13 v13 hv13 k13 => ?_)
    refine pv_then1 ?_
    refine pv_iconst (pc := 16) (v := (-1)) (by decide) (fm_dec dtX8_read 9 rfl) ?_
    refine pv_icmp_ne (pc := 17) 22 (by decide) (fm_dec dtX8_read 10 rfl) (fun hc17 => ?_) (fun hc17 => ?_)
    · have hsp : sk tx p ≤ n := sp_le tB_1 ht hS.2.2.1
      have hnp : ¬ n ≤ sk tx p := (fun h9 => hc17 (i32_ext (by rw [hv13, ht.2.1 _ h9]; decide)))
      refine pv_aloadn (pc := 22) (n := 0) 0 rfl rfl (fm_dec dtX8_read 13 rfl) ?_
      refine pv_aloadn (pc := 23) (n := 1) 1 rfl rfl (fm_dec dtX8_read 14 rfl) ?_
      refine pv_iloadn (pc := 24) (n := 2) 2 rfl rfl (fm_dec dtX8_read 15 rfl) ?_
      refine pv_invV2 (k := 13) (d' := 6) (pc := 25) pcv_X8_73 (by decide) rfl (Nat.le_of_ble_eq_true rfl) (by decide) (fm_dec dtX8_read 16 rfl) ?_
      refine x_clause ht k13.1 k13.2.1 k13.2.2.2 (hW.xd k13.2.2.1) hD hcc hc60 (fun M25 D25 q25 e25 t25 => ?_) (fun M25 kb ab e25 b25 => ?_)  
      · refine pv_then1 ?_
        refine pv_if_eq (pc := 28) 40 (by decide) (fm_dec dtX8_read 17 rfl) (fun hc28 => by exfalso; revert hc28; decide) (fun _ => ?_)
        refine pv_aloadn (pc := 31) (n := 1) 1 rfl rfl (fm_dec dtX8_read 18 rfl) ?_
        refine pv_bipush (pc := 32) (v := 59) (by decide) (fm_dec dtX8_read 19 rfl) ?_
        refine pv_invV1 (k := 1) (d' := 1) (pc := 34) pcv_X8_77 (by decide) rfl (Nat.le_of_ble_eq_true rfl) (by decide) (fm_dec dtX8_read 20 rfl) ?_
        refine x_signC 59 (by decide) (by decide) t25.1 t25.2.1 t25.2.2.1 (fun M34 q34 e34 k34 => ?_) (fun M34 kb ab e34 b34 => ?_)
        · refine pv_then1 ?_
          refine pv_if_ne (pc := 37) 42 (by decide) (fm_dec dtX8_read 21 rfl) (fun _ => ?_) (fun hc37 => by exfalso; revert hc37; decide)
          refine pv_iincc (pc := 42) 2 1 (by decide) rfl (by decide) rfl (fm_dec dtX8_read 24 rfl) ?_
          dsimp only [List.set_cons_zero, List.set_cons_succ]
          refine pv_goto (pc := 45) 6 (by decide) (fm_dec dtX8_read 25 rfl) ?_
          have eC : spClause tx c D (sk tx p) = .inr (D25, q34) := (by rw [spClause_B, e25]; show spBind (spSign tx 59 q25) _ = _; rw [e34]; rfl)
          have hD9 := (spClause_ok ht hsp hD eC).1
          have e9 := dwL_2 (f := f) hnp eC
          rw [e9] at hne hok hbad
          have hc9 := cb_60 e25
          exact ih f (by omega) M34 D25 (c + 1) q34 _ k34.1 k34.2.1 k34.2.2.2 (t25.2.2.2.1.xd k34.2.2.1) hD9 (hF.trans (k13.2.2.1.df.trans (t25.2.2.2.2.trans k34.2.2.1.df))) (i32_p1 hcc (by omega)) (by omega) hne hok hbad
        · refine pv_then1 ?_
          refine pv_if_ne (pc := 37) 42 (by decide) (fm_dec dtX8_read 21 rfl) (fun hc37 => by exfalso; revert hc37; decide) (fun _ => ?_)
          refine pv_iconst (pc := 40) (v := 0) (by decide) (fm_dec dtX8_read 22 rfl) ?_
          exact pv_zreturn (pc := 41) rfl (by first | exact Or.inr rfl | exact Or.inl rfl) (fm_dec dtX8_read 23 rfl) (hbad _ kb ab (dwL_1 hnp (by rw [spClause_B, e25]; show spBind (spSign tx 59 q25) _ = _; rw [e34]; rfl)) ((b34.tb).fr (hF.trans (k13.2.2.1.df.trans t25.2.2.2.2))))
      · refine pv_then1 ?_
        refine pv_if_eq (pc := 28) 40 (by decide) (fm_dec dtX8_read 17 rfl) (fun _ => ?_) (fun hc28 => by exfalso; revert hc28; decide)
        refine pv_iconst (pc := 40) (v := 0) (by decide) (fm_dec dtX8_read 22 rfl) ?_
        exact pv_zreturn (pc := 41) rfl (by first | exact Or.inr rfl | exact Or.inl rfl) (fm_dec dtX8_read 23 rfl) (hbad _ kb ab (dwL_1 hnp (by rw [spClause_B, e25]; rfl)) (b25.fr (hF.trans k13.2.2.1.df)))
    · have hnp : n ≤ sk tx p := (by by_cases h9 : n ≤ sk tx p; exact h9; exfalso; have h8 := ht.2.2 (sk tx p) (by omega); rw [hc17] at hv13; have h7 : (-1 : Int32).toInt = -1 := (by decide); omega)
      refine pv_iconst (pc := 20) (v := 1) (by decide) (fm_dec dtX8_read 11 rfl) ?_
      exact pv_zreturn (pc := 21) rfl (by first | exact Or.inr rfl | exact Or.inl rfl) (fm_dec dtX8_read 12 rfl) (hok _ D (dwL_0 hnp) ⟨hW.xd k13.2.2.1, hD, k13.2.1, hF.trans k13.2.2.1.df, k13.2.2.2⟩)
set_option maxRecDepth 20000 in
theorem c_xdread {M : fmM} {Q : fmR → fmM → Prop} {tx : tX} {n : Nat} (hS : xS2 M tx n 0) (hf : M.1 1 4 = 0) (hI : scInv Tx invX M) (hok : ∀ (M2 : fmM) (D2 : dD), spDrawer tx n = .inr D2 → xdEnd M M2 D2 → Q (.inl (some (.int 1))) M2) (hbad : ∀ (M2 : fmM) (k a : Nat), spDrawer tx n = .inl (k, a) → tbad M M2 k a → Q (.inl (some (.int 0))) M2) : pvGood Tx 7 qX8_read [.ref 13, .ref 1] M Q := by
  refine pvGood_of (Nat.le_of_ble_eq_true rfl) ?_
  show pvEv Tx 7 qX8_read 0 [some (.ref 13), some (.ref 1), none] [] M Q
  refine pv_aloadn (pc := 0) (n := 0) 0 rfl rfl (fm_dec dtX8_read 0 rfl) ?_
  refine pv_invV0 (k := 13) (d' := 0) (pc := 1) pcv_X8_39 (by decide) rfl (Nat.le_of_ble_eq_true rfl) (by decide) (fm_dec dtX8_read 1 rfl) ?_
  refine c_xtclear ?_
  refine pv_then0 ?_
  refine pv_iconst (pc := 4) (v := 0) (by decide) (fm_dec dtX8_read 2 rfl) ?_
  refine pv_istoren (pc := 5) (n := 2) 2 rfl (by decide) rfl (fm_dec dtX8_read 3 rfl) ?_
  dsimp only [List.set_cons_zero, List.set_cons_succ]
  have ht := hS.2.2.2.1
  have h0 := clr_ok hS hI
  exact xd_loop ht 700 (clrM M) dD0 0 0 _ h0.1 hf h0.2.1 h0.2.2.1 dOk_0 h0.2.2.2 (by decide) (by decide) (dwL_fuel ht 700 0 dD0 (sk tx 0) (sp_le tB_1 ht (Nat.zero_le _)) dOk_0 (by have := ht.1; omega) 0) hok hbad
def cpA (M : fmM) (k1 k0 : Nat) (n : Int32) : fmM := fmA M k1 (va_cpy (M.1 k0) (M.1 k1) (Int32.toNatClampNeg 0) (Int32.toNatClampNeg 0) n.toNatClampNeg)
def cpS (M : fmM) (j : Nat) : fmM := fmI M 3 j (M.1 13 j)
def cpM (M : fmM) : fmM := (cpS (cpS (cpS (cpS (cpS (cpS (cpA (cpA (cpA (cpA (cpA (cpA (cpA (cpA (cpA M 4 14 8) 5 15 8) 6 16 8) 7 17 8) 8 18 8) 9 19 8) 10 20 24) 11 21 24) 12 22 24) 9) 10) 11) 12) 13) 14)
theorem cp_ok {M : fmM} {D : dD} (h : xdw 13 M D) (hD : dOk D) : xdw 3 (cpM M) D := by
  obtain ⟨⟨h1, h2, h3, h4, h5, h6⟩, h7, h8⟩ := h
  have d8 := hD.1
  have d24 := hD.2.1
  refine ⟨⟨h1, h2, h3, h4, h5, h6⟩, fun i hi j hj => ?_, fun i hi j hj => ?_⟩
  · match j, hj with
    | 0, _ =>
      show (va_cpy (M.1 14) (M.1 4) 0 0 8 i).toInt = _
      rw [scq_cpy, if_pos (by omega)]
      exact h7 i hi 0 (by decide)
    | 1, _ =>
      show (va_cpy (M.1 15) (M.1 5) 0 0 8 i).toInt = _
      rw [scq_cpy, if_pos (by omega)]
      exact h7 i hi 1 (by decide)
    | 2, _ =>
      show (va_cpy (M.1 16) (M.1 6) 0 0 8 i).toInt = _
      rw [scq_cpy, if_pos (by omega)]
      exact h7 i hi 2 (by decide)
    | 3, _ =>
      show (va_cpy (M.1 17) (M.1 7) 0 0 8 i).toInt = _
      rw [scq_cpy, if_pos (by omega)]
      exact h7 i hi 3 (by decide)
    | 4, _ =>
      show (va_cpy (M.1 18) (M.1 8) 0 0 8 i).toInt = _
      rw [scq_cpy, if_pos (by omega)]
      exact h7 i hi 4 (by decide)
    | 5, _ =>
      show (va_cpy (M.1 19) (M.1 9) 0 0 8 i).toInt = _
      rw [scq_cpy, if_pos (by omega)]
      exact h7 i hi 5 (by decide)
    | j + 6, h => omega
  · match j, hj with
    | 0, _ =>
      show (va_cpy (M.1 20) (M.1 10) 0 0 24 i).toInt = _
      rw [scq_cpy, if_pos (by omega)]
      exact h8 i hi 0 (by decide)
    | 1, _ =>
      show (va_cpy (M.1 21) (M.1 11) 0 0 24 i).toInt = _
      rw [scq_cpy, if_pos (by omega)]
      exact h8 i hi 1 (by decide)
    | 2, _ =>
      show (va_cpy (M.1 22) (M.1 12) 0 0 24 i).toInt = _
      rw [scq_cpy, if_pos (by omega)]
      exact h8 i hi 2 (by decide)
    | j + 3, h => omega
set_option maxRecDepth 20000 in
theorem c_xcopy {M : fmM} {Q : fmR → fmM → Prop}  (hq : Q (.inl none) (cpM M)) : pvGood Tx 0 qX8_copyFrom [.ref 3, .ref 13] M Q := by
  refine pvGood_of (Nat.le_of_ble_eq_true rfl) ?_
  show pvEv Tx 0 qX8_copyFrom 0 [some (.ref 3), some (.ref 13)] [] M Q
  refine pv_aloadn (pc := 0) (n := 1) 1 rfl rfl (fm_dec dtX8_copyFrom 0 rfl) ?_
  refine pv_getR (k := 13) (j := 0) (ci := 8) (pc := 1) 14 rfl (by decide) pfl_X8_9 (by decide) rfl (by decide) (fm_dec dtX8_copyFrom 1 rfl) ?_
  refine pv_iconst (pc := 4) (v := 0) (by decide) (fm_dec dtX8_copyFrom 2 rfl) ?_
  refine pv_aloadn (pc := 5) (n := 0) 0 rfl rfl (fm_dec dtX8_copyFrom 3 rfl) ?_
  refine pv_getR (k := 3) (j := 0) (ci := 8) (pc := 6) 4 rfl (by decide) pfl_X8_9 (by decide) rfl (by decide) (fm_dec dtX8_copyFrom 4 rfl) ?_
  refine pv_iconst (pc := 9) (v := 0) (by decide) (fm_dec dtX8_copyFrom 5 rfl) ?_
  refine pv_bipush (pc := 10) (v := 8) (by decide) (fm_dec dtX8_copyFrom 6 rfl) ?_
  refine pv_copy (k0 := 14) (k1 := 4) (n0 := 8) (n1 := 8) (pc := 12) pcm_X8_61 pcc_X8_61 (by decide) rfl rfl (by decide) rfl rfl (by decide) (by decide) (by decide) (by decide) (by decide) (Nat.le_of_ble_eq_true rfl) (fm_dec dtX8_copyFrom 7 rfl) ?_
  show pvEv Tx 0 qX8_copyFrom _ _ _ (cpA M 4 14 8) Q
  refine pv_aloadn (pc := 15) (n := 1) 1 rfl rfl (fm_dec dtX8_copyFrom 8 rfl) ?_
  refine pv_getR (k := 13) (j := 1) (ci := 8) (pc := 16) 15 rfl (by decide) pfl_X8_15 (by decide) rfl (by decide) (fm_dec dtX8_copyFrom 9 rfl) ?_
  refine pv_iconst (pc := 19) (v := 0) (by decide) (fm_dec dtX8_copyFrom 10 rfl) ?_
  refine pv_aloadn (pc := 20) (n := 0) 0 rfl rfl (fm_dec dtX8_copyFrom 11 rfl) ?_
  refine pv_getR (k := 3) (j := 1) (ci := 8) (pc := 21) 5 rfl (by decide) pfl_X8_15 (by decide) rfl (by decide) (fm_dec dtX8_copyFrom 12 rfl) ?_
  refine pv_iconst (pc := 24) (v := 0) (by decide) (fm_dec dtX8_copyFrom 13 rfl) ?_
  refine pv_bipush (pc := 25) (v := 8) (by decide) (fm_dec dtX8_copyFrom 14 rfl) ?_
  refine pv_copy (k0 := 15) (k1 := 5) (n0 := 8) (n1 := 8) (pc := 27) pcm_X8_61 pcc_X8_61 (by decide) rfl rfl (by decide) rfl rfl (by decide) (by decide) (by decide) (by decide) (by decide) (Nat.le_of_ble_eq_true rfl) (fm_dec dtX8_copyFrom 15 rfl) ?_
  show pvEv Tx 0 qX8_copyFrom _ _ _ (cpA (cpA M 4 14 8) 5 15 8) Q
  refine pv_aloadn (pc := 30) (n := 1) 1 rfl rfl (fm_dec dtX8_copyFrom 16 rfl) ?_
  refine pv_getR (k := 13) (j := 2) (ci := 8) (pc := 31) 16 rfl (by decide) pfl_X8_18 (by decide) rfl (by decide) (fm_dec dtX8_copyFrom 17 rfl) ?_
  refine pv_iconst (pc := 34) (v := 0) (by decide) (fm_dec dtX8_copyFrom 18 rfl) ?_
  refine pv_aloadn (pc := 35) (n := 0) 0 rfl rfl (fm_dec dtX8_copyFrom 19 rfl) ?_
  refine pv_getR (k := 3) (j := 2) (ci := 8) (pc := 36) 6 rfl (by decide) pfl_X8_18 (by decide) rfl (by decide) (fm_dec dtX8_copyFrom 20 rfl) ?_
  refine pv_iconst (pc := 39) (v := 0) (by decide) (fm_dec dtX8_copyFrom 21 rfl) ?_
  refine pv_bipush (pc := 40) (v := 8) (by decide) (fm_dec dtX8_copyFrom 22 rfl) ?_
  refine pv_copy (k0 := 16) (k1 := 6) (n0 := 8) (n1 := 8) (pc := 42) pcm_X8_61 pcc_X8_61 (by decide) rfl rfl (by decide) rfl rfl (by decide) (by decide) (by decide) (by decide) (by decide) (Nat.le_of_ble_eq_true rfl) (fm_dec dtX8_copyFrom 23 rfl) ?_
  show pvEv Tx 0 qX8_copyFrom _ _ _ (cpA (cpA (cpA M 4 14 8) 5 15 8) 6 16 8) Q
  refine pv_aloadn (pc := 45) (n := 1) 1 rfl rfl (fm_dec dtX8_copyFrom 24 rfl) ?_
  refine pv_getR (k := 13) (j := 3) (ci := 8) (pc := 46) 17 rfl (by decide) pfl_X8_21 (by decide) rfl (by decide) (fm_dec dtX8_copyFrom 25 rfl) ?_
  refine pv_iconst (pc := 49) (v := 0) (by decide) (fm_dec dtX8_copyFrom 26 rfl) ?_
  refine pv_aloadn (pc := 50) (n := 0) 0 rfl rfl (fm_dec dtX8_copyFrom 27 rfl) ?_
  refine pv_getR (k := 3) (j := 3) (ci := 8) (pc := 51) 7 rfl (by decide) pfl_X8_21 (by decide) rfl (by decide) (fm_dec dtX8_copyFrom 28 rfl) ?_
  refine pv_iconst (pc := 54) (v := 0) (by decide) (fm_dec dtX8_copyFrom 29 rfl) ?_
  refine pv_bipush (pc := 55) (v := 8) (by decide) (fm_dec dtX8_copyFrom 30 rfl) ?_
  refine pv_copy (k0 := 17) (k1 := 7) (n0 := 8) (n1 := 8) (pc := 57) pcm_X8_61 pcc_X8_61 (by decide) rfl rfl (by decide) rfl rfl (by decide) (by decide) (by decide) (by decide) (by decide) (Nat.le_of_ble_eq_true rfl) (fm_dec dtX8_copyFrom 31 rfl) ?_
  show pvEv Tx 0 qX8_copyFrom _ _ _ (cpA (cpA (cpA (cpA M 4 14 8) 5 15 8) 6 16 8) 7 17 8) Q
  refine pv_aloadn (pc := 60) (n := 1) 1 rfl rfl (fm_dec dtX8_copyFrom 32 rfl) ?_
  refine pv_getR (k := 13) (j := 4) (ci := 8) (pc := 61) 18 rfl (by decide) pfl_X8_24 (by decide) rfl (by decide) (fm_dec dtX8_copyFrom 33 rfl) ?_
  refine pv_iconst (pc := 64) (v := 0) (by decide) (fm_dec dtX8_copyFrom 34 rfl) ?_
  refine pv_aloadn (pc := 65) (n := 0) 0 rfl rfl (fm_dec dtX8_copyFrom 35 rfl) ?_
  refine pv_getR (k := 3) (j := 4) (ci := 8) (pc := 66) 8 rfl (by decide) pfl_X8_24 (by decide) rfl (by decide) (fm_dec dtX8_copyFrom 36 rfl) ?_
  refine pv_iconst (pc := 69) (v := 0) (by decide) (fm_dec dtX8_copyFrom 37 rfl) ?_
  refine pv_bipush (pc := 70) (v := 8) (by decide) (fm_dec dtX8_copyFrom 38 rfl) ?_
  refine pv_copy (k0 := 18) (k1 := 8) (n0 := 8) (n1 := 8) (pc := 72) pcm_X8_61 pcc_X8_61 (by decide) rfl rfl (by decide) rfl rfl (by decide) (by decide) (by decide) (by decide) (by decide) (Nat.le_of_ble_eq_true rfl) (fm_dec dtX8_copyFrom 39 rfl) ?_
  show pvEv Tx 0 qX8_copyFrom _ _ _ (cpA (cpA (cpA (cpA (cpA M 4 14 8) 5 15 8) 6 16 8) 7 17 8) 8 18 8) Q
  refine pv_aloadn (pc := 75) (n := 1) 1 rfl rfl (fm_dec dtX8_copyFrom 40 rfl) ?_
  refine pv_getR (k := 13) (j := 5) (ci := 8) (pc := 76) 19 rfl (by decide) pfl_X8_27 (by decide) rfl (by decide) (fm_dec dtX8_copyFrom 41 rfl) ?_
  refine pv_iconst (pc := 79) (v := 0) (by decide) (fm_dec dtX8_copyFrom 42 rfl) ?_
  refine pv_aloadn (pc := 80) (n := 0) 0 rfl rfl (fm_dec dtX8_copyFrom 43 rfl) ?_
  refine pv_getR (k := 3) (j := 5) (ci := 8) (pc := 81) 9 rfl (by decide) pfl_X8_27 (by decide) rfl (by decide) (fm_dec dtX8_copyFrom 44 rfl) ?_
  refine pv_iconst (pc := 84) (v := 0) (by decide) (fm_dec dtX8_copyFrom 45 rfl) ?_
  refine pv_bipush (pc := 85) (v := 8) (by decide) (fm_dec dtX8_copyFrom 46 rfl) ?_
  refine pv_copy (k0 := 19) (k1 := 9) (n0 := 8) (n1 := 8) (pc := 87) pcm_X8_61 pcc_X8_61 (by decide) rfl rfl (by decide) rfl rfl (by decide) (by decide) (by decide) (by decide) (by decide) (Nat.le_of_ble_eq_true rfl) (fm_dec dtX8_copyFrom 47 rfl) ?_
  show pvEv Tx 0 qX8_copyFrom _ _ _ (cpA (cpA (cpA (cpA (cpA (cpA M 4 14 8) 5 15 8) 6 16 8) 7 17 8) 8 18 8) 9 19 8) Q
  refine pv_aloadn (pc := 90) (n := 1) 1 rfl rfl (fm_dec dtX8_copyFrom 48 rfl) ?_
  refine pv_getR (k := 13) (j := 6) (ci := 8) (pc := 91) 20 rfl (by decide) pfl_X8_30 (by decide) rfl (by decide) (fm_dec dtX8_copyFrom 49 rfl) ?_
  refine pv_iconst (pc := 94) (v := 0) (by decide) (fm_dec dtX8_copyFrom 50 rfl) ?_
  refine pv_aloadn (pc := 95) (n := 0) 0 rfl rfl (fm_dec dtX8_copyFrom 51 rfl) ?_
  refine pv_getR (k := 3) (j := 6) (ci := 8) (pc := 96) 10 rfl (by decide) pfl_X8_30 (by decide) rfl (by decide) (fm_dec dtX8_copyFrom 52 rfl) ?_
  refine pv_iconst (pc := 99) (v := 0) (by decide) (fm_dec dtX8_copyFrom 53 rfl) ?_
  refine pv_bipush (pc := 100) (v := 24) (by decide) (fm_dec dtX8_copyFrom 54 rfl) ?_
  refine pv_copy (k0 := 20) (k1 := 10) (n0 := 24) (n1 := 24) (pc := 102) pcm_X8_61 pcc_X8_61 (by decide) rfl rfl (by decide) rfl rfl (by decide) (by decide) (by decide) (by decide) (by decide) (Nat.le_of_ble_eq_true rfl) (fm_dec dtX8_copyFrom 55 rfl) ?_
  show pvEv Tx 0 qX8_copyFrom _ _ _ (cpA (cpA (cpA (cpA (cpA (cpA (cpA M 4 14 8) 5 15 8) 6 16 8) 7 17 8) 8 18 8) 9 19 8) 10 20 24) Q
  refine pv_aloadn (pc := 105) (n := 1) 1 rfl rfl (fm_dec dtX8_copyFrom 56 rfl) ?_
  refine pv_getR (k := 13) (j := 7) (ci := 8) (pc := 106) 21 rfl (by decide) pfl_X8_33 (by decide) rfl (by decide) (fm_dec dtX8_copyFrom 57 rfl) ?_
  refine pv_iconst (pc := 109) (v := 0) (by decide) (fm_dec dtX8_copyFrom 58 rfl) ?_
  refine pv_aloadn (pc := 110) (n := 0) 0 rfl rfl (fm_dec dtX8_copyFrom 59 rfl) ?_
  refine pv_getR (k := 3) (j := 7) (ci := 8) (pc := 111) 11 rfl (by decide) pfl_X8_33 (by decide) rfl (by decide) (fm_dec dtX8_copyFrom 60 rfl) ?_
  refine pv_iconst (pc := 114) (v := 0) (by decide) (fm_dec dtX8_copyFrom 61 rfl) ?_
  refine pv_bipush (pc := 115) (v := 24) (by decide) (fm_dec dtX8_copyFrom 62 rfl) ?_
  refine pv_copy (k0 := 21) (k1 := 11) (n0 := 24) (n1 := 24) (pc := 117) pcm_X8_61 pcc_X8_61 (by decide) rfl rfl (by decide) rfl rfl (by decide) (by decide) (by decide) (by decide) (by decide) (Nat.le_of_ble_eq_true rfl) (fm_dec dtX8_copyFrom 63 rfl) ?_
  show pvEv Tx 0 qX8_copyFrom _ _ _ (cpA (cpA (cpA (cpA (cpA (cpA (cpA (cpA M 4 14 8) 5 15 8) 6 16 8) 7 17 8) 8 18 8) 9 19 8) 10 20 24) 11 21 24) Q
  refine pv_aloadn (pc := 120) (n := 1) 1 rfl rfl (fm_dec dtX8_copyFrom 64 rfl) ?_
  refine pv_getR (k := 13) (j := 8) (ci := 8) (pc := 121) 22 rfl (by decide) pfl_X8_36 (by decide) rfl (by decide) (fm_dec dtX8_copyFrom 65 rfl) ?_
  refine pv_iconst (pc := 124) (v := 0) (by decide) (fm_dec dtX8_copyFrom 66 rfl) ?_
  refine pv_aloadn (pc := 125) (n := 0) 0 rfl rfl (fm_dec dtX8_copyFrom 67 rfl) ?_
  refine pv_getR (k := 3) (j := 8) (ci := 8) (pc := 126) 12 rfl (by decide) pfl_X8_36 (by decide) rfl (by decide) (fm_dec dtX8_copyFrom 68 rfl) ?_
  refine pv_iconst (pc := 129) (v := 0) (by decide) (fm_dec dtX8_copyFrom 69 rfl) ?_
  refine pv_bipush (pc := 130) (v := 24) (by decide) (fm_dec dtX8_copyFrom 70 rfl) ?_
  refine pv_copy (k0 := 22) (k1 := 12) (n0 := 24) (n1 := 24) (pc := 132) pcm_X8_61 pcc_X8_61 (by decide) rfl rfl (by decide) rfl rfl (by decide) (by decide) (by decide) (by decide) (by decide) (Nat.le_of_ble_eq_true rfl) (fm_dec dtX8_copyFrom 71 rfl) ?_
  show pvEv Tx 0 qX8_copyFrom _ _ _ (cpA (cpA (cpA (cpA (cpA (cpA (cpA (cpA (cpA M 4 14 8) 5 15 8) 6 16 8) 7 17 8) 8 18 8) 9 19 8) 10 20 24) 11 21 24) 12 22 24) Q
  refine pv_aloadn (pc := 135) (n := 0) 0 rfl rfl (fm_dec dtX8_copyFrom 72 rfl) ?_
  refine pv_aloadn (pc := 136) (n := 1) 1 rfl rfl (fm_dec dtX8_copyFrom 73 rfl) ?_
  refine pv_getI (k := 13) (j := 9) (ci := 8) (pc := 137) pfl_X8_42 (by decide) rfl (by decide) (fm_dec dtX8_copyFrom 74 rfl) ?_
  refine pv_putI (k := 3) (j := 9) (ci := 8) (pc := 140) pfl_X8_42 (by decide) rfl (by decide) (fm_dec dtX8_copyFrom 75 rfl) ?_
  show pvEv Tx 0 qX8_copyFrom _ _ _ (cpS (cpA (cpA (cpA (cpA (cpA (cpA (cpA (cpA (cpA M 4 14 8) 5 15 8) 6 16 8) 7 17 8) 8 18 8) 9 19 8) 10 20 24) 11 21 24) 12 22 24) 9) Q
  refine pv_aloadn (pc := 143) (n := 0) 0 rfl rfl (fm_dec dtX8_copyFrom 76 rfl) ?_
  refine pv_aloadn (pc := 144) (n := 1) 1 rfl rfl (fm_dec dtX8_copyFrom 77 rfl) ?_
  refine pv_getI (k := 13) (j := 10) (ci := 8) (pc := 145) pfl_X8_46 (by decide) rfl (by decide) (fm_dec dtX8_copyFrom 78 rfl) ?_
  refine pv_putI (k := 3) (j := 10) (ci := 8) (pc := 148) pfl_X8_46 (by decide) rfl (by decide) (fm_dec dtX8_copyFrom 79 rfl) ?_
  show pvEv Tx 0 qX8_copyFrom _ _ _ (cpS (cpS (cpA (cpA (cpA (cpA (cpA (cpA (cpA (cpA (cpA M 4 14 8) 5 15 8) 6 16 8) 7 17 8) 8 18 8) 9 19 8) 10 20 24) 11 21 24) 12 22 24) 9) 10) Q
  refine pv_aloadn (pc := 151) (n := 0) 0 rfl rfl (fm_dec dtX8_copyFrom 80 rfl) ?_
  refine pv_aloadn (pc := 152) (n := 1) 1 rfl rfl (fm_dec dtX8_copyFrom 81 rfl) ?_
  refine pv_getI (k := 13) (j := 11) (ci := 8) (pc := 153) pfl_X8_49 (by decide) rfl (by decide) (fm_dec dtX8_copyFrom 82 rfl) ?_
  refine pv_putI (k := 3) (j := 11) (ci := 8) (pc := 156) pfl_X8_49 (by decide) rfl (by decide) (fm_dec dtX8_copyFrom 83 rfl) ?_
  show pvEv Tx 0 qX8_copyFrom _ _ _ (cpS (cpS (cpS (cpA (cpA (cpA (cpA (cpA (cpA (cpA (cpA (cpA M 4 14 8) 5 15 8) 6 16 8) 7 17 8) 8 18 8) 9 19 8) 10 20 24) 11 21 24) 12 22 24) 9) 10) 11) Q
  refine pv_aloadn (pc := 159) (n := 0) 0 rfl rfl (fm_dec dtX8_copyFrom 84 rfl) ?_
  refine pv_aloadn (pc := 160) (n := 1) 1 rfl rfl (fm_dec dtX8_copyFrom 85 rfl) ?_
  refine pv_getI (k := 13) (j := 12) (ci := 8) (pc := 161) pfl_X8_52 (by decide) rfl (by decide) (fm_dec dtX8_copyFrom 86 rfl) ?_
  refine pv_putI (k := 3) (j := 12) (ci := 8) (pc := 164) pfl_X8_52 (by decide) rfl (by decide) (fm_dec dtX8_copyFrom 87 rfl) ?_
  show pvEv Tx 0 qX8_copyFrom _ _ _ (cpS (cpS (cpS (cpS (cpA (cpA (cpA (cpA (cpA (cpA (cpA (cpA (cpA M 4 14 8) 5 15 8) 6 16 8) 7 17 8) 8 18 8) 9 19 8) 10 20 24) 11 21 24) 12 22 24) 9) 10) 11) 12) Q
  refine pv_aloadn (pc := 167) (n := 0) 0 rfl rfl (fm_dec dtX8_copyFrom 88 rfl) ?_
  refine pv_aloadn (pc := 168) (n := 1) 1 rfl rfl (fm_dec dtX8_copyFrom 89 rfl) ?_
  refine pv_getI (k := 13) (j := 13) (ci := 8) (pc := 169) pfl_X8_55 (by decide) rfl (by decide) (fm_dec dtX8_copyFrom 90 rfl) ?_
  refine pv_putI (k := 3) (j := 13) (ci := 8) (pc := 172) pfl_X8_55 (by decide) rfl (by decide) (fm_dec dtX8_copyFrom 91 rfl) ?_
  show pvEv Tx 0 qX8_copyFrom _ _ _ (cpS (cpS (cpS (cpS (cpS (cpA (cpA (cpA (cpA (cpA (cpA (cpA (cpA (cpA M 4 14 8) 5 15 8) 6 16 8) 7 17 8) 8 18 8) 9 19 8) 10 20 24) 11 21 24) 12 22 24) 9) 10) 11) 12) 13) Q
  refine pv_aloadn (pc := 175) (n := 0) 0 rfl rfl (fm_dec dtX8_copyFrom 92 rfl) ?_
  refine pv_aloadn (pc := 176) (n := 1) 1 rfl rfl (fm_dec dtX8_copyFrom 93 rfl) ?_
  refine pv_getI (k := 13) (j := 14) (ci := 8) (pc := 177) pfl_X8_58 (by decide) rfl (by decide) (fm_dec dtX8_copyFrom 94 rfl) ?_
  refine pv_putI (k := 3) (j := 14) (ci := 8) (pc := 180) pfl_X8_58 (by decide) rfl (by decide) (fm_dec dtX8_copyFrom 95 rfl) ?_
  show pvEv Tx 0 qX8_copyFrom _ _ _ (cpS (cpS (cpS (cpS (cpS (cpS (cpA (cpA (cpA (cpA (cpA (cpA (cpA (cpA (cpA M 4 14 8) 5 15 8) 6 16 8) 7 17 8) 8 18 8) 9 19 8) 10 20 24) 11 21 24) 12 22 24) 9) 10) 11) 12) 13) 14) Q
  exact pv_return (pc := 183) rfl (fm_dec dtX8_copyFrom 96 rfl) hq
theorem x_copy {M : fmM} {Q : fmR → fmM → Prop} {D : dD} (hI : scInv Tx invX M) (hW : xdw 13 M D) (hD : dOk D) (hq : ∀ M' : fmM, scInv Tx invX M' → xdw 3 M' D → scFr [(3, 9, 6), (4, 0, 8), (5, 0, 8), (6, 0, 8), (7, 0, 8), (8, 0, 8), (9, 0, 8), (10, 0, 24), (11, 0, 24), (12, 0, 24)] M M' → Q (.inl none) M') : pvGood Tx 0 qX8_copyFrom [.ref 3, .ref 13] M Q := ((c_xcopy (Q := fun r M' => r = .inl none ∧ M' = cpM M) ⟨rfl, rfl⟩).and (s_copy8 (Q := fun _ M' => scInv Tx invX M' ∧ scFr [(3, 9, 6), (4, 0, 8), (5, 0, 8), (6, 0, 8), (7, 0, 8), (8, 0, 8), (9, 0, 8), (10, 0, 24), (11, 0, 24), (12, 0, 24)] M M') hI (fun M' h1 h2 => ⟨h1, h2⟩))).imp (fun r M' h => by
  obtain ⟨⟨rfl, e⟩, h1, h2⟩ := h
  exact hq M' h1 (by rw [e]; exact cp_ok hW hD) h2)
/-- what stands behind a good drawer: the told, no image, no page, no law -/
def dwNew (M : fmM) (D : dD) : Prop := dOk D ∧ xdw 3 M D ∧ (M.1 0 13 = 0 ∧ M.1 46 2 = 0) ∧ (M.1 27 1 = 0 ∧ M.1 27 2 = 0) ∧ M.1 23 3 = 3 ∧ M.1 24 0 = -1 ∧ M.1 24 1 = -1 ∧ M.1 24 2 = -8
set_option maxRecDepth 20000 in
theorem c_lwclr {M : fmM} {Q : fmR → fmM → Prop}  (hq : ∀ M' : fmM, M'.1 23 3 = 3 ∧ M'.1 24 0 = -1 ∧ M'.1 24 1 = -1 ∧ M'.1 24 2 = -8 → Q (.inl none) M') : pvGood Tx 0 qX1_clear [.ref 23] M Q := by
  refine pvGood_of (Nat.le_of_ble_eq_true rfl) ?_
  show pvEv Tx 0 qX1_clear 0 [some (.ref 23)] [] M Q
  refine pv_aloadn (pc := 0) (n := 0) 0 rfl rfl (fm_dec dtX1_clear 0 rfl) ?_
  refine pv_getR (k := 23) (j := 0) (ci := 1) (pc := 1) 24 rfl (by decide) pfl_X1_9 (by decide) rfl (by decide) (fm_dec dtX1_clear 1 rfl) ?_
  refine pv_iconst (pc := 4) (v := 0) (by decide) (fm_dec dtX1_clear 2 rfl) ?_
  refine pv_iconst (pc := 5) (v := (-1)) (by decide) (fm_dec dtX1_clear 3 rfl) ?_
  refine pv_iast (k := 24) (n := 150) (pc := 6) (by decide) rfl rfl (fm_inl (by decide)) (fm_dec dtX1_clear 4 rfl) ?_
  refine pv_aloadn (pc := 7) (n := 0) 0 rfl rfl (fm_dec dtX1_clear 5 rfl) ?_
  refine pv_getR (k := 23) (j := 0) (ci := 1) (pc := 8) 24 rfl (by decide) pfl_X1_9 (by decide) rfl (by decide) (fm_dec dtX1_clear 6 rfl) ?_
  refine pv_iconst (pc := 11) (v := 1) (by decide) (fm_dec dtX1_clear 7 rfl) ?_
  refine pv_iconst (pc := 12) (v := (-1)) (by decide) (fm_dec dtX1_clear 8 rfl) ?_
  refine pv_iast (k := 24) (n := 150) (pc := 13) (by decide) rfl rfl (fm_inl (by decide)) (fm_dec dtX1_clear 9 rfl) ?_
  refine pv_aloadn (pc := 14) (n := 0) 0 rfl rfl (fm_dec dtX1_clear 10 rfl) ?_
  refine pv_getR (k := 23) (j := 0) (ci := 1) (pc := 15) 24 rfl (by decide) pfl_X1_9 (by decide) rfl (by decide) (fm_dec dtX1_clear 11 rfl) ?_
  refine pv_iconst (pc := 18) (v := 2) (by decide) (fm_dec dtX1_clear 12 rfl) ?_
  refine pv_bipush (pc := 19) (v := (-8)) (by decide) (fm_dec dtX1_clear 13 rfl) ?_
  refine pv_iast (k := 24) (n := 150) (pc := 21) (by decide) rfl rfl (fm_inl (by decide)) (fm_dec dtX1_clear 14 rfl) ?_
  refine pv_aloadn (pc := 22) (n := 0) 0 rfl rfl (fm_dec dtX1_clear 15 rfl) ?_
  refine pv_iconst (pc := 23) (v := 3) (by decide) (fm_dec dtX1_clear 16 rfl) ?_
  refine pv_putI (k := 23) (j := 3) (ci := 1) (pc := 24) pfl_X1_24 (by decide) rfl (by decide) (fm_dec dtX1_clear 17 rfl) ?_
  exact pv_return (pc := 27) rfl (fm_dec dtX1_clear 18 rfl) (hq _ ⟨rfl, rfl, rfl, rfl⟩)
set_option maxRecDepth 20000 in
theorem c_pgclr {M : fmM} {Q : fmR → fmM → Prop}  (hq : ∀ M' : fmM, M'.1 27 1 = 0 ∧ M'.1 27 2 = 0 → Q (.inl none) M') : pvGood Tx 0 qX2_clear [.ref 27] M Q := by
  refine pvGood_of (Nat.le_of_ble_eq_true rfl) ?_
  show pvEv Tx 0 qX2_clear 0 [some (.ref 27)] [] M Q
  refine pv_aloadn (pc := 0) (n := 0) 0 rfl rfl (fm_dec dtX2_clear 0 rfl) ?_
  refine pv_iconst (pc := 1) (v := 0) (by decide) (fm_dec dtX2_clear 1 rfl) ?_
  refine pv_putI (k := 27) (j := 0) (ci := 2) (pc := 2) pfl_X2_9 (by decide) rfl (by decide) (fm_dec dtX2_clear 2 rfl) ?_
  refine pv_aloadn (pc := 5) (n := 0) 0 rfl rfl (fm_dec dtX2_clear 3 rfl) ?_
  refine pv_iconst (pc := 6) (v := 0) (by decide) (fm_dec dtX2_clear 4 rfl) ?_
  refine pv_putI (k := 27) (j := 1) (ci := 2) (pc := 7) pfl_X2_15 (by decide) rfl (by decide) (fm_dec dtX2_clear 5 rfl) ?_
  refine pv_aloadn (pc := 10) (n := 0) 0 rfl rfl (fm_dec dtX2_clear 6 rfl) ?_
  refine pv_iconst (pc := 11) (v := 0) (by decide) (fm_dec dtX2_clear 7 rfl) ?_
  refine pv_putI (k := 27) (j := 2) (ci := 2) (pc := 12) pfl_X2_18 (by decide) rfl (by decide) (fm_dec dtX2_clear 8 rfl) ?_
  exact pv_return (pc := 15) rfl (fm_dec dtX2_clear 9 rfl) (hq _ ⟨rfl, rfl⟩)
theorem x_clr1 {M : fmM} {Q : fmR → fmM → Prop} (hI : scInv Tx invX M) (hq : ∀ M' : fmM, scInv Tx invX M' → scFr [(23, 3, 1), (24, 0, 3)] M M' → M'.1 23 3 = 3 ∧ M'.1 24 0 = -1 ∧ M'.1 24 1 = -1 ∧ M'.1 24 2 = -8 → Q (.inl none) M') : pvGood Tx 0 qX1_clear [.ref 23] M Q := ((c_lwclr (Q := fun r M' => r = .inl none ∧ M'.1 23 3 = 3 ∧ M'.1 24 0 = -1 ∧ M'.1 24 1 = -1 ∧ M'.1 24 2 = -8) (fun _ h => ⟨rfl, h⟩)).and (s_clear1 (Q := fun _ M' => scInv Tx invX M' ∧ scFr [(23, 3, 1), (24, 0, 3)] M M') hI (fun M' h1 h2 => ⟨h1, h2⟩))).imp (fun r M' h => by
  obtain ⟨⟨rfl, e⟩, h1, h2⟩ := h
  exact hq M' h1 h2 e)
theorem x_clr2 {M : fmM} {Q : fmR → fmM → Prop} (hI : scInv Tx invX M) (hq : ∀ M' : fmM, scInv Tx invX M' → scFr [(27, 0, 3)] M M' → M'.1 27 1 = 0 ∧ M'.1 27 2 = 0 → Q (.inl none) M') : pvGood Tx 0 qX2_clear [.ref 27] M Q := ((c_pgclr (Q := fun r M' => r = .inl none ∧ M'.1 27 1 = 0 ∧ M'.1 27 2 = 0) (fun _ h => ⟨rfl, h⟩)).and (s_clear2 (Q := fun _ M' => scInv Tx invX M' ∧ scFr [(27, 0, 3)] M M') hI (fun M' h1 h2 => ⟨h1, h2⟩))).imp (fun r M' h => by
  obtain ⟨⟨rfl, e⟩, h1, h2⟩ := h
  exact hq M' h1 h2 e)
set_option maxRecDepth 20000 in
theorem c_xdrawer {M : fmM} {Q : fmR → fmM → Prop} {T : Nat → tX} {nn : Int32} (hI : scInv Tx invX M) (hT : txF M T) (hrf : ¬ txP nn 600 (M.1 1 1).toInt → Q (.inr fmIAE) (fmI M 0 16 (M.1 0 16 + 1))) (hok : ∀ (n : Nat) (M' : fmM) (D : dD) (r : Int32), nn.toInt = (n : Int) → txP nn 600 (M.1 1 1).toInt → spDrawer (T n) n = .inr D → r.toInt = (D.1 : Int) → dwNew M' D → Q (.inl (some (.int r))) M') (hbad : ∀ (n k a : Nat) (M' : fmM) (r : Int32), nn.toInt = (n : Int) → txP nn 600 (M.1 1 1).toInt → spDrawer (T n) n = .inl (k, a) → r.toInt = (k : Int) - 10 → tbad (opM M nn) M' k a → Q (.inl (some (.int r))) M') : pvGood Tx 41 qX10_drawer [.ref 0, .int nn] M Q := by
  refine pvGood_of (Nat.le_of_ble_eq_true rfl) ?_
  show pvEv Tx 41 qX10_drawer 0 [some (.ref 0), some (.int nn)] [] M Q
  refine pv_aloadn (pc := 0) (n := 0) 0 rfl rfl (fm_dec dtX10_drawer 0 rfl) ?_
  refine pv_iloadn (pc := 1) (n := 1) 1 rfl rfl (fm_dec dtX10_drawer 1 rfl) ?_
  refine pv_sipush (pc := 2) (v := 600) (by decide) (fm_dec dtX10_drawer 2 rfl) ?_
  refine pv_invV2 (k := 0) (d' := 1) (pc := 5) pcv_X10_108 (by decide) rfl (Nat.le_of_ble_eq_true rfl) (by decide) (fm_dec dtX10_drawer 3 rfl) ?_
  refine c_openT (fun h5 => ?_) (fun h5 => ?_)
  · refine pv_then0 ?_
    have h56 : nn.toInt ≤ 600 := h5.2.1
    obtain ⟨n, hn⟩ : ∃ n : Nat, nn.toInt = (n : Int) := ⟨nn.toInt.toNat, by have := h5.1; omega⟩
    have hI5 := inv_open (n := nn) hI h5.1 (by omega)
    have hT9 := hT n (by have := h5.2.2; omega)
    have hS := op_S hn hT9.1 hT9.2
    have hf5 : (opM M nn).1 1 4 = 0 := rfl
    refine pv_aloadn (pc := 8) (n := 0) 0 rfl rfl (fm_dec dtX10_drawer 4 rfl) ?_
    refine pv_getR (k := 0) (j := 2) (ci := 10) (pc := 9) 13 rfl (by decide) pfl_X10_23 (by decide) rfl (by decide) (fm_dec dtX10_drawer 5 rfl) ?_
    refine pv_aloadn (pc := 12) (n := 0) 0 rfl rfl (fm_dec dtX10_drawer 6 rfl) ?_
    refine pv_getR (k := 0) (j := 0) (ci := 10) (pc := 13) 1 rfl (by decide) pfl_X10_12 (by decide) rfl (by decide) (fm_dec dtX10_drawer 7 rfl) ?_
    refine pv_invV1 (k := 13) (d' := 7) (pc := 16) pcv_X10_112 (by decide) rfl (Nat.le_of_ble_eq_true rfl) (by decide) (fm_dec dtX10_drawer 8 rfl) ?_
    refine c_xdread hS hf5 hI5 (fun M16 D16 e16 k16 => ?_) (fun Mb kb ab eb hB => ?_)  
    · refine pv_then1 ?_
      refine pv_if_ne (pc := 19) 33 (by decide) (fm_dec dtX10_drawer 9 rfl) (fun _ => ?_) (fun hc19 => by exfalso; revert hc19; decide)
      refine pv_aloadn (pc := 33) (n := 0) 0 rfl rfl (fm_dec dtX10_drawer 16 rfl) ?_
      refine pv_getR (k := 0) (j := 1) (ci := 10) (pc := 34) 3 rfl (by decide) pfl_X10_19 (by decide) rfl (by decide) (fm_dec dtX10_drawer 17 rfl) ?_
      refine pv_aloadn (pc := 37) (n := 0) 0 rfl rfl (fm_dec dtX10_drawer 18 rfl) ?_
      refine pv_getR (k := 0) (j := 2) (ci := 10) (pc := 38) 13 rfl (by decide) pfl_X10_23 (by decide) rfl (by decide) (fm_dec dtX10_drawer 19 rfl) ?_
      refine pv_invV1 (k := 3) (d' := 0) (pc := 41) pcv_X10_119 (by decide) rfl (Nat.le_of_ble_eq_true rfl) (by decide) (fm_dec dtX10_drawer 20 rfl) ?_
      refine x_copy k16.2.2.2.2 k16.1 k16.2.1 (fun M41 hI41 hW41 f41 => ?_)
      refine pv_then0 ?_
      refine pv_aloadn (pc := 44) (n := 0) 0 rfl rfl (fm_dec dtX10_drawer 21 rfl) ?_
      refine pv_getR (k := 0) (j := 3) (ci := 10) (pc := 45) 23 rfl (by decide) pfl_X10_29 (by decide) rfl (by decide) (fm_dec dtX10_drawer 22 rfl) ?_
      refine pv_invV0 (k := 23) (d' := 0) (pc := 48) pcv_X10_122 (by decide) rfl (Nat.le_of_ble_eq_true rfl) (by decide) (fm_dec dtX10_drawer 23 rfl) ?_
      refine x_clr1 hI41 (fun M48 hI48 f48 c48 => ?_)
      refine pv_then0 ?_
      refine pv_aloadn (pc := 51) (n := 0) 0 rfl rfl (fm_dec dtX10_drawer 24 rfl) ?_
      refine pv_getR (k := 0) (j := 4) (ci := 10) (pc := 52) 27 rfl (by decide) pfl_X10_36 (by decide) rfl (by decide) (fm_dec dtX10_drawer 25 rfl) ?_
      refine pv_invV0 (k := 27) (d' := 0) (pc := 55) pcv_X10_125 (by decide) rfl (Nat.le_of_ble_eq_true rfl) (by decide) (fm_dec dtX10_drawer 26 rfl) ?_
      refine x_clr2 hI48 (fun M55 hI55 f55 c55 => ?_)
      refine pv_then0 ?_
      refine pv_aloadn (pc := 58) (n := 0) 0 rfl rfl (fm_dec dtX10_drawer 27 rfl) ?_
      refine pv_getR (k := 0) (j := 9) (ci := 10) (pc := 59) 46 rfl (by decide) pfl_X10_75 (by decide) rfl (by decide) (fm_dec dtX10_drawer 28 rfl) ?_
      refine pv_getR (k := 46) (j := 0) (ci := 5) (pc := 62) 47 rfl (by decide) pfl_X10_90 (by decide) rfl (by decide) (fm_dec dtX10_drawer 29 rfl) ?_
      refine pv_aloadn (pc := 65) (n := 0) 0 rfl rfl (fm_dec dtX10_drawer 30 rfl) ?_
      refine pv_getR (k := 0) (j := 1) (ci := 10) (pc := 66) 3 rfl (by decide) pfl_X10_19 (by decide) rfl (by decide) (fm_dec dtX10_drawer 31 rfl) ?_
      refine pv_invV1 (k := 47) (d' := 0) (pc := 69) pcv_X10_94 (by decide) rfl (Nat.le_of_ble_eq_true rfl) (by decide) (fm_dec dtX10_drawer 32 rfl) ?_
      refine s_begin6 hI55 (fun M69 hI69 f69 => ?_)
      refine pv_then0 ?_
      refine pv_aloadn (pc := 72) (n := 0) 0 rfl rfl (fm_dec dtX10_drawer 33 rfl) ?_
      refine pv_getR (k := 0) (j := 9) (ci := 10) (pc := 73) 46 rfl (by decide) pfl_X10_75 (by decide) rfl (by decide) (fm_dec dtX10_drawer 34 rfl) ?_
      refine pv_iconst (pc := 76) (v := 0) (by decide) (fm_dec dtX10_drawer 35 rfl) ?_
      refine pv_putI (k := 46) (j := 2) (ci := 5) (pc := 77) pfl_X10_126 (by decide) rfl (by decide) (fm_dec dtX10_drawer 36 rfl) ?_
      refine pv_aloadn (pc := 80) (n := 0) 0 rfl rfl (fm_dec dtX10_drawer 37 rfl) ?_
      refine pv_iconst (pc := 81) (v := 0) (by decide) (fm_dec dtX10_drawer 38 rfl) ?_
      refine pv_putI (k := 0) (j := 13) (ci := 10) (pc := 82) pfl_X10_129 (by decide) rfl (by decide) (fm_dec dtX10_drawer 39 rfl) ?_
      refine pv_aloadn (pc := 85) (n := 0) 0 rfl rfl (fm_dec dtX10_drawer 40 rfl) ?_
      refine pv_iconst (pc := 86) (v := 0) (by decide) (fm_dec dtX10_drawer 41 rfl) ?_
      refine pv_putI (k := 0) (j := 14) (ci := 10) (pc := 87) pfl_X10_132 (by decide) rfl (by decide) (fm_dec dtX10_drawer 42 rfl) ?_
      refine pv_aloadn (pc := 90) (n := 0) 0 rfl rfl (fm_dec dtX10_drawer 43 rfl) ?_
      refine pv_getR (k := 0) (j := 7) (ci := 10) (pc := 91) 34 rfl (by decide) pfl_X10_61 (by decide) rfl (by decide) (fm_dec dtX10_drawer 44 rfl) ?_
      refine pv_invV0 (k := 34) (d' := 0) (pc := 94) pcv_X10_135 (by decide) rfl (Nat.le_of_ble_eq_true rfl) (by decide) (fm_dec dtX10_drawer 45 rfl) ?_
      refine s_forget (xInv.put (xInv.put (xInv.put hI69 (by decide)) (by decide)) (scq_t 0)) (fun M94 hI94 f94 => ?_)
      refine pv_then0 ?_
      refine pv_aloadn (pc := 97) (n := 0) 0 rfl rfl (fm_dec dtX10_drawer 46 rfl) ?_
      refine pv_getR (k := 0) (j := 1) (ci := 10) (pc := 98) 3 rfl (by decide) pfl_X10_19 (by decide) rfl (by decide) (fm_dec dtX10_drawer 47 rfl) ?_
      refine pv_getI (k := 3) (j := 9) (ci := 8) (pc := 101) pfl_X10_138 (by decide) rfl (by decide) (fm_dec dtX10_drawer 48 rfl) ?_
      exact pv_ireturn (pc := 104) rfl (fm_dec dtX10_drawer 49 rfl) (hok n _ D16 _ hn h5 e16 (by rw [(f94 3 9 rfl).1]; show (M69.1 3 9).toInt = _; rw [(f69 3 9 rfl).1, (f55 3 9 rfl).1, (f48 3 9 rfl).1]; exact hW41.1.1) ⟨k16.2.1, hW41.of (fun k j a b => by rw [kp_of (P := ([(3, 12)], [])) f94 (by decide) k j (kp_in12 a b), fmI_at, if_neg (by omega), fmI_at, if_neg (by omega), fmI_at, if_neg (by omega), kp_of (P := ([(3, 12)], [])) f69 (by decide) k j (kp_in12 a b), kp_of (P := ([(3, 12)], [])) f55 (by decide) k j (kp_in12 a b), kp_of (P := ([(3, 12)], [])) f48 (by decide) k j (kp_in12 a b)]), ⟨(f94 0 13 rfl).1.trans rfl, (f94 46 2 rfl).1.trans rfl⟩, ⟨(f94 27 1 rfl).1.trans ((f69 27 1 rfl).1.trans c55.1), (f94 27 2 rfl).1.trans ((f69 27 2 rfl).1.trans c55.2)⟩, (f94 23 3 rfl).1.trans ((f69 23 3 rfl).1.trans ((f55 23 3 rfl).1.trans c48.1)), (f94 24 0 rfl).1.trans ((f69 24 0 rfl).1.trans ((f55 24 0 rfl).1.trans c48.2.1)), (f94 24 1 rfl).1.trans ((f69 24 1 rfl).1.trans ((f55 24 1 rfl).1.trans c48.2.2.1)), (f94 24 2 rfl).1.trans ((f69 24 2 rfl).1.trans ((f55 24 2 rfl).1.trans c48.2.2.2))⟩)
    · refine pv_then1 ?_
      refine pv_if_ne (pc := 19) 33 (by decide) (fm_dec dtX10_drawer 9 rfl) (fun hc19 => by exfalso; revert hc19; decide) (fun _ => ?_)
      refine pv_aloadn (pc := 22) (n := 0) 0 rfl rfl (fm_dec dtX10_drawer 10 rfl) ?_
      refine pv_getR (k := 0) (j := 0) (ci := 10) (pc := 23) 1 rfl (by decide) pfl_X10_12 (by decide) rfl (by decide) (fm_dec dtX10_drawer 11 rfl) ?_
      refine pv_getI (k := 1) (j := 4) (ci := 7) (pc := 26) pfl_X10_116 (by decide) rfl (by decide) (fm_dec dtX10_drawer 12 rfl) ?_
      refine pv_bipush (pc := 29) (v := 10) (by decide) (fm_dec dtX10_drawer 13 rfl) ?_
      refine pv_isub (pc := 31) (fm_dec dtX10_drawer 14 rfl) ?_
      exact pv_ireturn (pc := 32) rfl (fm_dec dtX10_drawer 15 rfl) (hbad n kb ab Mb _ hn h5 eb (law_r hB.1 (by have h9 : (Mb.1 1 4).toInt ≤ 3 := (hB.2.2.2.2.1 1 4 (by decide)).2; have h8 := hB.1; omega)) hB)
  · refine pv_thenX ?_
    exact hrf h5
