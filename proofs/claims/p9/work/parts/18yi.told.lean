set_option maxRecDepth 20000 in
theorem c_pgclrP {M : fmM} {Q : fmR → fmM → Prop}  (hq : ∀ M' : fmM, M'.1 27 0 = 0 → Q (.inl none) M') : pvGood Tx 0 qX2_clear [.ref 27] M Q := by
  refine pvGood_of (Nat.le_of_ble_eq_true rfl) ?_
  show pvEv Tx 0 qX2_clear 0 [some (.ref 27)] [] M Q
  refine pv_aloadn (pc := 0) (n := 0) 0 rfl rfl (fm_dec dtX2_clear 0 rfl) ?_
  refine pv_iconst (pc := 1) (v := 0) (by decide) (fm_dec dtX2_clear 1 rfl) ?_
  refine pv_putI (k := 27) (j := 0) (ci := 2) (pc := 2) pfl_X2_9 (by decide) rfl (by decide) (fm_dec dtX2_clear 2 rfl) ?_
  refine pv_aloadn (pc := 5) (n := 0) 0 rfl rfl (fm_dec dtX2_clear 3 rfl) ?_
  refine pv_iconst (pc := 6) (v := 0) (by decide) (fm_dec dtX2_clear 4 rfl) ?_
  refine pv_putI (k := 27) (j := 1) (ci := 2) (pc := 7) pfl_X2_15 (by decide) rfl (by decide) (fm_dec dtX2_clear 5 rfl) ?_
  refine pv_aloadn (pc := 10) (n := 0) 0 rfl rfl (fm_dec dtX2_clear 6 rfl) ?_
  refine pv_iconst (pc := 11) (v := 0) (by decide) (fm_dec dtX2_clear 7 rfl) ?_
  refine pv_putI (k := 27) (j := 2) (ci := 2) (pc := 12) pfl_X2_18 (by decide) rfl (by decide) (fm_dec dtX2_clear 8 rfl) ?_
  exact pv_return (pc := 15) rfl (fm_dec dtX2_clear 9 rfl) (hq _ rfl)
theorem x_clr2P {M : fmM} {Q : fmR → fmM → Prop} (hI : scInv Tx invX M) (hq : ∀ M' : fmM, scInv Tx invX M' → scFr [(27, 0, 3)] M M' → M'.1 27 0 = 0 → Q (.inl none) M') : pvGood Tx 0 qX2_clear [.ref 27] M Q := ((c_pgclrP (Q := fun r M' => r = .inl none ∧ M'.1 27 0 = 0) (fun _ h => ⟨rfl, h⟩)).and (s_clear2 (Q := fun _ M' => scInv Tx invX M' ∧ scFr [(27, 0, 3)] M M') hI (fun M' h1 h2 => ⟨h1, h2⟩))).imp (fun r M' h => by
  obtain ⟨⟨rfl, e⟩, h1, h2⟩ := h
  exact hq M' h1 h2 e)
set_option maxRecDepth 20000 in
theorem c_xdrawP {M : fmM} {Q : fmR → fmM → Prop} {T : Nat → tX} {nn : Int32} (hI : scInv Tx invX M) (hT : txF M T) (hrf : ¬ txP nn 600 (M.1 1 1).toInt → Q (.inr fmIAE) (fmI M 0 16 (M.1 0 16 + 1))) (hok : ∀ (n : Nat) (M' : fmM) (D : dD) (r : Int32), nn.toInt = (n : Int) → txP nn 600 (M.1 1 1).toInt → spDrawer (T n) n = .inr D → r.toInt = (D.1 : Int) → M'.1 27 0 = 0 → Q (.inl (some (.int r))) M') (hbad : ∀ (n k a : Nat) (M' : fmM) (r : Int32), nn.toInt = (n : Int) → txP nn 600 (M.1 1 1).toInt → spDrawer (T n) n = .inl (k, a) → r.toInt = (k : Int) - 10 → tbad (opM M nn) M' k a → Q (.inl (some (.int r))) M') : pvGood Tx 41 qX10_drawer [.ref 0, .int nn] M Q := by
  refine pvGood_of (Nat.le_of_ble_eq_true rfl) ?_
  show pvEv Tx 41 qX10_drawer 0 [some (.ref 0), some (.int nn)] [] M Q
  refine pv_aloadn (pc := 0) (n := 0) 0 rfl rfl (fm_dec dtX10_drawer 0 rfl) ?_
  refine pv_iloadn (pc := 1) (n := 1) 1 rfl rfl (fm_dec dtX10_drawer 1 rfl) ?_
  refine pv_sipush (pc := 2) (v := 600) (by decide) (fm_dec dtX10_drawer 2 rfl) ?_
  refine pv_invV2 (k := 0) (d' := 1) (pc := 5) pcv_X10_108 (by decide) rfl (Nat.le_of_ble_eq_true rfl) (by decide) (fm_dec dtX10_drawer 3 rfl) ?_
  refine c_openT (fun h5 => ?_) (fun h5 => ?_)
  · refine pv_then0 ?_
    have h56 : nn.toInt ≤ 600 := h5.2.1
    obtain ⟨n, hn⟩ : ∃ n : Nat, nn.toInt = (n : Int) := ⟨nn.toInt.toNat, by have := h5.1; omega⟩
    have hI5 := inv_open (n := nn) hI h5.1 (by omega)
    have hT9 := hT n (by have := h5.2.2; omega)
    have hS := op_S hn hT9.1 hT9.2
    have hf5 : (opM M nn).1 1 4 = 0 := rfl
    refine pv_aloadn (pc := 8) (n := 0) 0 rfl rfl (fm_dec dtX10_drawer 4 rfl) ?_
    refine pv_getR (k := 0) (j := 2) (ci := 10) (pc := 9) 13 rfl (by decide) pfl_X10_23 (by decide) rfl (by decide) (fm_dec dtX10_drawer 5 rfl) ?_
    refine pv_aloadn (pc := 12) (n := 0) 0 rfl rfl (fm_dec dtX10_drawer 6 rfl) ?_
    refine pv_getR (k := 0) (j := 0) (ci := 10) (pc := 13) 1 rfl (by decide) pfl_X10_12 (by decide) rfl (by decide) (fm_dec dtX10_drawer 7 rfl) ?_
    refine pv_invV1 (k := 13) (d' := 7) (pc := 16) pcv_X10_112 (by decide) rfl (Nat.le_of_ble_eq_true rfl) (by decide) (fm_dec dtX10_drawer 8 rfl) ?_
    refine c_xdread hS hf5 hI5 (fun M16 D16 e16 k16 => ?_) (fun Mb kb ab eb hB => ?_)  
    · refine pv_then1 ?_
      refine pv_if_ne (pc := 19) 33 (by decide) (fm_dec dtX10_drawer 9 rfl) (fun _ => ?_) (fun hc19 => by exfalso; revert hc19; decide)
      refine pv_aloadn (pc := 33) (n := 0) 0 rfl rfl (fm_dec dtX10_drawer 16 rfl) ?_
      refine pv_getR (k := 0) (j := 1) (ci := 10) (pc := 34) 3 rfl (by decide) pfl_X10_19 (by decide) rfl (by decide) (fm_dec dtX10_drawer 17 rfl) ?_
      refine pv_aloadn (pc := 37) (n := 0) 0 rfl rfl (fm_dec dtX10_drawer 18 rfl) ?_
      refine pv_getR (k := 0) (j := 2) (ci := 10) (pc := 38) 13 rfl (by decide) pfl_X10_23 (by decide) rfl (by decide) (fm_dec dtX10_drawer 19 rfl) ?_
      refine pv_invV1 (k := 3) (d' := 0) (pc := 41) pcv_X10_119 (by decide) rfl (Nat.le_of_ble_eq_true rfl) (by decide) (fm_dec dtX10_drawer 20 rfl) ?_
      refine x_copy k16.2.2.2.2 k16.1 k16.2.1 (fun M41 hI41 hW41 f41 => ?_)
      refine pv_then0 ?_
      refine pv_aloadn (pc := 44) (n := 0) 0 rfl rfl (fm_dec dtX10_drawer 21 rfl) ?_
      refine pv_getR (k := 0) (j := 3) (ci := 10) (pc := 45) 23 rfl (by decide) pfl_X10_29 (by decide) rfl (by decide) (fm_dec dtX10_drawer 22 rfl) ?_
      refine pv_invV0 (k := 23) (d' := 0) (pc := 48) pcv_X10_122 (by decide) rfl (Nat.le_of_ble_eq_true rfl) (by decide) (fm_dec dtX10_drawer 23 rfl) ?_
      refine x_clr1 hI41 (fun M48 hI48 f48 c48 => ?_)
      refine pv_then0 ?_
      refine pv_aloadn (pc := 51) (n := 0) 0 rfl rfl (fm_dec dtX10_drawer 24 rfl) ?_
      refine pv_getR (k := 0) (j := 4) (ci := 10) (pc := 52) 27 rfl (by decide) pfl_X10_36 (by decide) rfl (by decide) (fm_dec dtX10_drawer 25 rfl) ?_
      refine pv_invV0 (k := 27) (d' := 0) (pc := 55) pcv_X10_125 (by decide) rfl (Nat.le_of_ble_eq_true rfl) (by decide) (fm_dec dtX10_drawer 26 rfl) ?_
      refine x_clr2P hI48 (fun M55 hI55 f55 c55 => ?_)
      refine pv_then0 ?_
      refine pv_aloadn (pc := 58) (n := 0) 0 rfl rfl (fm_dec dtX10_drawer 27 rfl) ?_
      refine pv_getR (k := 0) (j := 9) (ci := 10) (pc := 59) 46 rfl (by decide) pfl_X10_75 (by decide) rfl (by decide) (fm_dec dtX10_drawer 28 rfl) ?_
      refine pv_getR (k := 46) (j := 0) (ci := 5) (pc := 62) 47 rfl (by decide) pfl_X10_90 (by decide) rfl (by decide) (fm_dec dtX10_drawer 29 rfl) ?_
      refine pv_aloadn (pc := 65) (n := 0) 0 rfl rfl (fm_dec dtX10_drawer 30 rfl) ?_
      refine pv_getR (k := 0) (j := 1) (ci := 10) (pc := 66) 3 rfl (by decide) pfl_X10_19 (by decide) rfl (by decide) (fm_dec dtX10_drawer 31 rfl) ?_
      refine pv_invV1 (k := 47) (d' := 0) (pc := 69) pcv_X10_94 (by decide) rfl (Nat.le_of_ble_eq_true rfl) (by decide) (fm_dec dtX10_drawer 32 rfl) ?_
      refine s_begin6 hI55 (fun M69 hI69 f69 => ?_)
      refine pv_then0 ?_
      refine pv_aloadn (pc := 72) (n := 0) 0 rfl rfl (fm_dec dtX10_drawer 33 rfl) ?_
      refine pv_getR (k := 0) (j := 9) (ci := 10) (pc := 73) 46 rfl (by decide) pfl_X10_75 (by decide) rfl (by decide) (fm_dec dtX10_drawer 34 rfl) ?_
      refine pv_iconst (pc := 76) (v := 0) (by decide) (fm_dec dtX10_drawer 35 rfl) ?_
      refine pv_putI (k := 46) (j := 2) (ci := 5) (pc := 77) pfl_X10_126 (by decide) rfl (by decide) (fm_dec dtX10_drawer 36 rfl) ?_
      refine pv_aloadn (pc := 80) (n := 0) 0 rfl rfl (fm_dec dtX10_drawer 37 rfl) ?_
      refine pv_iconst (pc := 81) (v := 0) (by decide) (fm_dec dtX10_drawer 38 rfl) ?_
      refine pv_putI (k := 0) (j := 13) (ci := 10) (pc := 82) pfl_X10_129 (by decide) rfl (by decide) (fm_dec dtX10_drawer 39 rfl) ?_
      refine pv_aloadn (pc := 85) (n := 0) 0 rfl rfl (fm_dec dtX10_drawer 40 rfl) ?_
      refine pv_iconst (pc := 86) (v := 0) (by decide) (fm_dec dtX10_drawer 41 rfl) ?_
      refine pv_putI (k := 0) (j := 14) (ci := 10) (pc := 87) pfl_X10_132 (by decide) rfl (by decide) (fm_dec dtX10_drawer 42 rfl) ?_
      refine pv_aloadn (pc := 90) (n := 0) 0 rfl rfl (fm_dec dtX10_drawer 43 rfl) ?_
      refine pv_getR (k := 0) (j := 7) (ci := 10) (pc := 91) 34 rfl (by decide) pfl_X10_61 (by decide) rfl (by decide) (fm_dec dtX10_drawer 44 rfl) ?_
      refine pv_invV0 (k := 34) (d' := 0) (pc := 94) pcv_X10_135 (by decide) rfl (Nat.le_of_ble_eq_true rfl) (by decide) (fm_dec dtX10_drawer 45 rfl) ?_
      refine s_forget (xInv.put (xInv.put (xInv.put hI69 (by decide)) (by decide)) (scq_t 0)) (fun M94 hI94 f94 => ?_)
      refine pv_then0 ?_
      refine pv_aloadn (pc := 97) (n := 0) 0 rfl rfl (fm_dec dtX10_drawer 46 rfl) ?_
      refine pv_getR (k := 0) (j := 1) (ci := 10) (pc := 98) 3 rfl (by decide) pfl_X10_19 (by decide) rfl (by decide) (fm_dec dtX10_drawer 47 rfl) ?_
      refine pv_getI (k := 3) (j := 9) (ci := 8) (pc := 101) pfl_X10_138 (by decide) rfl (by decide) (fm_dec dtX10_drawer 48 rfl) ?_
      exact pv_ireturn (pc := 104) rfl (fm_dec dtX10_drawer 49 rfl) (hok n _ D16 _ hn h5 e16 (by rw [(f94 3 9 rfl).1]; show (M69.1 3 9).toInt = _; rw [(f69 3 9 rfl).1, (f55 3 9 rfl).1, (f48 3 9 rfl).1]; exact hW41.1.1) ((f94 27 0 rfl).1.trans ((f69 27 0 rfl).1.trans c55)))
    · refine pv_then1 ?_
      refine pv_if_ne (pc := 19) 33 (by decide) (fm_dec dtX10_drawer 9 rfl) (fun hc19 => by exfalso; revert hc19; decide) (fun _ => ?_)
      refine pv_aloadn (pc := 22) (n := 0) 0 rfl rfl (fm_dec dtX10_drawer 10 rfl) ?_
      refine pv_getR (k := 0) (j := 0) (ci := 10) (pc := 23) 1 rfl (by decide) pfl_X10_12 (by decide) rfl (by decide) (fm_dec dtX10_drawer 11 rfl) ?_
      refine pv_getI (k := 1) (j := 4) (ci := 7) (pc := 26) pfl_X10_116 (by decide) rfl (by decide) (fm_dec dtX10_drawer 12 rfl) ?_
      refine pv_bipush (pc := 29) (v := 10) (by decide) (fm_dec dtX10_drawer 13 rfl) ?_
      refine pv_isub (pc := 31) (fm_dec dtX10_drawer 14 rfl) ?_
      exact pv_ireturn (pc := 32) rfl (fm_dec dtX10_drawer 15 rfl) (hbad n kb ab Mb _ hn h5 eb (law_r hB.1 (by have h9 : (Mb.1 1 4).toInt ≤ 3 := (hB.2.2.2.2.1 1 4 (by decide)).2; have h8 := hB.1; omega)) hB)
  · refine pv_thenX ?_
    exact hrf h5
/-- of the first n lives: those that live, and those with a piece -/
def alC (w : Nat) : Nat → Nat
  | 0 => 0
  | n + 1 => alC w n + if w.testBit n = true then 0 else 1
def pcC (S : aS) : Nat → Nat
  | 0 => 0
  | n + 1 => pcC S n + if S.2 n = -1 then 0 else 1
theorem alC_t {w n : Nat} (h : w.testBit n = true) : alC w n = alC w (n + 1) := by
  show _ = alC w n + if w.testBit n = true then 0 else 1
  rw [if_pos h]
  rfl
theorem alC_f {w n : Nat} (h : w.testBit n = false) : alC w n + 1 = alC w (n + 1) := by
  show _ = alC w n + if w.testBit n = true then 0 else 1
  rw [if_neg (by rw [h]; decide)]
theorem pcC_n {S : aS} {n : Nat} (h : S.2 n = -1) : pcC S n = pcC S (n + 1) := by
  show _ = pcC S n + if S.2 n = -1 then 0 else 1
  rw [if_pos h]
  rfl
theorem pcC_y {S : aS} {n : Nat} (h : ¬ S.2 n = -1) : pcC S n + 1 = pcC S (n + 1) := by
  show _ = pcC S n + if S.2 n = -1 then 0 else 1
  rw [if_neg h]
theorem alC_8 : ∀ w, w < 256 → ∀ l, l < 9 → w < 2 ^ l → pop8 w + alC w l = l := by decide +kernel
theorem pcC_b (S : aS) : ∀ n, pcC S n ≤ n := by
  intro n
  induction n with
  | zero => exact Nat.le_refl _
  | succ n ih =>
    by_cases h : S.2 n = -1
    · rw [← pcC_n h]; omega
    · rw [← pcC_y h]; omega
def toA (D : dD) (S : aS) (pg rf : Int) (k : Nat) : Int := match k with
  | 0 => (D.1 : Int)
  | 1 => (S.1.1 : Int)
  | 2 => (S.1.2.1 : Int)
  | 3 => ((alC S.1.2.2.1 D.1 : Nat) : Int)
  | 4 => ((pcC S D.1 : Nat) : Int)
  | 5 => (S.1.2.2.2.1 : Int)
  | 6 => (S.1.2.2.2.2.1 : Int)
  | 7 => pg
  | _ => rf
set_option maxRecDepth 20000 in
theorem xpc_loop {Q : fmR → fmM → Prop} {M : fmM} {D : dD} {cs : tC} {S : aS} {w : Int32} (h : xAq M D cs S) (hw : w.toInt = (D.1 : Int)) : ∀ (m : Nat) (n : Nat), n ≤ D.1 → D.1 - n = m → Q (.inl (some (.int (nI (pcC S D.1))))) M → pvEv Tx 40 qX6_pieces 4 [some (.ref 47), some (.int w), some (.int (nI (pcC S n))), some (.int (nI n))] [] M Q := by
  intro m
  induction m using Nat.strongRecOn with
  | _ m ih =>
    intro n hnD hm hq
    obtain ⟨hD, hX, hL, hs, ho⟩ := h
    have d8 := hD.1
    have hn9 : (nI n).toInt = (n : Int) := nI_toInt (by omega)
    refine pv_iloadn (pc := 4) (n := 3) 3 rfl rfl (fm_dec dtX6_pieces 4 rfl) ?_
    refine pv_iloadn (pc := 5) (n := 1) 1 rfl rfl (fm_dec dtX6_pieces 5 rfl) ?_
    refine pv_icmp_ge (pc := 6) 39 (by decide) (fm_dec dtX6_pieces 6 rfl) (fun hc6 => ?_) (fun hc6 => ?_)
    · refine pv_iloadn (pc := 39) (n := 2) 2 rfl rfl (fm_dec dtX6_pieces 24 rfl) ?_
      exact pv_ireturn (pc := 40) rfl (fm_dec dtX6_pieces 25 rfl) (by have e9 : n = D.1 := (by have z8 : (8 : Int32).toInt = 8 := (by decide); first | (rw [sc_le] at hc12; omega) | (rw [sc_le] at hc6; omega)); subst e9; exact hq)
    · refine pv_iloadn (pc := 9) (n := 3) 3 rfl rfl (fm_dec dtX6_pieces 7 rfl) ?_
      refine pv_bipush (pc := 10) (v := 8) (by decide) (fm_dec dtX6_pieces 8 rfl) ?_
      refine pv_icmp_ge (pc := 12) 39 (by decide) (fm_dec dtX6_pieces 9 rfl) (fun hc12 => ?_) (fun hc12 => ?_)
      · refine pv_iloadn (pc := 39) (n := 2) 2 rfl rfl (fm_dec dtX6_pieces 24 rfl) ?_
        exact pv_ireturn (pc := 40) rfl (fm_dec dtX6_pieces 25 rfl) (by have e9 : n = D.1 := (by have z8 : (8 : Int32).toInt = 8 := (by decide); first | (rw [sc_le] at hc12; omega) | (rw [sc_le] at hc6; omega)); subst e9; exact hq)
      · have hn : n < D.1 := (by rw [sc_le] at hc6; omega)
        have g := ag_x hs hn
        refine pv_iloadn (pc := 15) (n := 2) 2 rfl rfl (fm_dec dtX6_pieces 10 rfl) ?_
        refine pv_aloadn (pc := 16) (n := 0) 0 rfl rfl (fm_dec dtX6_pieces 11 rfl) ?_
        refine pv_getR (k := 47) (j := 0) (ci := 6) (pc := 17) 48 rfl (by decide) pfl_X6_9 (by decide) rfl (by decide) (fm_dec dtX6_pieces 12 rfl) ?_
        refine pv_iloadn (pc := 20) (n := 3) 3 rfl rfl (fm_dec dtX6_pieces 13 rfl) ?_
        refine pv_iald (k := 48) (n := 8) (pc := 21) (by decide) rfl rfl (ix_in hn9 (by omega)) (fm_dec dtX6_pieces 14 rfl) ?_
        rw [i32_cl hn9]
        refine pv_iconst (pc := 22) (v := (-1)) (by decide) (fm_dec dtX6_pieces 15 rfl) ?_
        refine pv_icmp_ne (pc := 23) 30 (by decide) (fm_dec dtX6_pieces 16 rfl) (fun hc23 => ?_) (fun hc23 => ?_)
        · refine pv_iconst (pc := 30) (v := 1) (by decide) (fm_dec dtX6_pieces 19 rfl) ?_
          refine pv_iadd (pc := 31) (fm_dec dtX6_pieces 20 rfl) ?_
          refine pv_istoren (pc := 32) (n := 2) 2 rfl (by decide) rfl (fm_dec dtX6_pieces 21 rfl) ?_
          dsimp only [List.set_cons_zero, List.set_cons_succ]
          refine pv_iincc (pc := 33) 3 1 (by decide) rfl (by decide) rfl (fm_dec dtX6_pieces 22 rfl) ?_
          dsimp only [List.set_cons_zero, List.set_cons_succ]
          refine pv_goto (pc := 36) 4 (by decide) (fm_dec dtX6_pieces 23 rfl) ?_
          rw [nI_succ1, nI_succ1, pcC_y (fun e => hc23 (i32_ext (by rw [g, e]; decide)))]
          exact ih (D.1 - (n + 1)) (by omega) (n + 1) (by omega) rfl hq
        · refine pv_iconst (pc := 26) (v := 0) (by decide) (fm_dec dtX6_pieces 17 rfl) ?_
          refine pv_goto (pc := 27) 31 (by decide) (fm_dec dtX6_pieces 18 rfl) ?_
          refine pv_iadd (pc := 31) (fm_dec dtX6_pieces 20 rfl) ?_
          refine pv_istoren (pc := 32) (n := 2) 2 rfl (by decide) rfl (fm_dec dtX6_pieces 21 rfl) ?_
          dsimp only [List.set_cons_zero, List.set_cons_succ]
          refine pv_iincc (pc := 33) 3 1 (by decide) rfl (by decide) rfl (fm_dec dtX6_pieces 22 rfl) ?_
          dsimp only [List.set_cons_zero, List.set_cons_succ]
          refine pv_goto (pc := 36) 4 (by decide) (fm_dec dtX6_pieces 23 rfl) ?_
          rw [Int32.add_zero, nI_succ1, pcC_n (by by_cases h9 : S.2 n = -1; exact h9; exact absurd (by first | exact hc23 | exact Classical.not_not.mp hc23) (fun e9 : M.1 48 n = -1 => h9 (ag_m hs hn e9)))]
          exact ih (D.1 - (n + 1)) (by omega) (n + 1) (by omega) rfl hq
set_option maxRecDepth 20000 in
theorem c_xpcs {M : fmM} {Q : fmR → fmM → Prop} {D : dD} {cs : tC} {S : aS} {w : Int32} (h : xAq M D cs S) (hw : w.toInt = (D.1 : Int)) (hq : Q (.inl (some (.int (nI (pcC S D.1))))) M) : pvGood Tx 40 qX6_pieces [.ref 47, .int w] M Q := by
  refine pvGood_of (Nat.le_of_ble_eq_true rfl) ?_
  show pvEv Tx 40 qX6_pieces 0 [some (.ref 47), some (.int w), none, none] [] M Q
  refine pv_iconst (pc := 0) (v := 0) (by decide) (fm_dec dtX6_pieces 0 rfl) ?_
  refine pv_istoren (pc := 1) (n := 2) 2 rfl (by decide) rfl (fm_dec dtX6_pieces 1 rfl) ?_
  dsimp only [List.set_cons_zero, List.set_cons_succ]
  refine pv_iconst (pc := 2) (v := 0) (by decide) (fm_dec dtX6_pieces 2 rfl) ?_
  refine pv_istoren (pc := 3) (n := 3) 3 rfl (by decide) rfl (fm_dec dtX6_pieces 3 rfl) ?_
  dsimp only [List.set_cons_zero, List.set_cons_succ]
  have d8 := h.1.1
  exact xpc_loop h hw D.1 0 (by omega) rfl hq
set_option maxRecDepth 20000 in
theorem c_xtold {M : fmM} {Q : fmR → fmM → Prop} {D : dD} {cs : tC} {S : aS} {pg rf : Int} {x : Int32} (h : xAq M D cs S) (hpg : (M.1 27 0).toInt = pg) (hrf : (M.1 0 14).toInt = rf) (hn2 : ¬ (inW x 0 8) → Q (.inr fmIAE) (fmI M 0 16 (M.1 0 16 + 1))) (hq : inW x 0 8 → ∀ (r : Int32) (M' : fmM), r.toInt = toA D S pg rf x.toInt.toNat → Q (.inl (some (.int r))) M') : pvGood Tx 41 qX10_told [.ref 0, .int x] M Q := by
  refine pvGood_of (Nat.le_of_ble_eq_true rfl) ?_
  show pvEv Tx 41 qX10_told 0 [some (.ref 0), some (.int x), none] [] M Q
  have hxq := h
  obtain ⟨hD, hX, hL, hs, ho⟩ := h
  have d8 := hD.1
  have hl9 : (M.1 3 9).toInt = (D.1 : Int) := hX.1.1
  refine pv_aloadn (pc := 0) (n := 0) 0 rfl rfl (fm_dec dtX10_told 0 rfl) ?_
  refine pv_iloadn (pc := 1) (n := 1) 1 rfl rfl (fm_dec dtX10_told 1 rfl) ?_
  refine pv_iconst (pc := 2) (v := 0) (by decide) (fm_dec dtX10_told 2 rfl) ?_
  refine pv_bipush (pc := 3) (v := 8) (by decide) (fm_dec dtX10_told 3 rfl) ?_
  refine pv_invV3 (k := 0) (d' := 0) (pc := 5) pcv_X10_169 (by decide) rfl (Nat.le_of_ble_eq_true rfl) (by decide) (fm_dec dtX10_told 4 rfl) ?_
  refine c_needW (fun h5a h5b => ?_) (fun h5 => ?_)
  · refine pv_then0 ?_
    refine pv_aloadn (pc := 8) (n := 0) 0 rfl rfl (fm_dec dtX10_told 5 rfl) ?_
    refine pv_getR (k := 0) (j := 9) (ci := 10) (pc := 9) 46 rfl (by decide) pfl_X10_75 (by decide) rfl (by decide) (fm_dec dtX10_told 6 rfl) ?_
    refine pv_getR (k := 46) (j := 0) (ci := 5) (pc := 12) 47 rfl (by decide) pfl_X10_90 (by decide) rfl (by decide) (fm_dec dtX10_told 7 rfl) ?_
    refine pv_astoren (pc := 15) (n := 2) 2 rfl (by decide) rfl (fm_dec dtX10_told 8 rfl) ?_
    dsimp only [List.set_cons_zero, List.set_cons_succ]
    rcases (show x.toInt = 0 ∨ x.toInt = 1 ∨ x.toInt = 2 ∨ x.toInt = 3 ∨ x.toInt = 4 ∨ x.toInt = 5 ∨ x.toInt = 6 ∨ x.toInt = 7 ∨ x.toInt = 8 by have z0 : (0 : Int32).toInt = 0 := (by decide); have z8 : (8 : Int32).toInt = 8 := (by decide); omega) with hy | hy | hy | hy | hy | hy | hy | hy | hy
    · obtain rfl : x = 0 := i32_ext (hy.trans (by decide))
      rw [show (0 : Int32).toInt.toNat = 0 by decide] at hq
      refine pv_iloadn (pc := 16) (n := 1) 1 rfl rfl (fm_dec dtX10_told 9 rfl) ?_
      refine pv_table (pc := 17) 64 (by decide) rfl (fm_dec dtX10_told 10 rfl) ?_
      refine pv_aloadn (pc := 64) (n := 0) 0 rfl rfl (fm_dec dtX10_told 11 rfl) ?_
      refine pv_getR (k := 0) (j := 1) (ci := 10) (pc := 65) 3 rfl (by decide) pfl_X10_19 (by decide) rfl (by decide) (fm_dec dtX10_told 12 rfl) ?_
      refine pv_getI (k := 3) (j := 9) (ci := 8) (pc := 68) pfl_X10_138 (by decide) rfl (by decide) (fm_dec dtX10_told 13 rfl) ?_
      exact pv_ireturn (pc := 71) rfl (fm_dec dtX10_told 14 rfl) (hq ⟨h5a, h5b⟩ _ _ (hl9))
    · obtain rfl : x = 1 := i32_ext (hy.trans (by decide))
      rw [show (1 : Int32).toInt.toNat = 1 by decide] at hq
      refine pv_iloadn (pc := 16) (n := 1) 1 rfl rfl (fm_dec dtX10_told 9 rfl) ?_
      refine pv_table (pc := 17) 72 (by decide) rfl (fm_dec dtX10_told 10 rfl) ?_
      refine pv_aloadn (pc := 72) (n := 2) 2 rfl rfl (fm_dec dtX10_told 15 rfl) ?_
      refine pv_getI (k := 47) (j := 2) (ci := 6) (pc := 73) pfl_X10_173 (by decide) rfl (by decide) (fm_dec dtX10_told 16 rfl) ?_
      exact pv_ireturn (pc := 76) rfl (fm_dec dtX10_told 17 rfl) (hq ⟨h5a, h5b⟩ _ _ (hs.2.1))
    · obtain rfl : x = 2 := i32_ext (hy.trans (by decide))
      rw [show (2 : Int32).toInt.toNat = 2 by decide] at hq
      refine pv_iloadn (pc := 16) (n := 1) 1 rfl rfl (fm_dec dtX10_told 9 rfl) ?_
      refine pv_table (pc := 17) 77 (by decide) rfl (fm_dec dtX10_told 10 rfl) ?_
      refine pv_aloadn (pc := 77) (n := 2) 2 rfl rfl (fm_dec dtX10_told 18 rfl) ?_
      refine pv_getI (k := 47) (j := 3) (ci := 6) (pc := 78) pfl_X10_176 (by decide) rfl (by decide) (fm_dec dtX10_told 19 rfl) ?_
      exact pv_ireturn (pc := 81) rfl (fm_dec dtX10_told 20 rfl) (hq ⟨h5a, h5b⟩ _ _ (hs.2.2.1))
    · obtain rfl : x = 3 := i32_ext (hy.trans (by decide))
      rw [show (3 : Int32).toInt.toNat = 3 by decide] at hq
      refine pv_iloadn (pc := 16) (n := 1) 1 rfl rfl (fm_dec dtX10_told 9 rfl) ?_
      refine pv_table (pc := 17) 82 (by decide) rfl (fm_dec dtX10_told 10 rfl) ?_
      refine pv_aloadn (pc := 82) (n := 0) 0 rfl rfl (fm_dec dtX10_told 21 rfl) ?_
      refine pv_getR (k := 0) (j := 1) (ci := 10) (pc := 83) 3 rfl (by decide) pfl_X10_19 (by decide) rfl (by decide) (fm_dec dtX10_told 22 rfl) ?_
      refine pv_getI (k := 3) (j := 9) (ci := 8) (pc := 86) pfl_X10_138 (by decide) rfl (by decide) (fm_dec dtX10_told 23 rfl) ?_
      refine pv_aloadn (pc := 89) (n := 2) 2 rfl rfl (fm_dec dtX10_told 24 rfl) ?_
      refine pv_getI (k := 47) (j := 1) (ci := 6) (pc := 90) pfl_X10_179 (by decide) rfl (by decide) (fm_dec dtX10_told 25 rfl) ?_
      have e93 : M.1 47 1 = nI S.1.2.2.1 := nI_is hs.1 (by have := ho.2.2.1; omega)
      rw [e93]
      refine pv_iS1 (d' := 0) (pc := 93) pcs_X10_182 (Nat.le_of_ble_eq_true rfl) (by decide) (fm_dec dtX10_told 26 rfl) ?_
      refine c_bits8 ho.2.2.1 ?_
      refine pv_then1 ?_
      refine pv_isub (pc := 96) (fm_dec dtX10_told 27 rfl) ?_
      exact pv_ireturn (pc := 97) rfl (fm_dec dtX10_told 28 rfl) (hq ⟨h5a, h5b⟩ _ _ (by have p8 := pop8_le _ ho.2.2.1; have e8 := alC_8 _ ho.2.2.1 D.1 (by omega) ho.2.2.2.2.2.2.2; have e9 : (nI (pop8 S.1.2.2.1)).toInt = ((pop8 S.1.2.2.1 : Nat) : Int) := nI_toInt (by omega); show _ = ((alC S.1.2.2.1 D.1 : Nat) : Int); rw [sc_sub (by omega) (by omega), hl9, e9]; omega))
    · obtain rfl : x = 4 := i32_ext (hy.trans (by decide))
      rw [show (4 : Int32).toInt.toNat = 4 by decide] at hq
      refine pv_iloadn (pc := 16) (n := 1) 1 rfl rfl (fm_dec dtX10_told 9 rfl) ?_
      refine pv_table (pc := 17) 98 (by decide) rfl (fm_dec dtX10_told 10 rfl) ?_
      refine pv_aloadn (pc := 98) (n := 2) 2 rfl rfl (fm_dec dtX10_told 29 rfl) ?_
      refine pv_aloadn (pc := 99) (n := 0) 0 rfl rfl (fm_dec dtX10_told 30 rfl) ?_
      refine pv_getR (k := 0) (j := 1) (ci := 10) (pc := 100) 3 rfl (by decide) pfl_X10_19 (by decide) rfl (by decide) (fm_dec dtX10_told 31 rfl) ?_
      refine pv_getI (k := 3) (j := 9) (ci := 8) (pc := 103) pfl_X10_138 (by decide) rfl (by decide) (fm_dec dtX10_told 32 rfl) ?_
      refine pv_invV1 (k := 47) (d' := 40) (pc := 106) pcv_X10_188 (by decide) rfl (Nat.le_of_ble_eq_true rfl) (by decide) (fm_dec dtX10_told 33 rfl) ?_
      refine c_xpcs hxq hl9 ?_
      refine pv_then1 ?_
      exact pv_ireturn (pc := 109) rfl (fm_dec dtX10_told 34 rfl) (hq ⟨h5a, h5b⟩ _ _ (nI_toInt (by have := pcC_b S D.1; omega)))
    · obtain rfl : x = 5 := i32_ext (hy.trans (by decide))
      rw [show (5 : Int32).toInt.toNat = 5 by decide] at hq
      refine pv_iloadn (pc := 16) (n := 1) 1 rfl rfl (fm_dec dtX10_told 9 rfl) ?_
      refine pv_table (pc := 17) 110 (by decide) rfl (fm_dec dtX10_told 10 rfl) ?_
      refine pv_aloadn (pc := 110) (n := 2) 2 rfl rfl (fm_dec dtX10_told 35 rfl) ?_
      refine pv_getI (k := 47) (j := 4) (ci := 6) (pc := 111) pfl_X10_191 (by decide) rfl (by decide) (fm_dec dtX10_told 36 rfl) ?_
      exact pv_ireturn (pc := 114) rfl (fm_dec dtX10_told 37 rfl) (hq ⟨h5a, h5b⟩ _ _ (hs.2.2.2.1))
    · obtain rfl : x = 6 := i32_ext (hy.trans (by decide))
      rw [show (6 : Int32).toInt.toNat = 6 by decide] at hq
      refine pv_iloadn (pc := 16) (n := 1) 1 rfl rfl (fm_dec dtX10_told 9 rfl) ?_
      refine pv_table (pc := 17) 115 (by decide) rfl (fm_dec dtX10_told 10 rfl) ?_
      refine pv_aloadn (pc := 115) (n := 2) 2 rfl rfl (fm_dec dtX10_told 38 rfl) ?_
      refine pv_getI (k := 47) (j := 5) (ci := 6) (pc := 116) pfl_X10_194 (by decide) rfl (by decide) (fm_dec dtX10_told 39 rfl) ?_
      exact pv_ireturn (pc := 119) rfl (fm_dec dtX10_told 40 rfl) (hq ⟨h5a, h5b⟩ _ _ (hs.2.2.2.2.1))
    · obtain rfl : x = 7 := i32_ext (hy.trans (by decide))
      rw [show (7 : Int32).toInt.toNat = 7 by decide] at hq
      refine pv_iloadn (pc := 16) (n := 1) 1 rfl rfl (fm_dec dtX10_told 9 rfl) ?_
      refine pv_table (pc := 17) 120 (by decide) rfl (fm_dec dtX10_told 10 rfl) ?_
      refine pv_aloadn (pc := 120) (n := 0) 0 rfl rfl (fm_dec dtX10_told 41 rfl) ?_
      refine pv_getR (k := 0) (j := 4) (ci := 10) (pc := 121) 27 rfl (by decide) pfl_X10_36 (by decide) rfl (by decide) (fm_dec dtX10_told 42 rfl) ?_
      refine pv_getI (k := 27) (j := 0) (ci := 2) (pc := 124) pfl_X10_162 (by decide) rfl (by decide) (fm_dec dtX10_told 43 rfl) ?_
      exact pv_ireturn (pc := 127) rfl (fm_dec dtX10_told 44 rfl) (hq ⟨h5a, h5b⟩ _ _ (hpg))
    · obtain rfl : x = 8 := i32_ext (hy.trans (by decide))
      rw [show (8 : Int32).toInt.toNat = 8 by decide] at hq
      refine pv_iloadn (pc := 16) (n := 1) 1 rfl rfl (fm_dec dtX10_told 9 rfl) ?_
      refine pv_table (pc := 17) 128 (by decide) rfl (fm_dec dtX10_told 10 rfl) ?_
      refine pv_aloadn (pc := 128) (n := 0) 0 rfl rfl (fm_dec dtX10_told 45 rfl) ?_
      refine pv_getI (k := 0) (j := 14) (ci := 10) (pc := 129) pfl_X10_132 (by decide) rfl (by decide) (fm_dec dtX10_told 46 rfl) ?_
      exact pv_ireturn (pc := 132) rfl (fm_dec dtX10_told 47 rfl) (hq ⟨h5a, h5b⟩ _ _ (hrf))
  · refine pv_thenX ?_
    exact hn2 (fun h9 => h5 ⟨h9.1, h9.2⟩)
set_option maxRecDepth 20000 in
theorem mal_loop {Q : fmR → fmM → Prop} {M : fmM} {D : dD} {cs : tC} {S : aS} (h : mAq M D cs S) : ∀ (m : Nat) (n : Nat), n ≤ D.1 → D.1 - n = m → Q (.inl (some (.int (nI (alC S.1.2.2.1 D.1))))) M → pvEv Tm 40 qX11_aliveIn 4 [some (.ref 0), some (.ref 7), some (.int (nI (alC S.1.2.2.1 n))), some (.int (nI n))] [] M Q := by
  intro m
  induction m using Nat.strongRecOn with
  | _ m ih =>
    intro n hnD hm hq
    obtain ⟨hD, hY, hM, hd, ht, ho⟩ := h
    have d8 := hD.1
    have hn9 : (nI n).toInt = (n : Int) := nI_toInt (by omega)
    have h39 : (M.1 4 (Int32.toNatClampNeg 0)).toInt = (D.1 : Int) := hY.1
    refine pv_iloadn (pc := 4) (n := 3) 3 rfl rfl (fm_dec dtX11_aliveIn 4 rfl) ?_
    refine pv_aloadn (pc := 5) (n := 0) 0 rfl rfl (fm_dec dtX11_aliveIn 5 rfl) ?_
    refine pv_getR (k := 0) (j := 12) (ci := 11) (pc := 6) 4 rfl (by decide) pfl_X11_23 (by decide) rfl (by decide) (fm_dec dtX11_aliveIn 6 rfl) ?_
    refine pv_iconst (pc := 9) (v := 0) (by decide) (fm_dec dtX11_aliveIn 7 rfl) ?_
    refine pv_iald (k := 4) (n := 6) (pc := 10) (by decide) rfl rfl (fm_inl (by decide)) (fm_dec dtX11_aliveIn 8 rfl) ?_
    refine pv_icmp_ge (pc := 11) 38 (by decide) (fm_dec dtX11_aliveIn 9 rfl) (fun hc11 => ?_) (fun hc11 => ?_)
    · refine pv_iloadn (pc := 38) (n := 2) 2 rfl rfl (fm_dec dtX11_aliveIn 24 rfl) ?_
      exact pv_ireturn (pc := 39) rfl (fm_dec dtX11_aliveIn 25 rfl) (by have e9 : n = D.1 := (by rw [sc_le] at hc11; omega); subst e9; exact hq)
    · have hn : n < D.1 := (by rw [sc_le] at hc11; omega)
      have e0 : M.1 7 (Int32.toNatClampNeg 0) = nI S.1.2.2.1 := nI_is ht.1 (by have := ho.2.2.1; omega)
      refine pv_iloadn (pc := 14) (n := 2) 2 rfl rfl (fm_dec dtX11_aliveIn 10 rfl) ?_
      refine pv_aloadn (pc := 15) (n := 1) 1 rfl rfl (fm_dec dtX11_aliveIn 11 rfl) ?_
      refine pv_iconst (pc := 16) (v := 0) (by decide) (fm_dec dtX11_aliveIn 12 rfl) ?_
      refine pv_iald (k := 7) (n := 14) (pc := 17) (by decide) rfl rfl (fm_inl (by decide)) (fm_dec dtX11_aliveIn 13 rfl) ?_
      refine pv_iloadn (pc := 18) (n := 3) 3 rfl rfl (fm_dec dtX11_aliveIn 14 rfl) ?_
      refine pv_iS2 (d' := 0) (pc := 19) pcs_X11_256 (Nat.le_of_ble_eq_true rfl) (by decide) (fm_dec dtX11_aliveIn 15 rfl) ?_
      refine c_has (fun h19 => ?_) (fun h19 => ?_)
      · refine pv_then1 ?_
        refine pv_if_eq (pc := 22) 29 (by decide) (fm_dec dtX11_aliveIn 16 rfl) (fun hc22 => by exfalso; revert hc22; decide) (fun _ => ?_)
        refine pv_iconst (pc := 25) (v := 0) (by decide) (fm_dec dtX11_aliveIn 17 rfl) ?_
        refine pv_goto (pc := 26) 30 (by decide) (fm_dec dtX11_aliveIn 18 rfl) ?_
        refine pv_iadd (pc := 30) (fm_dec dtX11_aliveIn 20 rfl) ?_
        refine pv_istoren (pc := 31) (n := 2) 2 rfl (by decide) rfl (fm_dec dtX11_aliveIn 21 rfl) ?_
        dsimp only [List.set_cons_zero, List.set_cons_succ]
        refine pv_iincc (pc := 32) 3 1 (by decide) rfl (by decide) rfl (fm_dec dtX11_aliveIn 22 rfl) ?_
        dsimp only [List.set_cons_zero, List.set_cons_succ]
        refine pv_goto (pc := 35) 4 (by decide) (fm_dec dtX11_aliveIn 23 rfl) ?_
        rw [Int32.add_zero, nI_succ1, alC_t ((has8 _ ho.2.2.1 n (by omega)).mp (by rw [← e0]; exact h19))]
        exact ih (D.1 - (n + 1)) (by omega) (n + 1) (by omega) rfl hq
      · refine pv_then1 ?_
        refine pv_if_eq (pc := 22) 29 (by decide) (fm_dec dtX11_aliveIn 16 rfl) (fun _ => ?_) (fun hc22 => by exfalso; revert hc22; decide)
        refine pv_iconst (pc := 29) (v := 1) (by decide) (fm_dec dtX11_aliveIn 19 rfl) ?_
        refine pv_iadd (pc := 30) (fm_dec dtX11_aliveIn 20 rfl) ?_
        refine pv_istoren (pc := 31) (n := 2) 2 rfl (by decide) rfl (fm_dec dtX11_aliveIn 21 rfl) ?_
        dsimp only [List.set_cons_zero, List.set_cons_succ]
        refine pv_iincc (pc := 32) 3 1 (by decide) rfl (by decide) rfl (fm_dec dtX11_aliveIn 22 rfl) ?_
        dsimp only [List.set_cons_zero, List.set_cons_succ]
        refine pv_goto (pc := 35) 4 (by decide) (fm_dec dtX11_aliveIn 23 rfl) ?_
        rw [nI_succ1, nI_succ1, alC_f (by cases e8 : S.1.2.2.1.testBit n with | false => rfl | true => exact absurd (by rw [e0]; exact (has8 _ ho.2.2.1 n (by omega)).mpr e8) h19)]
        exact ih (D.1 - (n + 1)) (by omega) (n + 1) (by omega) rfl hq
set_option maxRecDepth 20000 in
theorem c_mals {M : fmM} {Q : fmR → fmM → Prop} {D : dD} {cs : tC} {S : aS} (h : mAq M D cs S) (hq : Q (.inl (some (.int (nI (alC S.1.2.2.1 D.1))))) M) : pvGood Tm 40 qX11_aliveIn [.ref 0, .ref 7] M Q := by
  refine pvGood_of (Nat.le_of_ble_eq_true rfl) ?_
  show pvEv Tm 40 qX11_aliveIn 0 [some (.ref 0), some (.ref 7), none, none] [] M Q
  refine pv_iconst (pc := 0) (v := 0) (by decide) (fm_dec dtX11_aliveIn 0 rfl) ?_
  refine pv_istoren (pc := 1) (n := 2) 2 rfl (by decide) rfl (fm_dec dtX11_aliveIn 1 rfl) ?_
  dsimp only [List.set_cons_zero, List.set_cons_succ]
  refine pv_iconst (pc := 2) (v := 0) (by decide) (fm_dec dtX11_aliveIn 2 rfl) ?_
  refine pv_istoren (pc := 3) (n := 3) 3 rfl (by decide) rfl (fm_dec dtX11_aliveIn 3 rfl) ?_
  dsimp only [List.set_cons_zero, List.set_cons_succ]
  have d8 := h.1.1
  exact mal_loop h D.1 0 (by omega) rfl hq
set_option maxRecDepth 20000 in
theorem mtp_loop {Q : fmR → fmM → Prop} {x : Int32} {M : fmM} {D : dD} {cs : tC} {S : aS} (h : mAq M D cs S) : ∀ (m : Nat) (n : Nat), n ≤ D.1 → D.1 - n = m → Q (.inl (some (.int (nI (pcC S D.1))))) M → pvEv Tm 40 qX11_told 116 [some (.ref 0), some (.int x), some (.int (nI (pcC S n))), some (.int (nI n))] [] M Q := by
  intro m
  induction m using Nat.strongRecOn with
  | _ m ih =>
    intro n hnD hm hq
    obtain ⟨hD, hY, hM, hd, ht, ho⟩ := h
    have d8 := hD.1
    have hn9 : (nI n).toInt = (n : Int) := nI_toInt (by omega)
    have h39 : (M.1 4 (Int32.toNatClampNeg 0)).toInt = (D.1 : Int) := hY.1
    refine pv_iloadn (pc := 116) (n := 3) 3 rfl rfl (fm_dec dtX11_told 44 rfl) ?_
    refine pv_aloadn (pc := 117) (n := 0) 0 rfl rfl (fm_dec dtX11_told 45 rfl) ?_
    refine pv_getR (k := 0) (j := 12) (ci := 11) (pc := 118) 4 rfl (by decide) pfl_X11_23 (by decide) rfl (by decide) (fm_dec dtX11_told 46 rfl) ?_
    refine pv_iconst (pc := 121) (v := 0) (by decide) (fm_dec dtX11_told 47 rfl) ?_
    refine pv_iald (k := 4) (n := 6) (pc := 122) (by decide) rfl rfl (fm_inl (by decide)) (fm_dec dtX11_told 48 rfl) ?_
    refine pv_icmp_ge (pc := 123) 151 (by decide) (fm_dec dtX11_told 49 rfl) (fun hc123 => ?_) (fun hc123 => ?_)
    · refine pv_iloadn (pc := 151) (n := 2) 2 rfl rfl (fm_dec dtX11_told 63 rfl) ?_
      exact pv_ireturn (pc := 152) rfl (fm_dec dtX11_told 64 rfl) (by have e9 : n = D.1 := (by rw [sc_le] at hc123; omega); subst e9; exact hq)
    · have hn : n < D.1 := (by rw [sc_le] at hc123; omega)
      refine pv_iloadn (pc := 126) (n := 2) 2 rfl rfl (fm_dec dtX11_told 50 rfl) ?_
      refine pv_aloadn (pc := 127) (n := 0) 0 rfl rfl (fm_dec dtX11_told 51 rfl) ?_
      refine pv_getR (k := 0) (j := 27) (ci := 11) (pc := 128) 7 rfl (by decide) pfl_X11_61 (by decide) rfl (by decide) (fm_dec dtX11_told 52 rfl) ?_
      refine pv_iloadn (pc := 131) (n := 3) 3 rfl rfl (fm_dec dtX11_told 53 rfl) ?_
      refine pv_iS2 (d' := 0) (pc := 132) pcs_X11_283 (Nat.le_of_ble_eq_true rfl) (by decide) (fm_dec dtX11_told 54 rfl) ?_
      refine c_hasPiece7 hn9 (by omega) (fun h132 => ?_) (fun h132 => ?_)
      · refine pv_then1 ?_
        refine pv_if_eq (pc := 135) 142 (by decide) (fm_dec dtX11_told 55 rfl) (fun hc135 => by exfalso; revert hc135; decide) (fun _ => ?_)
        refine pv_iconst (pc := 138) (v := 1) (by decide) (fm_dec dtX11_told 56 rfl) ?_
        refine pv_goto (pc := 139) 143 (by decide) (fm_dec dtX11_told 57 rfl) ?_
        refine pv_iadd (pc := 143) (fm_dec dtX11_told 59 rfl) ?_
        refine pv_istoren (pc := 144) (n := 2) 2 rfl (by decide) rfl (fm_dec dtX11_told 60 rfl) ?_
        dsimp only [List.set_cons_zero, List.set_cons_succ]
        refine pv_iincc (pc := 145) 3 1 (by decide) rfl (by decide) rfl (fm_dec dtX11_told 61 rfl) ?_
        dsimp only [List.set_cons_zero, List.set_cons_succ]
        refine pv_goto (pc := 148) 116 (by decide) (fm_dec dtX11_told 62 rfl) ?_
        rw [nI_succ1, nI_succ1, pcC_y (fun e => h132 ((ht.no ho hn).mpr e))]
        exact ih (D.1 - (n + 1)) (by omega) (n + 1) (by omega) rfl hq
      · refine pv_then1 ?_
        refine pv_if_eq (pc := 135) 142 (by decide) (fm_dec dtX11_told 55 rfl) (fun _ => ?_) (fun hc135 => by exfalso; revert hc135; decide)
        refine pv_iconst (pc := 142) (v := 0) (by decide) (fm_dec dtX11_told 58 rfl) ?_
        refine pv_iadd (pc := 143) (fm_dec dtX11_told 59 rfl) ?_
        refine pv_istoren (pc := 144) (n := 2) 2 rfl (by decide) rfl (fm_dec dtX11_told 60 rfl) ?_
        dsimp only [List.set_cons_zero, List.set_cons_succ]
        refine pv_iincc (pc := 145) 3 1 (by decide) rfl (by decide) rfl (fm_dec dtX11_told 61 rfl) ?_
        dsimp only [List.set_cons_zero, List.set_cons_succ]
        refine pv_goto (pc := 148) 116 (by decide) (fm_dec dtX11_told 62 rfl) ?_
        rw [Int32.add_zero, nI_succ1, pcC_n ((ht.no ho hn).mp h132)]
        exact ih (D.1 - (n + 1)) (by omega) (n + 1) (by omega) rfl hq
set_option maxRecDepth 20000 in
theorem c_mtold {M : fmM} {Q : fmR → fmM → Prop} {D : dD} {cs : tC} {S : aS} {pg rf : Int} {x : Int32} (h : mAq M D cs S) (hpg : (M.1 0 31).toInt = pg) (hrf : (M.1 0 33).toInt = rf) (hn2 : ¬ (inW x 0 8) → ∀ (z : Int32) (M' : fmM), M'.1 0 0 = 1 → Q (.inl (some (.int z))) M') (hq : inW x 0 8 → ∀ (r : Int32) (M' : fmM), M'.1 0 0 = 0 → r.toInt = toA D S pg rf x.toInt.toNat → Q (.inl (some (.int r))) M') : pvGood Tm 41 qX11_told [.ref 0, .int x] M Q := by
  refine pvGood_of (Nat.le_of_ble_eq_true rfl) ?_
  show pvEv Tm 41 qX11_told 0 [some (.ref 0), some (.int x), none, none] [] M Q
  have hmq := h.z (x := 0)
  have hmq9 := hmq
  obtain ⟨hD, hY, hM, hd, ht, ho⟩ := hmq9
  have d8 := hD.1
  have h4 : (M.1 4 0).toInt = (D.1 : Int) := hY.1
  have hl := hD.1
  refine pv_aloadn (pc := 0) (n := 0) 0 rfl rfl (fm_dec dtX11_told 0 rfl) ?_
  refine pv_iconst (pc := 1) (v := 0) (by decide) (fm_dec dtX11_told 1 rfl) ?_
  refine pv_putI (k := 0) (j := 0) (ci := 11) (pc := 2) pfl_X11_101 (by decide) rfl (by decide) (fm_dec dtX11_told 2 rfl) ?_
  refine pv_aloadn (pc := 5) (n := 0) 0 rfl rfl (fm_dec dtX11_told 3 rfl) ?_
  refine pv_iloadn (pc := 6) (n := 1) 1 rfl rfl (fm_dec dtX11_told 4 rfl) ?_
  refine pv_iconst (pc := 7) (v := 0) (by decide) (fm_dec dtX11_told 5 rfl) ?_
  refine pv_bipush (pc := 8) (v := 8) (by decide) (fm_dec dtX11_told 6 rfl) ?_
  refine pv_iS3 (d' := 0) (pc := 10) pcs_X11_135 (Nat.le_of_ble_eq_true rfl) (by decide) (fm_dec dtX11_told 7 rfl) ?_
  refine c_in (fun h10a h10b => ?_) (fun h10 => ?_)
  · refine pv_then1 ?_
    refine pv_if_ne (pc := 13) 20 (by decide) (fm_dec dtX11_told 8 rfl) (fun _ => ?_) (fun hc13 => by exfalso; revert hc13; decide)
    refine pv_iconst (pc := 20) (v := 0) (by decide) (fm_dec dtX11_told 11 rfl) ?_
    refine pv_iconst (pc := 21) (v := 1) (by decide) (fm_dec dtX11_told 12 rfl) ?_
    refine pv_iconst (pc := 22) (v := 1) (by decide) (fm_dec dtX11_told 13 rfl) ?_
    refine pv_invV3 (k := 0) (d' := 0) (pc := 23) pcv_X11_177 (by decide) rfl (Nat.le_of_ble_eq_true rfl) (by decide) (fm_dec dtX11_told 14 rfl) ?_
    refine c_badF1 rfl ?_
    refine pv_then1 ?_
    refine pv_if_eq (pc := 26) 31 (by decide) (fm_dec dtX11_told 15 rfl) (fun _ => ?_) (fun hc26 => by exfalso; revert hc26; decide)
    rcases (show x.toInt = 0 ∨ x.toInt = 1 ∨ x.toInt = 2 ∨ x.toInt = 3 ∨ x.toInt = 4 ∨ x.toInt = 5 ∨ x.toInt = 6 ∨ x.toInt = 7 ∨ x.toInt = 8 by have z0 : (0 : Int32).toInt = 0 := (by decide); have z8 : (8 : Int32).toInt = 8 := (by decide); omega) with hy | hy | hy | hy | hy | hy | hy | hy | hy
    · obtain rfl : x = 0 := i32_ext (hy.trans (by decide))
      rw [show (0 : Int32).toInt.toNat = 0 by decide] at hq
      refine pv_iloadn (pc := 31) (n := 1) 1 rfl rfl (fm_dec dtX11_told 18 rfl) ?_
      refine pv_table (pc := 32) 80 (by decide) rfl (fm_dec dtX11_told 19 rfl) ?_
      refine pv_aloadn (pc := 80) (n := 0) 0 rfl rfl (fm_dec dtX11_told 20 rfl) ?_
      refine pv_getR (k := 0) (j := 12) (ci := 11) (pc := 81) 4 rfl (by decide) pfl_X11_23 (by decide) rfl (by decide) (fm_dec dtX11_told 21 rfl) ?_
      refine pv_iconst (pc := 84) (v := 0) (by decide) (fm_dec dtX11_told 22 rfl) ?_
      refine pv_iald (k := 4) (n := 6) (pc := 85) (by decide) rfl rfl (fm_inl (by decide)) (fm_dec dtX11_told 23 rfl) ?_
      exact pv_ireturn (pc := 86) rfl (fm_dec dtX11_told 24 rfl) (hq ⟨h10a, h10b⟩ _ _ rfl (h4))
    · obtain rfl : x = 1 := i32_ext (hy.trans (by decide))
      rw [show (1 : Int32).toInt.toNat = 1 by decide] at hq
      refine pv_iloadn (pc := 31) (n := 1) 1 rfl rfl (fm_dec dtX11_told 18 rfl) ?_
      refine pv_table (pc := 32) 87 (by decide) rfl (fm_dec dtX11_told 19 rfl) ?_
      refine pv_aloadn (pc := 87) (n := 0) 0 rfl rfl (fm_dec dtX11_told 25 rfl) ?_
      refine pv_getR (k := 0) (j := 27) (ci := 11) (pc := 88) 7 rfl (by decide) pfl_X11_61 (by decide) rfl (by decide) (fm_dec dtX11_told 26 rfl) ?_
      refine pv_bipush (pc := 91) (v := 10) (by decide) (fm_dec dtX11_told 27 rfl) ?_
      refine pv_iald (k := 7) (n := 14) (pc := 93) (by decide) rfl rfl (fm_inl (by decide)) (fm_dec dtX11_told 28 rfl) ?_
      exact pv_ireturn (pc := 94) rfl (fm_dec dtX11_told 29 rfl) (hq ⟨h10a, h10b⟩ _ _ rfl (ht.2.1))
    · obtain rfl : x = 2 := i32_ext (hy.trans (by decide))
      rw [show (2 : Int32).toInt.toNat = 2 by decide] at hq
      refine pv_iloadn (pc := 31) (n := 1) 1 rfl rfl (fm_dec dtX11_told 18 rfl) ?_
      refine pv_table (pc := 32) 95 (by decide) rfl (fm_dec dtX11_told 19 rfl) ?_
      refine pv_aloadn (pc := 95) (n := 0) 0 rfl rfl (fm_dec dtX11_told 30 rfl) ?_
      refine pv_getR (k := 0) (j := 27) (ci := 11) (pc := 96) 7 rfl (by decide) pfl_X11_61 (by decide) rfl (by decide) (fm_dec dtX11_told 31 rfl) ?_
      refine pv_bipush (pc := 99) (v := 9) (by decide) (fm_dec dtX11_told 32 rfl) ?_
      refine pv_iald (k := 7) (n := 14) (pc := 101) (by decide) rfl rfl (fm_inl (by decide)) (fm_dec dtX11_told 33 rfl) ?_
      exact pv_ireturn (pc := 102) rfl (fm_dec dtX11_told 34 rfl) (hq ⟨h10a, h10b⟩ _ _ rfl (ht.2.2.1))
    · obtain rfl : x = 3 := i32_ext (hy.trans (by decide))
      rw [show (3 : Int32).toInt.toNat = 3 by decide] at hq
      refine pv_iloadn (pc := 31) (n := 1) 1 rfl rfl (fm_dec dtX11_told 18 rfl) ?_
      refine pv_table (pc := 32) 103 (by decide) rfl (fm_dec dtX11_told 19 rfl) ?_
      refine pv_aloadn (pc := 103) (n := 0) 0 rfl rfl (fm_dec dtX11_told 35 rfl) ?_
      refine pv_aloadn (pc := 104) (n := 0) 0 rfl rfl (fm_dec dtX11_told 36 rfl) ?_
      refine pv_getR (k := 0) (j := 27) (ci := 11) (pc := 105) 7 rfl (by decide) pfl_X11_61 (by decide) rfl (by decide) (fm_dec dtX11_told 37 rfl) ?_
      refine pv_invV1 (k := 0) (d' := 40) (pc := 108) pcv_X11_327 (by decide) rfl (Nat.le_of_ble_eq_true rfl) (by decide) (fm_dec dtX11_told 38 rfl) ?_
      refine c_mals hmq ?_
      refine pv_then1 ?_
      exact pv_ireturn (pc := 111) rfl (fm_dec dtX11_told 39 rfl) (hq ⟨h10a, h10b⟩ _ _ rfl (nI_toInt (by have e8 := alC_8 _ ho.2.2.1 D.1 (by omega) ho.2.2.2.2.2.2.2; omega)))
    · obtain rfl : x = 4 := i32_ext (hy.trans (by decide))
      rw [show (4 : Int32).toInt.toNat = 4 by decide] at hq
      refine pv_iloadn (pc := 31) (n := 1) 1 rfl rfl (fm_dec dtX11_told 18 rfl) ?_
      refine pv_table (pc := 32) 112 (by decide) rfl (fm_dec dtX11_told 19 rfl) ?_
      refine pv_iconst (pc := 112) (v := 0) (by decide) (fm_dec dtX11_told 40 rfl) ?_
      refine pv_istoren (pc := 113) (n := 2) 2 rfl (by decide) rfl (fm_dec dtX11_told 41 rfl) ?_
      dsimp only [List.set_cons_zero, List.set_cons_succ]
      refine pv_iconst (pc := 114) (v := 0) (by decide) (fm_dec dtX11_told 42 rfl) ?_
      refine pv_istoren (pc := 115) (n := 3) 3 rfl (by decide) rfl (fm_dec dtX11_told 43 rfl) ?_
      dsimp only [List.set_cons_zero, List.set_cons_succ]
      exact (mtp_loop hmq D.1 0 (by omega) rfl (hq ⟨h10a, h10b⟩ _ _ rfl (nI_toInt (by have := pcC_b S D.1; omega)))).up (by decide)
    · obtain rfl : x = 5 := i32_ext (hy.trans (by decide))
      rw [show (5 : Int32).toInt.toNat = 5 by decide] at hq
      refine pv_iloadn (pc := 31) (n := 1) 1 rfl rfl (fm_dec dtX11_told 18 rfl) ?_
      refine pv_table (pc := 32) 153 (by decide) rfl (fm_dec dtX11_told 19 rfl) ?_
      refine pv_aloadn (pc := 153) (n := 0) 0 rfl rfl (fm_dec dtX11_told 65 rfl) ?_
      refine pv_getR (k := 0) (j := 27) (ci := 11) (pc := 154) 7 rfl (by decide) pfl_X11_61 (by decide) rfl (by decide) (fm_dec dtX11_told 66 rfl) ?_
      refine pv_bipush (pc := 157) (v := 11) (by decide) (fm_dec dtX11_told 67 rfl) ?_
      refine pv_iald (k := 7) (n := 14) (pc := 159) (by decide) rfl rfl (fm_inl (by decide)) (fm_dec dtX11_told 68 rfl) ?_
      exact pv_ireturn (pc := 160) rfl (fm_dec dtX11_told 69 rfl) (hq ⟨h10a, h10b⟩ _ _ rfl (ht.2.2.2.1))
    · obtain rfl : x = 6 := i32_ext (hy.trans (by decide))
      rw [show (6 : Int32).toInt.toNat = 6 by decide] at hq
      refine pv_iloadn (pc := 31) (n := 1) 1 rfl rfl (fm_dec dtX11_told 18 rfl) ?_
      refine pv_table (pc := 32) 161 (by decide) rfl (fm_dec dtX11_told 19 rfl) ?_
      refine pv_aloadn (pc := 161) (n := 0) 0 rfl rfl (fm_dec dtX11_told 70 rfl) ?_
      refine pv_getR (k := 0) (j := 27) (ci := 11) (pc := 162) 7 rfl (by decide) pfl_X11_61 (by decide) rfl (by decide) (fm_dec dtX11_told 71 rfl) ?_
      refine pv_bipush (pc := 165) (v := 12) (by decide) (fm_dec dtX11_told 72 rfl) ?_
      refine pv_iald (k := 7) (n := 14) (pc := 167) (by decide) rfl rfl (fm_inl (by decide)) (fm_dec dtX11_told 73 rfl) ?_
      exact pv_ireturn (pc := 168) rfl (fm_dec dtX11_told 74 rfl) (hq ⟨h10a, h10b⟩ _ _ rfl (ht.2.2.2.2.1))
    · obtain rfl : x = 7 := i32_ext (hy.trans (by decide))
      rw [show (7 : Int32).toInt.toNat = 7 by decide] at hq
      refine pv_iloadn (pc := 31) (n := 1) 1 rfl rfl (fm_dec dtX11_told 18 rfl) ?_
      refine pv_table (pc := 32) 169 (by decide) rfl (fm_dec dtX11_told 19 rfl) ?_
      refine pv_aloadn (pc := 169) (n := 0) 0 rfl rfl (fm_dec dtX11_told 75 rfl) ?_
      refine pv_getI (k := 0) (j := 31) (ci := 11) (pc := 170) pfl_X11_197 (by decide) rfl (by decide) (fm_dec dtX11_told 76 rfl) ?_
      exact pv_ireturn (pc := 173) rfl (fm_dec dtX11_told 77 rfl) (hq ⟨h10a, h10b⟩ _ _ rfl (hpg))
    · obtain rfl : x = 8 := i32_ext (hy.trans (by decide))
      rw [show (8 : Int32).toInt.toNat = 8 by decide] at hq
      refine pv_iloadn (pc := 31) (n := 1) 1 rfl rfl (fm_dec dtX11_told 18 rfl) ?_
      refine pv_table (pc := 32) 174 (by decide) rfl (fm_dec dtX11_told 19 rfl) ?_
      refine pv_aloadn (pc := 174) (n := 0) 0 rfl rfl (fm_dec dtX11_told 78 rfl) ?_
      refine pv_getI (k := 0) (j := 33) (ci := 11) (pc := 175) pfl_X11_203 (by decide) rfl (by decide) (fm_dec dtX11_told 79 rfl) ?_
      exact pv_ireturn (pc := 178) rfl (fm_dec dtX11_told 80 rfl) (hq ⟨h10a, h10b⟩ _ _ rfl (hrf))
  · refine pv_then1 ?_
    refine pv_if_ne (pc := 13) 20 (by decide) (fm_dec dtX11_told 8 rfl) (fun hc13 => by exfalso; revert hc13; decide) (fun _ => ?_)
    refine pv_iconst (pc := 16) (v := 1) (by decide) (fm_dec dtX11_told 9 rfl) ?_
    refine pv_goto (pc := 17) 21 (by decide) (fm_dec dtX11_told 10 rfl) ?_
    refine pv_iconst (pc := 21) (v := 1) (by decide) (fm_dec dtX11_told 12 rfl) ?_
    refine pv_iconst (pc := 22) (v := 1) (by decide) (fm_dec dtX11_told 13 rfl) ?_
    refine pv_invV3 (k := 0) (d' := 0) (pc := 23) pcv_X11_177 (by decide) rfl (Nat.le_of_ble_eq_true rfl) (by decide) (fm_dec dtX11_told 14 rfl) ?_
    refine c_badT1 rfl (by decide) ?_
    refine pv_then1 ?_
    refine pv_if_eq (pc := 26) 31 (by decide) (fm_dec dtX11_told 15 rfl) (fun hc26 => by exfalso; revert hc26; decide) (fun _ => ?_)
    refine pv_iconst (pc := 29) (v := 0) (by decide) (fm_dec dtX11_told 16 rfl) ?_
    exact pv_ireturn (pc := 30) rfl (fm_dec dtX11_told 17 rfl) (hn2 (fun h9 => h10 ⟨h9.1, h9.2⟩) _ _ rfl)
theorem xe_told {M : fmM} {D : dD} {cs : tC} {S : aS} {x : Int32} (h : xAq M D cs S) {pg rf : Int} (hpg : (M.1 27 0).toInt = pg) (hrf : (M.1 0 14).toInt = rf) : pvGood Tx 250 qX10_told [.ref 0, .int x] M (fun r _ => ((inW x 0 8) ∧ r = .inl (some (.int (iZ (toA D S pg rf x.toInt.toNat))))) ∨ (¬ (inW x 0 8) ∧ r = .inr fmIAE)) := (c_xtold h hpg hrf (fun h => Or.inr ⟨h, rfl⟩) (fun h r M' e => Or.inl ⟨h, by rw [iZ_is e]⟩)).up (by decide)
theorem me_told {M : fmM} {D : dD} {cs : tC} {S : aS} {x : Int32} (h : mAq M D cs S) {pg rf : Int} (hpg : (M.1 0 31).toInt = pg) (hrf : (M.1 0 33).toInt = rf) : pvGood Tm 250 qX11_told [.ref 0, .int x] M (fun r M' => ((inW x 0 8) ∧ r = .inl (some (.int (iZ (toA D S pg rf x.toInt.toNat)))) ∧ M'.1 0 0 = 0) ∨ (¬ (inW x 0 8) ∧ M'.1 0 0 = 1)) := (c_mtold h hpg hrf (fun h z M' e => Or.inr ⟨h, e⟩) (fun h r M' z e => Or.inl ⟨h, by rw [iZ_is e], z⟩)).up (by decide)
