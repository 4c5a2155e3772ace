set_option maxRecDepth 20000 in
theorem xlk_loop {Q : fmR → fmM → Prop} {M : fmM} {D : dD} {cs : tC} {S : aS} (h : xAq M D cs S) : ∀ (m : Nat) (n : Nat), n ≤ D.1 → D.1 - n = m → Q (.inl (some (.int (nI (bS (fun i => !S.1.2.2.1.testBit i && decide (S.2 i = -1)) D.1))))) M → pvEv Tx 40 qX10_lacking 4 [some (.ref 0), some (.int (nI (bS (fun i => !S.1.2.2.1.testBit i && decide (S.2 i = -1)) n))), some (.int (nI n))] [] M Q := by
  intro m
  induction m using Nat.strongRecOn with
  | _ m ih =>
    intro n hnD hm hq
    obtain ⟨hD, hX, hL, hs, ho⟩ := h
    have d8 := hD.1
    have hn9 : (nI n).toInt = (n : Int) := nI_toInt (by omega)
    have h39 : (M.1 3 9).toInt = (D.1 : Int) := hX.1.1
    refine pv_iloadn (pc := 4) (n := 2) 2 rfl rfl (fm_dec dtX10_lacking 4 rfl) ?_
    refine pv_aloadn (pc := 5) (n := 0) 0 rfl rfl (fm_dec dtX10_lacking 5 rfl) ?_
    refine pv_getR (k := 0) (j := 1) (ci := 10) (pc := 6) 3 rfl (by decide) pfl_X10_19 (by decide) rfl (by decide) (fm_dec dtX10_lacking 6 rfl) ?_
    refine pv_getI (k := 3) (j := 9) (ci := 8) (pc := 9) pfl_X10_138 (by decide) rfl (by decide) (fm_dec dtX10_lacking 7 rfl) ?_
    refine pv_icmp_ge (pc := 12) 57 (by decide) (fm_dec dtX10_lacking 8 rfl) (fun hc12 => ?_) (fun hc12 => ?_)
    · refine pv_iloadn (pc := 57) (n := 1) 1 rfl rfl (fm_dec dtX10_lacking 31 rfl) ?_
      exact pv_ireturn (pc := 58) rfl (fm_dec dtX10_lacking 32 rfl) (by have e9 : n = D.1 := (by rw [sc_le] at hc12; omega); subst e9; exact hq)
    · have hn : n < D.1 := (by rw [sc_le] at hc12; omega)
      have g := ag_x hs hn
      refine pv_aloadn (pc := 15) (n := 0) 0 rfl rfl (fm_dec dtX10_lacking 9 rfl) ?_
      refine pv_getR (k := 0) (j := 9) (ci := 10) (pc := 16) 46 rfl (by decide) pfl_X10_75 (by decide) rfl (by decide) (fm_dec dtX10_lacking 10 rfl) ?_
      refine pv_getR (k := 46) (j := 0) (ci := 5) (pc := 19) 47 rfl (by decide) pfl_X10_90 (by decide) rfl (by decide) (fm_dec dtX10_lacking 11 rfl) ?_
      refine pv_iloadn (pc := 22) (n := 2) 2 rfl rfl (fm_dec dtX10_lacking 12 rfl) ?_
      refine pv_invV1 (k := 47) (d' := 0) (pc := 23) pcv_X10_215 (by decide) rfl (Nat.le_of_ble_eq_true rfl) (by decide) (fm_dec dtX10_lacking 13 rfl) ?_
      refine c_xaliv hs ho (by omega) ?_
      refine pv_then1 ?_
      refine pv_if_eq (pc := 26) 51 (by decide) (fm_dec dtX10_lacking 14 rfl) (fun hc26 => ?_) (fun hc26 => ?_)
      · refine pv_iincc (pc := 51) 2 1 (by decide) rfl (by decide) rfl (fm_dec dtX10_lacking 29 rfl) ?_
        dsimp only [List.set_cons_zero, List.set_cons_succ]
        refine pv_goto (pc := 54) 4 (by decide) (fm_dec dtX10_lacking 30 rfl) ?_
        have e9 := bS_n (F := (fun i => !S.1.2.2.1.testBit i && decide (S.2 i = -1))) (n := n) (by rw [bI_0.mp hc26, Bool.false_and])
        rw [nI_succ1, ← e9]
        exact ih (D.1 - (n + 1)) (by omega) (n + 1) (by omega) rfl hq
      · refine pv_aloadn (pc := 29) (n := 0) 0 rfl rfl (fm_dec dtX10_lacking 15 rfl) ?_
        refine pv_getR (k := 0) (j := 9) (ci := 10) (pc := 30) 46 rfl (by decide) pfl_X10_75 (by decide) rfl (by decide) (fm_dec dtX10_lacking 16 rfl) ?_
        refine pv_getR (k := 46) (j := 0) (ci := 5) (pc := 33) 47 rfl (by decide) pfl_X10_90 (by decide) rfl (by decide) (fm_dec dtX10_lacking 17 rfl) ?_
        refine pv_getR (k := 47) (j := 0) (ci := 6) (pc := 36) 48 rfl (by decide) pfl_X10_219 (by decide) rfl (by decide) (fm_dec dtX10_lacking 18 rfl) ?_
        refine pv_iloadn (pc := 39) (n := 2) 2 rfl rfl (fm_dec dtX10_lacking 19 rfl) ?_
        refine pv_iald (k := 48) (n := 8) (pc := 40) (by decide) rfl rfl (ix_in hn9 (by omega)) (fm_dec dtX10_lacking 20 rfl) ?_
        rw [i32_cl hn9]
        refine pv_iconst (pc := 41) (v := (-1)) (by decide) (fm_dec dtX10_lacking 21 rfl) ?_
        refine pv_icmp_ne (pc := 42) 51 (by decide) (fm_dec dtX10_lacking 22 rfl) (fun hc42 => ?_) (fun hc42 => ?_)
        · refine pv_iincc (pc := 51) 2 1 (by decide) rfl (by decide) rfl (fm_dec dtX10_lacking 29 rfl) ?_
          dsimp only [List.set_cons_zero, List.set_cons_succ]
          refine pv_goto (pc := 54) 4 (by decide) (fm_dec dtX10_lacking 30 rfl) ?_
          have e9 := bS_n (F := (fun i => !S.1.2.2.1.testBit i && decide (S.2 i = -1))) (n := n) (by rw [decide_eq_false (fun e => hc42 (i32_ext (by rw [g, e]; decide))), Bool.and_false])
          rw [nI_succ1, ← e9]
          exact ih (D.1 - (n + 1)) (by omega) (n + 1) (by omega) rfl hq
        · refine pv_iloadn (pc := 45) (n := 1) 1 rfl rfl (fm_dec dtX10_lacking 23 rfl) ?_
          refine pv_iconst (pc := 46) (v := 1) (by decide) (fm_dec dtX10_lacking 24 rfl) ?_
          refine pv_iloadn (pc := 47) (n := 2) 2 rfl rfl (fm_dec dtX10_lacking 25 rfl) ?_
          refine pv_ishl (pc := 48) (fm_dec dtX10_lacking 26 rfl) ?_
          refine pv_ior (pc := 49) (fm_dec dtX10_lacking 27 rfl) ?_
          refine pv_istoren (pc := 50) (n := 1) 1 rfl (by decide) rfl (fm_dec dtX10_lacking 28 rfl) ?_
          dsimp only [List.set_cons_zero, List.set_cons_succ]
          refine pv_iincc (pc := 51) 2 1 (by decide) rfl (by decide) rfl (fm_dec dtX10_lacking 29 rfl) ?_
          dsimp only [List.set_cons_zero, List.set_cons_succ]
          refine pv_goto (pc := 54) 4 (by decide) (fm_dec dtX10_lacking 30 rfl) ?_
          have e9 := bS_t (F := (fun i => !S.1.2.2.1.testBit i && decide (S.2 i = -1))) (n := n) (by rw [decide_eq_true (ag_m hs hn hc42), Bool.and_true]; cases e8 : (!S.1.2.2.1.testBit n) with | true => rfl | false => exact absurd (bI_0.mpr e8) hc26)
          rw [nI_succ1, or8 _ (bS_8 n (by omega)) n (by omega), ← e9]
          exact ih (D.1 - (n + 1)) (by omega) (n + 1) (by omega) rfl hq
set_option maxRecDepth 20000 in
theorem c_xlacking {M : fmM} {Q : fmR → fmM → Prop} {D : dD} {cs : tC} {S : aS} (h : xAq M D cs S) (hq : ∀ (r : Int32) (M' : fmM), r.toInt = ((bS (fun i => !S.1.2.2.1.testBit i && decide (S.2 i = -1)) D.1 : Nat) : Int) → Q (.inl (some (.int r))) M') : pvGood Tx 40 qX10_lacking [.ref 0] M Q := by
  refine pvGood_of (Nat.le_of_ble_eq_true rfl) ?_
  show pvEv Tx 40 qX10_lacking 0 [some (.ref 0), none, none] [] M Q
  refine pv_iconst (pc := 0) (v := 0) (by decide) (fm_dec dtX10_lacking 0 rfl) ?_
  refine pv_istoren (pc := 1) (n := 1) 1 rfl (by decide) rfl (fm_dec dtX10_lacking 1 rfl) ?_
  dsimp only [List.set_cons_zero, List.set_cons_succ]
  refine pv_iconst (pc := 2) (v := 0) (by decide) (fm_dec dtX10_lacking 2 rfl) ?_
  refine pv_istoren (pc := 3) (n := 2) 2 rfl (by decide) rfl (fm_dec dtX10_lacking 3 rfl) ?_
  dsimp only [List.set_cons_zero, List.set_cons_succ]
  have d8 := h.1.1
  exact xlk_loop h D.1 0 (by omega) rfl (hq _ _ (nI_toInt (by have := bS_8 (F := (fun i => !S.1.2.2.1.testBit i && decide (S.2 i = -1))) D.1 (by omega); omega)))
set_option maxRecDepth 20000 in
theorem mlk_loop {Q : fmR → fmM → Prop} {M : fmM} {D : dD} {cs : tC} {S : aS} (h : mAq M D cs S) : ∀ (m : Nat) (n : Nat), n ≤ D.1 → D.1 - n = m → Q (.inl (some (.int (nI (bS (fun i => !S.1.2.2.1.testBit i && decide (S.2 i = -1)) D.1))))) M → pvEv Tm 40 qX11_lacking 9 [some (.ref 0), some (.int (nI (bS (fun i => !S.1.2.2.1.testBit i && decide (S.2 i = -1)) n))), some (.int (nI n))] [] M Q := by
  intro m
  induction m using Nat.strongRecOn with
  | _ m ih =>
    intro n hnD hm hq
    obtain ⟨hD, hY, hM, hd, ht, ho⟩ := h
    have d8 := hD.1
    have hn9 : (nI n).toInt = (n : Int) := nI_toInt (by omega)
    have h39 : (M.1 4 (Int32.toNatClampNeg 0)).toInt = (D.1 : Int) := hY.1
    refine pv_iloadn (pc := 9) (n := 2) 2 rfl rfl (fm_dec dtX11_lacking 7 rfl) ?_
    refine pv_aloadn (pc := 10) (n := 0) 0 rfl rfl (fm_dec dtX11_lacking 8 rfl) ?_
    refine pv_getR (k := 0) (j := 12) (ci := 11) (pc := 11) 4 rfl (by decide) pfl_X11_23 (by decide) rfl (by decide) (fm_dec dtX11_lacking 9 rfl) ?_
    refine pv_iconst (pc := 14) (v := 0) (by decide) (fm_dec dtX11_lacking 10 rfl) ?_
    refine pv_iald (k := 4) (n := 6) (pc := 15) (by decide) rfl rfl (fm_inl (by decide)) (fm_dec dtX11_lacking 11 rfl) ?_
    refine pv_icmp_ge (pc := 16) 59 (by decide) (fm_dec dtX11_lacking 12 rfl) (fun hc16 => ?_) (fun hc16 => ?_)
    · refine pv_iloadn (pc := 59) (n := 1) 1 rfl rfl (fm_dec dtX11_lacking 35 rfl) ?_
      exact pv_ireturn (pc := 60) rfl (fm_dec dtX11_lacking 36 rfl) (by have e9 : n = D.1 := (by rw [sc_le] at hc16; omega); subst e9; exact hq)
    · have hn : n < D.1 := (by rw [sc_le] at hc16; omega)
      have e0 : M.1 7 (Int32.toNatClampNeg 0) = nI S.1.2.2.1 := nI_is ht.1 (by have := ho.2.2.1; omega)
      refine pv_iloadn (pc := 19) (n := 1) 1 rfl rfl (fm_dec dtX11_lacking 13 rfl) ?_
      refine pv_aloadn (pc := 20) (n := 0) 0 rfl rfl (fm_dec dtX11_lacking 14 rfl) ?_
      refine pv_getR (k := 0) (j := 27) (ci := 11) (pc := 21) 7 rfl (by decide) pfl_X11_61 (by decide) rfl (by decide) (fm_dec dtX11_lacking 15 rfl) ?_
      refine pv_iconst (pc := 24) (v := 0) (by decide) (fm_dec dtX11_lacking 16 rfl) ?_
      refine pv_iald (k := 7) (n := 14) (pc := 25) (by decide) rfl rfl (fm_inl (by decide)) (fm_dec dtX11_lacking 17 rfl) ?_
      refine pv_iloadn (pc := 26) (n := 2) 2 rfl rfl (fm_dec dtX11_lacking 18 rfl) ?_
      refine pv_iS2 (d' := 0) (pc := 27) pcs_X11_256 (Nat.le_of_ble_eq_true rfl) (by decide) (fm_dec dtX11_lacking 19 rfl) ?_
      refine c_has (fun h27 => ?_) (fun h27 => ?_)
      · refine pv_then1 ?_
        refine pv_if_ne (pc := 30) 50 (by decide) (fm_dec dtX11_lacking 20 rfl) (fun _ => ?_) (fun hc30 => by exfalso; revert hc30; decide)
        refine pv_iconst (pc := 50) (v := 0) (by decide) (fm_dec dtX11_lacking 30 rfl) ?_
        refine pv_ior (pc := 51) (fm_dec dtX11_lacking 31 rfl) ?_
        refine pv_istoren (pc := 52) (n := 1) 1 rfl (by decide) rfl (fm_dec dtX11_lacking 32 rfl) ?_
        dsimp only [List.set_cons_zero, List.set_cons_succ]
        refine pv_iincc (pc := 53) 2 1 (by decide) rfl (by decide) rfl (fm_dec dtX11_lacking 33 rfl) ?_
        dsimp only [List.set_cons_zero, List.set_cons_succ]
        refine pv_goto (pc := 56) 9 (by decide) (fm_dec dtX11_lacking 34 rfl) ?_
        have e9 := bS_n (F := (fun i => !S.1.2.2.1.testBit i && decide (S.2 i = -1))) (n := n) (by rw [(has8 _ ho.2.2.1 n (by omega)).mp (by rw [← e0]; exact h27)]; rfl)
        rw [nI_succ1, Int32.or_zero, ← e9]
        exact ih (D.1 - (n + 1)) (by omega) (n + 1) (by omega) rfl hq
      · refine pv_then1 ?_
        refine pv_if_ne (pc := 30) 50 (by decide) (fm_dec dtX11_lacking 20 rfl) (fun hc30 => by exfalso; revert hc30; decide) (fun _ => ?_)
        refine pv_aloadn (pc := 33) (n := 0) 0 rfl rfl (fm_dec dtX11_lacking 21 rfl) ?_
        refine pv_getR (k := 0) (j := 27) (ci := 11) (pc := 34) 7 rfl (by decide) pfl_X11_61 (by decide) rfl (by decide) (fm_dec dtX11_lacking 22 rfl) ?_
        refine pv_iloadn (pc := 37) (n := 2) 2 rfl rfl (fm_dec dtX11_lacking 23 rfl) ?_
        refine pv_iS2 (d' := 0) (pc := 38) pcs_X11_283 (Nat.le_of_ble_eq_true rfl) (by decide) (fm_dec dtX11_lacking 24 rfl) ?_
        refine c_hasPiece7 hn9 (by omega) (fun h38 => ?_) (fun h38 => ?_)
        · refine pv_then1 ?_
          refine pv_if_ne (pc := 41) 50 (by decide) (fm_dec dtX11_lacking 25 rfl) (fun _ => ?_) (fun hc41 => by exfalso; revert hc41; decide)
          refine pv_iconst (pc := 50) (v := 0) (by decide) (fm_dec dtX11_lacking 30 rfl) ?_
          refine pv_ior (pc := 51) (fm_dec dtX11_lacking 31 rfl) ?_
          refine pv_istoren (pc := 52) (n := 1) 1 rfl (by decide) rfl (fm_dec dtX11_lacking 32 rfl) ?_
          dsimp only [List.set_cons_zero, List.set_cons_succ]
          refine pv_iincc (pc := 53) 2 1 (by decide) rfl (by decide) rfl (fm_dec dtX11_lacking 33 rfl) ?_
          dsimp only [List.set_cons_zero, List.set_cons_succ]
          refine pv_goto (pc := 56) 9 (by decide) (fm_dec dtX11_lacking 34 rfl) ?_
          have e9 := bS_n (F := (fun i => !S.1.2.2.1.testBit i && decide (S.2 i = -1))) (n := n) (by rw [decide_eq_false (fun e => h38 ((ht.no ho hn).mpr e)), Bool.and_false])
          rw [nI_succ1, Int32.or_zero, ← e9]
          exact ih (D.1 - (n + 1)) (by omega) (n + 1) (by omega) rfl hq
        · refine pv_then1 ?_
          refine pv_if_ne (pc := 41) 50 (by decide) (fm_dec dtX11_lacking 25 rfl) (fun hc41 => by exfalso; revert hc41; decide) (fun _ => ?_)
          refine pv_iconst (pc := 44) (v := 1) (by decide) (fm_dec dtX11_lacking 26 rfl) ?_
          refine pv_iloadn (pc := 45) (n := 2) 2 rfl rfl (fm_dec dtX11_lacking 27 rfl) ?_
          refine pv_ishl (pc := 46) (fm_dec dtX11_lacking 28 rfl) ?_
          refine pv_goto (pc := 47) 51 (by decide) (fm_dec dtX11_lacking 29 rfl) ?_
          refine pv_ior (pc := 51) (fm_dec dtX11_lacking 31 rfl) ?_
          refine pv_istoren (pc := 52) (n := 1) 1 rfl (by decide) rfl (fm_dec dtX11_lacking 32 rfl) ?_
          dsimp only [List.set_cons_zero, List.set_cons_succ]
          refine pv_iincc (pc := 53) 2 1 (by decide) rfl (by decide) rfl (fm_dec dtX11_lacking 33 rfl) ?_
          dsimp only [List.set_cons_zero, List.set_cons_succ]
          refine pv_goto (pc := 56) 9 (by decide) (fm_dec dtX11_lacking 34 rfl) ?_
          have e9 := bS_t (F := (fun i => !S.1.2.2.1.testBit i && decide (S.2 i = -1))) (n := n) (by rw [decide_eq_true ((ht.no ho hn).mp h38), Bool.and_true]; cases e8 : S.1.2.2.1.testBit n with | false => rfl | true => exact absurd (by rw [e0]; exact (has8 _ ho.2.2.1 n (by omega)).mpr e8) h27)
          rw [nI_succ1, or8 _ (bS_8 n (by omega)) n (by omega), ← e9]
          exact ih (D.1 - (n + 1)) (by omega) (n + 1) (by omega) rfl hq
set_option maxRecDepth 20000 in
theorem c_mlacking {M : fmM} {Q : fmR → fmM → Prop} {D : dD} {cs : tC} {S : aS} (h : mAq M D cs S) (hq : ∀ (r : Int32) (M' : fmM), M'.1 0 0 = 0 → r.toInt = ((bS (fun i => !S.1.2.2.1.testBit i && decide (S.2 i = -1)) D.1 : Nat) : Int) → Q (.inl (some (.int r))) M') : pvGood Tm 40 qX11_lacking [.ref 0] M Q := by
  refine pvGood_of (Nat.le_of_ble_eq_true rfl) ?_
  show pvEv Tm 40 qX11_lacking 0 [some (.ref 0), none, none] [] M Q
  refine pv_aloadn (pc := 0) (n := 0) 0 rfl rfl (fm_dec dtX11_lacking 0 rfl) ?_
  refine pv_iconst (pc := 1) (v := 0) (by decide) (fm_dec dtX11_lacking 1 rfl) ?_
  refine pv_putI (k := 0) (j := 0) (ci := 11) (pc := 2) pfl_X11_101 (by decide) rfl (by decide) (fm_dec dtX11_lacking 2 rfl) ?_
  refine pv_iconst (pc := 5) (v := 0) (by decide) (fm_dec dtX11_lacking 3 rfl) ?_
  refine pv_istoren (pc := 6) (n := 1) 1 rfl (by decide) rfl (fm_dec dtX11_lacking 4 rfl) ?_
  dsimp only [List.set_cons_zero, List.set_cons_succ]
  refine pv_iconst (pc := 7) (v := 0) (by decide) (fm_dec dtX11_lacking 5 rfl) ?_
  refine pv_istoren (pc := 8) (n := 2) 2 rfl (by decide) rfl (fm_dec dtX11_lacking 6 rfl) ?_
  dsimp only [List.set_cons_zero, List.set_cons_succ]
  have d8 := h.1.1
  exact mlk_loop h.z D.1 0 (by omega) rfl (hq _ _ rfl (nI_toInt (by have := bS_8 (F := (fun i => !S.1.2.2.1.testBit i && decide (S.2 i = -1))) D.1 (by omega); omega)))
theorem xe_lacking {M : fmM} {D : dD} {cs : tC} {S : aS} (h : xAq M D cs S) : pvGood Tx 250 qX10_lacking [.ref 0] M (fun r _ => r = .inl (some (.int (iZ (((bS (fun i => !S.1.2.2.1.testBit i && decide (S.2 i = -1)) D.1 : Nat) : Int)))))) := (c_xlacking h (fun r M' e => by rw [iZ_is e])).up (by decide)
theorem me_lacking {M : fmM} {D : dD} {cs : tC} {S : aS} (h : mAq M D cs S) : pvGood Tm 250 qX11_lacking [.ref 0] M (fun r M' => r = .inl (some (.int (iZ (((bS (fun i => !S.1.2.2.1.testBit i && decide (S.2 i = -1)) D.1 : Nat) : Int)))))) := (c_mlacking h (fun r M' z e => by rw [iZ_is e])).up (by decide)
