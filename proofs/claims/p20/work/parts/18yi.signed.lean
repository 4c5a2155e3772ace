theorem sd_01 {D : dD} {dead i : Nat} : sdA D dead i = 0 ∨ sdA D dead i = 1 := by
  unfold sdA
  split
  · exact Or.inl rfl
  · split
    · exact Or.inr rfl
    · exact Or.inl rfl
set_option maxRecDepth 20000 in
theorem xsg_loop {Q : fmR → fmM → Prop} {M : fmM} {D : dD} {cs : tC} {S : aS} (h : xAq M D cs S) : ∀ (m : Nat) (n : Nat), n ≤ D.1 → D.1 - n = m → Q (.inl (some (.int (nI (bS (fun i => !decide (S.2 i = -1) && (sdA D S.1.2.2.1 i == 1)) D.1))))) M → pvEv Tx 40 qX10_signed 4 [some (.ref 0), some (.int (nI (bS (fun i => !decide (S.2 i = -1) && (sdA D S.1.2.2.1 i == 1)) n))), some (.int (nI n))] [] M Q := by
  intro m
  induction m using Nat.strongRecOn with
  | _ m ih =>
    intro n hnD hm hq
    obtain ⟨hD, hX, hL, hs, ho⟩ := h
    have d8 := hD.1
    have hn9 : (nI n).toInt = (n : Int) := nI_toInt (by omega)
    have h39 : (M.1 3 9).toInt = (D.1 : Int) := hX.1.1
    refine pv_iloadn (pc := 4) (n := 2) 2 rfl rfl (fm_dec dtX10_signed 4 rfl) ?_
    refine pv_aloadn (pc := 5) (n := 0) 0 rfl rfl (fm_dec dtX10_signed 5 rfl) ?_
    refine pv_getR (k := 0) (j := 1) (ci := 10) (pc := 6) 3 rfl (by decide) pfl_X10_19 (by decide) rfl (by decide) (fm_dec dtX10_signed 6 rfl) ?_
    refine pv_getI (k := 3) (j := 9) (ci := 8) (pc := 9) pfl_X10_138 (by decide) rfl (by decide) (fm_dec dtX10_signed 7 rfl) ?_
    refine pv_icmp_ge (pc := 12) 62 (by decide) (fm_dec dtX10_signed 8 rfl) (fun hc12 => ?_) (fun hc12 => ?_)
    · refine pv_iloadn (pc := 62) (n := 1) 1 rfl rfl (fm_dec dtX10_signed 34 rfl) ?_
      exact pv_ireturn (pc := 63) rfl (fm_dec dtX10_signed 35 rfl) (by have e9 : n = D.1 := (by rw [sc_le] at hc12; omega); subst e9; exact hq)
    · have hn : n < D.1 := (by rw [sc_le] at hc12; omega)
      have g := ag_x hs hn
      refine pv_aloadn (pc := 15) (n := 0) 0 rfl rfl (fm_dec dtX10_signed 9 rfl) ?_
      refine pv_getR (k := 0) (j := 9) (ci := 10) (pc := 16) 46 rfl (by decide) pfl_X10_75 (by decide) rfl (by decide) (fm_dec dtX10_signed 10 rfl) ?_
      refine pv_getR (k := 46) (j := 0) (ci := 5) (pc := 19) 47 rfl (by decide) pfl_X10_90 (by decide) rfl (by decide) (fm_dec dtX10_signed 11 rfl) ?_
      refine pv_getR (k := 47) (j := 0) (ci := 6) (pc := 22) 48 rfl (by decide) pfl_X10_219 (by decide) rfl (by decide) (fm_dec dtX10_signed 12 rfl) ?_
      refine pv_iloadn (pc := 25) (n := 2) 2 rfl rfl (fm_dec dtX10_signed 13 rfl) ?_
      refine pv_iald (k := 48) (n := 8) (pc := 26) (by decide) rfl rfl (ix_in hn9 (by omega)) (fm_dec dtX10_signed 14 rfl) ?_
      rw [i32_cl hn9]
      refine pv_iconst (pc := 27) (v := (-1)) (by decide) (fm_dec dtX10_signed 15 rfl) ?_
      refine pv_icmp_eq (pc := 28) 56 (by decide) (fm_dec dtX10_signed 16 rfl) (fun hc28 => ?_) (fun hc28 => ?_)
      · refine pv_iincc (pc := 56) 2 1 (by decide) rfl (by decide) rfl (fm_dec dtX10_signed 32 rfl) ?_
        dsimp only [List.set_cons_zero, List.set_cons_succ]
        refine pv_goto (pc := 59) 4 (by decide) (fm_dec dtX10_signed 33 rfl) ?_
        have e9 := bS_n (F := (fun i => !decide (S.2 i = -1) && (sdA D S.1.2.2.1 i == 1))) (n := n) (by rw [decide_eq_true (ag_m hs hn hc28)]; rfl)
        rw [nI_succ1, ← e9]
        exact ih (D.1 - (n + 1)) (by omega) (n + 1) (by omega) rfl hq
      · refine pv_aloadn (pc := 31) (n := 0) 0 rfl rfl (fm_dec dtX10_signed 17 rfl) ?_
        refine pv_getR (k := 0) (j := 6) (ci := 10) (pc := 32) 32 rfl (by decide) pfl_X10_52 (by decide) rfl (by decide) (fm_dec dtX10_signed 18 rfl) ?_
        refine pv_aloadn (pc := 35) (n := 0) 0 rfl rfl (fm_dec dtX10_signed 19 rfl) ?_
        refine pv_getR (k := 0) (j := 9) (ci := 10) (pc := 36) 46 rfl (by decide) pfl_X10_75 (by decide) rfl (by decide) (fm_dec dtX10_signed 20 rfl) ?_
        refine pv_getR (k := 46) (j := 0) (ci := 5) (pc := 39) 47 rfl (by decide) pfl_X10_90 (by decide) rfl (by decide) (fm_dec dtX10_signed 21 rfl) ?_
        refine pv_iloadn (pc := 42) (n := 2) 2 rfl rfl (fm_dec dtX10_signed 22 rfl) ?_
        refine pv_invV2 (k := 32) (d' := 1) (pc := 43) pcv_X10_237 (by decide) rfl (Nat.le_of_ble_eq_true rfl) (by decide) (fm_dec dtX10_signed 23 rfl) ?_
        refine c_xsd hD hX hs ho hn ?_
        refine pv_then1 ?_
        refine pv_iconst (pc := 46) (v := 1) (by decide) (fm_dec dtX10_signed 24 rfl) ?_
        refine pv_icmp_ne (pc := 47) 56 (by decide) (fm_dec dtX10_signed 25 rfl) (fun hc47 => ?_) (fun hc47 => ?_)
        · refine pv_iincc (pc := 56) 2 1 (by decide) rfl (by decide) rfl (fm_dec dtX10_signed 32 rfl) ?_
          dsimp only [List.set_cons_zero, List.set_cons_succ]
          refine pv_goto (pc := 59) 4 (by decide) (fm_dec dtX10_signed 33 rfl) ?_
          have e9 := bS_n (F := (fun i => !decide (S.2 i = -1) && (sdA D S.1.2.2.1 i == 1))) (n := n) (by rw [(show (sdA D S.1.2.2.1 n == 1) = false by rcases sd_01 (D := D) (dead := S.1.2.2.1) (i := n) with e | e; rw [e]; rfl; exact absurd (by rw [e]; rfl) hc47), Bool.and_false])
          rw [nI_succ1, ← e9]
          exact ih (D.1 - (n + 1)) (by omega) (n + 1) (by omega) rfl hq
        · refine pv_iloadn (pc := 50) (n := 1) 1 rfl rfl (fm_dec dtX10_signed 26 rfl) ?_
          refine pv_iconst (pc := 51) (v := 1) (by decide) (fm_dec dtX10_signed 27 rfl) ?_
          refine pv_iloadn (pc := 52) (n := 2) 2 rfl rfl (fm_dec dtX10_signed 28 rfl) ?_
          refine pv_ishl (pc := 53) (fm_dec dtX10_signed 29 rfl) ?_
          refine pv_ior (pc := 54) (fm_dec dtX10_signed 30 rfl) ?_
          refine pv_istoren (pc := 55) (n := 1) 1 rfl (by decide) rfl (fm_dec dtX10_signed 31 rfl) ?_
          dsimp only [List.set_cons_zero, List.set_cons_succ]
          refine pv_iincc (pc := 56) 2 1 (by decide) rfl (by decide) rfl (fm_dec dtX10_signed 32 rfl) ?_
          dsimp only [List.set_cons_zero, List.set_cons_succ]
          refine pv_goto (pc := 59) 4 (by decide) (fm_dec dtX10_signed 33 rfl) ?_
          have e9 := bS_t (F := (fun i => !decide (S.2 i = -1) && (sdA D S.1.2.2.1 i == 1))) (n := n) (by rw [decide_eq_false (fun e => hc28 (i32_ext (by rw [g, e]; decide))), (show (sdA D S.1.2.2.1 n == 1) = true by rcases sd_01 (D := D) (dead := S.1.2.2.1) (i := n) with e | e; (rw [e] at hc47; exact absurd hc47 (by decide)); (rw [e]; rfl))]; rfl)
          rw [nI_succ1, or8 _ (bS_8 n (by omega)) n (by omega), ← e9]
          exact ih (D.1 - (n + 1)) (by omega) (n + 1) (by omega) rfl hq
set_option maxRecDepth 20000 in
theorem c_xsigned {M : fmM} {Q : fmR → fmM → Prop} {D : dD} {cs : tC} {S : aS} (h : xAq M D cs S) (hq : ∀ (r : Int32) (M' : fmM), r.toInt = ((bS (fun i => !decide (S.2 i = -1) && (sdA D S.1.2.2.1 i == 1)) D.1 : Nat) : Int) → Q (.inl (some (.int r))) M') : pvGood Tx 40 qX10_signed [.ref 0] M Q := by
  refine pvGood_of (Nat.le_of_ble_eq_true rfl) ?_
  show pvEv Tx 40 qX10_signed 0 [some (.ref 0), none, none] [] M Q
  refine pv_iconst (pc := 0) (v := 0) (by decide) (fm_dec dtX10_signed 0 rfl) ?_
  refine pv_istoren (pc := 1) (n := 1) 1 rfl (by decide) rfl (fm_dec dtX10_signed 1 rfl) ?_
  dsimp only [List.set_cons_zero, List.set_cons_succ]
  refine pv_iconst (pc := 2) (v := 0) (by decide) (fm_dec dtX10_signed 2 rfl) ?_
  refine pv_istoren (pc := 3) (n := 2) 2 rfl (by decide) rfl (fm_dec dtX10_signed 3 rfl) ?_
  dsimp only [List.set_cons_zero, List.set_cons_succ]
  have d8 := h.1.1
  exact xsg_loop h D.1 0 (by omega) rfl (hq _ _ (nI_toInt (by have := bS_8 (F := (fun i => !decide (S.2 i = -1) && (sdA D S.1.2.2.1 i == 1))) D.1 (by omega); omega)))
set_option maxRecDepth 20000 in
theorem msg_loop {Q : fmR → fmM → Prop} {M : fmM} {D : dD} {cs : tC} {S : aS} (h : mAq M D cs S) : ∀ (m : Nat) (n : Nat), n ≤ D.1 → D.1 - n = m → Q (.inl (some (.int (nI (bS (fun i => !decide (S.2 i = -1) && (sdA D S.1.2.2.1 i == 1)) D.1))))) M → pvEv Tm 40 qX11_signed 9 [some (.ref 0), some (.int (nI (bS (fun i => !decide (S.2 i = -1) && (sdA D S.1.2.2.1 i == 1)) n))), some (.int (nI n))] [] M Q := by
  intro m
  induction m using Nat.strongRecOn with
  | _ m ih =>
    intro n hnD hm hq
    obtain ⟨hD, hY, hM, hd, ht, ho⟩ := h
    have d8 := hD.1
    have hn9 : (nI n).toInt = (n : Int) := nI_toInt (by omega)
    have h39 : (M.1 4 (Int32.toNatClampNeg 0)).toInt = (D.1 : Int) := hY.1
    refine pv_iloadn (pc := 9) (n := 2) 2 rfl rfl (fm_dec dtX11_signed 7 rfl) ?_
    refine pv_aloadn (pc := 10) (n := 0) 0 rfl rfl (fm_dec dtX11_signed 8 rfl) ?_
    refine pv_getR (k := 0) (j := 12) (ci := 11) (pc := 11) 4 rfl (by decide) pfl_X11_23 (by decide) rfl (by decide) (fm_dec dtX11_signed 9 rfl) ?_
    refine pv_iconst (pc := 14) (v := 0) (by decide) (fm_dec dtX11_signed 10 rfl) ?_
    refine pv_iald (k := 4) (n := 6) (pc := 15) (by decide) rfl rfl (fm_inl (by decide)) (fm_dec dtX11_signed 11 rfl) ?_
    refine pv_icmp_ge (pc := 16) 59 (by decide) (fm_dec dtX11_signed 12 rfl) (fun hc16 => ?_) (fun hc16 => ?_)
    · refine pv_iloadn (pc := 59) (n := 1) 1 rfl rfl (fm_dec dtX11_signed 35 rfl) ?_
      exact pv_ireturn (pc := 60) rfl (fm_dec dtX11_signed 36 rfl) (by have e9 : n = D.1 := (by rw [sc_le] at hc16; omega); subst e9; exact hq)
    · have hn : n < D.1 := (by rw [sc_le] at hc16; omega)
      refine pv_iloadn (pc := 19) (n := 1) 1 rfl rfl (fm_dec dtX11_signed 13 rfl) ?_
      refine pv_aloadn (pc := 20) (n := 0) 0 rfl rfl (fm_dec dtX11_signed 14 rfl) ?_
      refine pv_getR (k := 0) (j := 27) (ci := 11) (pc := 21) 7 rfl (by decide) pfl_X11_61 (by decide) rfl (by decide) (fm_dec dtX11_signed 15 rfl) ?_
      refine pv_iloadn (pc := 24) (n := 2) 2 rfl rfl (fm_dec dtX11_signed 16 rfl) ?_
      refine pv_iS2 (d' := 0) (pc := 25) pcs_X11_283 (Nat.le_of_ble_eq_true rfl) (by decide) (fm_dec dtX11_signed 17 rfl) ?_
      refine c_hasPiece7 hn9 (by omega) (fun h25 => ?_) (fun h25 => ?_)
      · refine pv_then1 ?_
        refine pv_if_eq (pc := 28) 50 (by decide) (fm_dec dtX11_signed 18 rfl) (fun hc28 => by exfalso; revert hc28; decide) (fun _ => ?_)
        refine pv_aloadn (pc := 31) (n := 0) 0 rfl rfl (fm_dec dtX11_signed 19 rfl) ?_
        refine pv_aloadn (pc := 32) (n := 0) 0 rfl rfl (fm_dec dtX11_signed 20 rfl) ?_
        refine pv_getR (k := 0) (j := 27) (ci := 11) (pc := 33) 7 rfl (by decide) pfl_X11_61 (by decide) rfl (by decide) (fm_dec dtX11_signed 21 rfl) ?_
        refine pv_iloadn (pc := 36) (n := 2) 2 rfl rfl (fm_dec dtX11_signed 22 rfl) ?_
        refine pv_invV2 (k := 0) (d' := 1) (pc := 37) pcv_X11_266 (by decide) rfl (Nat.le_of_ble_eq_true rfl) (by decide) (fm_dec dtX11_signed 23 rfl) ?_
        refine c_msd hD hY ht ho hn ?_
        refine pv_then1 ?_
        refine pv_iconst (pc := 40) (v := 1) (by decide) (fm_dec dtX11_signed 24 rfl) ?_
        refine pv_icmp_ne (pc := 41) 50 (by decide) (fm_dec dtX11_signed 25 rfl) (fun hc41 => ?_) (fun hc41 => ?_)
        · refine pv_iconst (pc := 50) (v := 0) (by decide) (fm_dec dtX11_signed 30 rfl) ?_
          refine pv_ior (pc := 51) (fm_dec dtX11_signed 31 rfl) ?_
          refine pv_istoren (pc := 52) (n := 1) 1 rfl (by decide) rfl (fm_dec dtX11_signed 32 rfl) ?_
          dsimp only [List.set_cons_zero, List.set_cons_succ]
          refine pv_iincc (pc := 53) 2 1 (by decide) rfl (by decide) rfl (fm_dec dtX11_signed 33 rfl) ?_
          dsimp only [List.set_cons_zero, List.set_cons_succ]
          refine pv_goto (pc := 56) 9 (by decide) (fm_dec dtX11_signed 34 rfl) ?_
          have e9 := bS_n (F := (fun i => !decide (S.2 i = -1) && (sdA D S.1.2.2.1 i == 1))) (n := n) (by rw [(show (sdA D S.1.2.2.1 n == 1) = false by rcases sd_01 (D := D) (dead := S.1.2.2.1) (i := n) with e | e; rw [e]; rfl; exact absurd (by rw [e]; rfl) hc41), Bool.and_false])
          rw [nI_succ1, Int32.or_zero, ← e9]
          exact ih (D.1 - (n + 1)) (by omega) (n + 1) (by omega) rfl hq
        · refine pv_iconst (pc := 44) (v := 1) (by decide) (fm_dec dtX11_signed 26 rfl) ?_
          refine pv_iloadn (pc := 45) (n := 2) 2 rfl rfl (fm_dec dtX11_signed 27 rfl) ?_
          refine pv_ishl (pc := 46) (fm_dec dtX11_signed 28 rfl) ?_
          refine pv_goto (pc := 47) 51 (by decide) (fm_dec dtX11_signed 29 rfl) ?_
          refine pv_ior (pc := 51) (fm_dec dtX11_signed 31 rfl) ?_
          refine pv_istoren (pc := 52) (n := 1) 1 rfl (by decide) rfl (fm_dec dtX11_signed 32 rfl) ?_
          dsimp only [List.set_cons_zero, List.set_cons_succ]
          refine pv_iincc (pc := 53) 2 1 (by decide) rfl (by decide) rfl (fm_dec dtX11_signed 33 rfl) ?_
          dsimp only [List.set_cons_zero, List.set_cons_succ]
          refine pv_goto (pc := 56) 9 (by decide) (fm_dec dtX11_signed 34 rfl) ?_
          have e9 := bS_t (F := (fun i => !decide (S.2 i = -1) && (sdA D S.1.2.2.1 i == 1))) (n := n) (by rw [decide_eq_false (fun e => h25 ((ht.no ho hn).mpr e)), (show (sdA D S.1.2.2.1 n == 1) = true by rcases sd_01 (D := D) (dead := S.1.2.2.1) (i := n) with e | e; (rw [e] at hc41; exact absurd hc41 (by decide)); (rw [e]; rfl))]; rfl)
          rw [nI_succ1, or8 _ (bS_8 n (by omega)) n (by omega), ← e9]
          exact ih (D.1 - (n + 1)) (by omega) (n + 1) (by omega) rfl hq
      · refine pv_then1 ?_
        refine pv_if_eq (pc := 28) 50 (by decide) (fm_dec dtX11_signed 18 rfl) (fun _ => ?_) (fun hc28 => by exfalso; revert hc28; decide)
        refine pv_iconst (pc := 50) (v := 0) (by decide) (fm_dec dtX11_signed 30 rfl) ?_
        refine pv_ior (pc := 51) (fm_dec dtX11_signed 31 rfl) ?_
        refine pv_istoren (pc := 52) (n := 1) 1 rfl (by decide) rfl (fm_dec dtX11_signed 32 rfl) ?_
        dsimp only [List.set_cons_zero, List.set_cons_succ]
        refine pv_iincc (pc := 53) 2 1 (by decide) rfl (by decide) rfl (fm_dec dtX11_signed 33 rfl) ?_
        dsimp only [List.set_cons_zero, List.set_cons_succ]
        refine pv_goto (pc := 56) 9 (by decide) (fm_dec dtX11_signed 34 rfl) ?_
        have e9 := bS_n (F := (fun i => !decide (S.2 i = -1) && (sdA D S.1.2.2.1 i == 1))) (n := n) (by rw [decide_eq_true ((ht.no ho hn).mp h25)]; rfl)
        rw [nI_succ1, Int32.or_zero, ← e9]
        exact ih (D.1 - (n + 1)) (by omega) (n + 1) (by omega) rfl hq
set_option maxRecDepth 20000 in
theorem c_msigned {M : fmM} {Q : fmR → fmM → Prop} {D : dD} {cs : tC} {S : aS} (h : mAq M D cs S) (hq : ∀ (r : Int32) (M' : fmM), M'.1 0 0 = 0 → r.toInt = ((bS (fun i => !decide (S.2 i = -1) && (sdA D S.1.2.2.1 i == 1)) D.1 : Nat) : Int) → Q (.inl (some (.int r))) M') : pvGood Tm 40 qX11_signed [.ref 0] M Q := by
  refine pvGood_of (Nat.le_of_ble_eq_true rfl) ?_
  show pvEv Tm 40 qX11_signed 0 [some (.ref 0), none, none] [] M Q
  refine pv_aloadn (pc := 0) (n := 0) 0 rfl rfl (fm_dec dtX11_signed 0 rfl) ?_
  refine pv_iconst (pc := 1) (v := 0) (by decide) (fm_dec dtX11_signed 1 rfl) ?_
  refine pv_putI (k := 0) (j := 0) (ci := 11) (pc := 2) pfl_X11_101 (by decide) rfl (by decide) (fm_dec dtX11_signed 2 rfl) ?_
  refine pv_iconst (pc := 5) (v := 0) (by decide) (fm_dec dtX11_signed 3 rfl) ?_
  refine pv_istoren (pc := 6) (n := 1) 1 rfl (by decide) rfl (fm_dec dtX11_signed 4 rfl) ?_
  dsimp only [List.set_cons_zero, List.set_cons_succ]
  refine pv_iconst (pc := 7) (v := 0) (by decide) (fm_dec dtX11_signed 5 rfl) ?_
  refine pv_istoren (pc := 8) (n := 2) 2 rfl (by decide) rfl (fm_dec dtX11_signed 6 rfl) ?_
  dsimp only [List.set_cons_zero, List.set_cons_succ]
  have d8 := h.1.1
  exact msg_loop h.z D.1 0 (by omega) rfl (hq _ _ rfl (nI_toInt (by have := bS_8 (F := (fun i => !decide (S.2 i = -1) && (sdA D S.1.2.2.1 i == 1))) D.1 (by omega); omega)))
theorem xe_signed {M : fmM} {D : dD} {cs : tC} {S : aS} (h : xAq M D cs S) : pvGood Tx 250 qX10_signed [.ref 0] M (fun r _ => r = .inl (some (.int (iZ (((bS (fun i => !decide (S.2 i = -1) && (sdA D S.1.2.2.1 i == 1)) D.1 : Nat) : Int)))))) := (c_xsigned h (fun r M' e => by rw [iZ_is e])).up (by decide)
theorem me_signed {M : fmM} {D : dD} {cs : tC} {S : aS} (h : mAq M D cs S) : pvGood Tm 250 qX11_signed [.ref 0] M (fun r M' => r = .inl (some (.int (iZ (((bS (fun i => !decide (S.2 i = -1) && (sdA D S.1.2.2.1 i == 1)) D.1 : Nat) : Int)))))) := (c_msigned h (fun r M' z e => by rw [iZ_is e])).up (by decide)
