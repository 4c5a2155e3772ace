/-- how wrong its piece is now, -1 for none -/
def woA (D : dD) (cs : tC) (S : aS) (i : Nat) : Int := if S.2 i = -1 then -1 else wrS D cs S.1.2.2.1 S.1.1 i (S.2 i).toNat
set_option maxRecDepth 20000 in
theorem xsl_loop {Q : fmR → fmM → Prop} {D : dD} {cs : tC} {S : aS} {y : Int32} : ∀ (m : Nat) (n : Nat) (M : fmM) (v4 : Option Value), xAq M D cs S → n ≤ D.1 → D.1 - n = m → (∀ M' : fmM, Q (.inl (some (.int (nI (bS (fun i => !decide (S.2 i = -1) && decide (y.toInt ≤ wrS D cs S.1.2.2.1 S.1.1 i (S.2 i).toNat)) D.1))))) M') → pvEv Tx 40 qX10_piecesWrongBy 4 [some (.ref 0), some (.int y), some (.int (nI (bS (fun i => !decide (S.2 i = -1) && decide (y.toInt ≤ wrS D cs S.1.2.2.1 S.1.1 i (S.2 i).toNat)) n))), some (.int (nI n)), v4] [] M Q := by
  intro m
  induction m using Nat.strongRecOn with
  | _ m ih =>
    intro n M v4 h hnD hm hq
    have h9q := h
    obtain ⟨hD, hX, hL, hs, ho⟩ := h9q
    have d8 := hD.1
    have hn9 : (nI n).toInt = (n : Int) := nI_toInt (by omega)
    have h39 : (M.1 3 9).toInt = (D.1 : Int) := hX.1.1
    refine pv_iloadn (pc := 4) (n := 3) 3 rfl rfl (fm_dec dtX10_piecesWrongBy 4 rfl) ?_
    refine pv_aloadn (pc := 5) (n := 0) 0 rfl rfl (fm_dec dtX10_piecesWrongBy 5 rfl) ?_
    refine pv_getR (k := 0) (j := 1) (ci := 10) (pc := 6) 3 rfl (by decide) pfl_X10_19 (by decide) rfl (by decide) (fm_dec dtX10_piecesWrongBy 6 rfl) ?_
    refine pv_getI (k := 3) (j := 9) (ci := 8) (pc := 9) pfl_X10_138 (by decide) rfl (by decide) (fm_dec dtX10_piecesWrongBy 7 rfl) ?_
    refine pv_icmp_ge (pc := 12) 69 (by decide) (fm_dec dtX10_piecesWrongBy 8 rfl) (fun hc12 => ?_) (fun hc12 => ?_)
    · refine pv_iloadn (pc := 69) (n := 2) 2 rfl rfl (fm_dec dtX10_piecesWrongBy 38 rfl) ?_
      exact pv_ireturn (pc := 70) rfl (fm_dec dtX10_piecesWrongBy 39 rfl) (by have e9 : n = D.1 := (by rw [sc_le] at hc12; omega); subst e9; exact hq _)
    · have hn : n < D.1 := (by rw [sc_le] at hc12; omega)
      have g := ag_x hs hn
      have ab := ag_b ho hn
      refine pv_aloadn (pc := 15) (n := 0) 0 rfl rfl (fm_dec dtX10_piecesWrongBy 9 rfl) ?_
      refine pv_getR (k := 0) (j := 9) (ci := 10) (pc := 16) 46 rfl (by decide) pfl_X10_75 (by decide) rfl (by decide) (fm_dec dtX10_piecesWrongBy 10 rfl) ?_
      refine pv_getR (k := 46) (j := 0) (ci := 5) (pc := 19) 47 rfl (by decide) pfl_X10_90 (by decide) rfl (by decide) (fm_dec dtX10_piecesWrongBy 11 rfl) ?_
      refine pv_getR (k := 47) (j := 0) (ci := 6) (pc := 22) 48 rfl (by decide) pfl_X10_219 (by decide) rfl (by decide) (fm_dec dtX10_piecesWrongBy 12 rfl) ?_
      refine pv_iloadn (pc := 25) (n := 3) 3 rfl rfl (fm_dec dtX10_piecesWrongBy 13 rfl) ?_
      refine pv_iald (k := 48) (n := 8) (pc := 26) (by decide) rfl rfl (ix_in hn9 (by omega)) (fm_dec dtX10_piecesWrongBy 14 rfl) ?_
      rw [i32_cl hn9]
      refine pv_istore (pc := 27) (i := 4) (by decide) rfl (fm_dec dtX10_piecesWrongBy 15 rfl) ?_
      dsimp only [List.set_cons_zero, List.set_cons_succ]
      refine pv_iload (pc := 29) (i := 4) rfl (fm_dec dtX10_piecesWrongBy 16 rfl) ?_
      refine pv_iconst (pc := 31) (v := (-1)) (by decide) (fm_dec dtX10_piecesWrongBy 17 rfl) ?_
      refine pv_icmp_eq (pc := 32) 63 (by decide) (fm_dec dtX10_piecesWrongBy 18 rfl) (fun hc32 => ?_) (fun hc32 => ?_)
      · refine pv_iincc (pc := 63) 3 1 (by decide) rfl (by decide) rfl (fm_dec dtX10_piecesWrongBy 36 rfl) ?_
        dsimp only [List.set_cons_zero, List.set_cons_succ]
        refine pv_goto (pc := 66) 4 (by decide) (fm_dec dtX10_piecesWrongBy 37 rfl) ?_
        have e9 := bS_n (F := (fun i => !decide (S.2 i = -1) && decide (y.toInt ≤ wrS D cs S.1.2.2.1 S.1.1 i (S.2 i).toNat))) (n := n) (by rw [decide_eq_true (ag_m hs hn hc32)]; rfl)
        rw [nI_succ1, ← e9]
        exact ih (D.1 - (n + 1)) (by omega) (n + 1) M _ h (by omega) rfl hq
      · obtain ⟨exn, hne⟩ := ag_n hs ho hn hc32
        rw [exn]
        refine pv_aloadn (pc := 35) (n := 0) 0 rfl rfl (fm_dec dtX10_piecesWrongBy 19 rfl) ?_
        refine pv_getR (k := 0) (j := 6) (ci := 10) (pc := 36) 32 rfl (by decide) pfl_X10_52 (by decide) rfl (by decide) (fm_dec dtX10_piecesWrongBy 20 rfl) ?_
        refine pv_aloadn (pc := 39) (n := 0) 0 rfl rfl (fm_dec dtX10_piecesWrongBy 21 rfl) ?_
        refine pv_getR (k := 0) (j := 9) (ci := 10) (pc := 40) 46 rfl (by decide) pfl_X10_75 (by decide) rfl (by decide) (fm_dec dtX10_piecesWrongBy 22 rfl) ?_
        refine pv_getR (k := 46) (j := 0) (ci := 5) (pc := 43) 47 rfl (by decide) pfl_X10_90 (by decide) rfl (by decide) (fm_dec dtX10_piecesWrongBy 23 rfl) ?_
        refine pv_iloadn (pc := 46) (n := 3) 3 rfl rfl (fm_dec dtX10_piecesWrongBy 24 rfl) ?_
        refine pv_iconst (pc := 47) (v := 0) (by decide) (fm_dec dtX10_piecesWrongBy 25 rfl) ?_
        refine pv_iload (pc := 48) (i := 4) rfl (fm_dec dtX10_piecesWrongBy 26 rfl) ?_
        refine pv_invV4 (k := 32) (d' := 2) (pc := 50) pcv_X10_229 (by decide) rfl (Nat.le_of_ble_eq_true rfl) (by decide) (fm_dec dtX10_piecesWrongBy 27 rfl) ?_
        refine c_xwrg hD hX hL hs ho hn (by omega) (fun M50 r50 g50 h50 e50 => ?_)
        refine pv_then1 ?_
        refine pv_iloadn (pc := 53) (n := 1) 1 rfl rfl (fm_dec dtX10_piecesWrongBy 28 rfl) ?_
        refine pv_icmp_lt (pc := 54) 63 (by decide) (fm_dec dtX10_piecesWrongBy 29 rfl) (fun hc54 => ?_) (fun hc54 => ?_)
        · refine pv_iincc (pc := 63) 3 1 (by decide) rfl (by decide) rfl (fm_dec dtX10_piecesWrongBy 36 rfl) ?_
          dsimp only [List.set_cons_zero, List.set_cons_succ]
          refine pv_goto (pc := 66) 4 (by decide) (fm_dec dtX10_piecesWrongBy 37 rfl) ?_
          have e9 := bS_n (F := (fun i => !decide (S.2 i = -1) && decide (y.toInt ≤ wrS D cs S.1.2.2.1 S.1.1 i (S.2 i).toNat))) (n := n) (by rw [decide_eq_false (fun e : y.toInt ≤ wrS D cs S.1.2.2.1 S.1.1 n (S.2 n).toNat => by rw [sc_lt] at hc54; omega), Bool.and_false])
          rw [nI_succ1, ← e9]
          exact ih (D.1 - (n + 1)) (by omega) (n + 1) M50 _ (h.low g50 h50) (by omega) rfl hq
        · refine pv_iloadn (pc := 57) (n := 2) 2 rfl rfl (fm_dec dtX10_piecesWrongBy 30 rfl) ?_
          refine pv_iconst (pc := 58) (v := 1) (by decide) (fm_dec dtX10_piecesWrongBy 31 rfl) ?_
          refine pv_iloadn (pc := 59) (n := 3) 3 rfl rfl (fm_dec dtX10_piecesWrongBy 32 rfl) ?_
          refine pv_ishl (pc := 60) (fm_dec dtX10_piecesWrongBy 33 rfl) ?_
          refine pv_ior (pc := 61) (fm_dec dtX10_piecesWrongBy 34 rfl) ?_
          refine pv_istoren (pc := 62) (n := 2) 2 rfl (by decide) rfl (fm_dec dtX10_piecesWrongBy 35 rfl) ?_
          dsimp only [List.set_cons_zero, List.set_cons_succ]
          refine pv_iincc (pc := 63) 3 1 (by decide) rfl (by decide) rfl (fm_dec dtX10_piecesWrongBy 36 rfl) ?_
          dsimp only [List.set_cons_zero, List.set_cons_succ]
          refine pv_goto (pc := 66) 4 (by decide) (fm_dec dtX10_piecesWrongBy 37 rfl) ?_
          have e9 := bS_t (F := (fun i => !decide (S.2 i = -1) && decide (y.toInt ≤ wrS D cs S.1.2.2.1 S.1.1 i (S.2 i).toNat))) (n := n) (by rw [decide_eq_false hne, decide_eq_true (show y.toInt ≤ wrS D cs S.1.2.2.1 S.1.1 n (S.2 n).toNat by rw [sc_lt] at hc54; omega)]; rfl)
          rw [nI_succ1, or8 _ (bS_8 n (by omega)) n (by omega), ← e9]
          exact ih (D.1 - (n + 1)) (by omega) (n + 1) M50 _ (h.low g50 h50) (by omega) rfl hq
set_option maxRecDepth 20000 in
theorem c_xpwb {M : fmM} {Q : fmR → fmM → Prop} {D : dD} {cs : tC} {S : aS} {y : Int32} (h : xAq M D cs S) (hq : ∀ M' : fmM, Q (.inl (some (.int (nI (bS (fun i => !decide (S.2 i = -1) && decide (y.toInt ≤ wrS D cs S.1.2.2.1 S.1.1 i (S.2 i).toNat)) D.1))))) M') : pvGood Tx 41 qX10_piecesWrongBy [.ref 0, .int y] M Q := by
  refine pvGood_of (Nat.le_of_ble_eq_true rfl) ?_
  show pvEv Tx 41 qX10_piecesWrongBy 0 [some (.ref 0), some (.int y), none, none, none] [] M Q
  refine pv_iconst (pc := 0) (v := 0) (by decide) (fm_dec dtX10_piecesWrongBy 0 rfl) ?_
  refine pv_istoren (pc := 1) (n := 2) 2 rfl (by decide) rfl (fm_dec dtX10_piecesWrongBy 1 rfl) ?_
  dsimp only [List.set_cons_zero, List.set_cons_succ]
  refine pv_iconst (pc := 2) (v := 0) (by decide) (fm_dec dtX10_piecesWrongBy 2 rfl) ?_
  refine pv_istoren (pc := 3) (n := 3) 3 rfl (by decide) rfl (fm_dec dtX10_piecesWrongBy 3 rfl) ?_
  dsimp only [List.set_cons_zero, List.set_cons_succ]
  have d8 := h.1.1
  exact (xsl_loop D.1 0 M _ h (by omega) rfl hq).up (by decide)
set_option maxRecDepth 20000 in
theorem c_xstale {M : fmM} {Q : fmR → fmM → Prop} {D : dD} {cs : tC} {S : aS} {y : Int32} (h : xAq M D cs S) (hn2 : ¬ (inW y 0 65) → Q (.inr fmIAE) (fmI M 0 16 (M.1 0 16 + 1))) (hq : inW y 0 65 → ∀ (r : Int32) (M' : fmM), r.toInt = ((bS (fun i => !decide (S.2 i = -1) && decide (y.toInt ≤ wrS D cs S.1.2.2.1 S.1.1 i (S.2 i).toNat)) D.1 : Nat) : Int) → Q (.inl (some (.int r))) M') : pvGood Tx 42 qX10_stale [.ref 0, .int y] M Q := by
  refine pvGood_of (Nat.le_of_ble_eq_true rfl) ?_
  show pvEv Tx 42 qX10_stale 0 [some (.ref 0), some (.int y)] [] M Q
  have h9q := h
  obtain ⟨hD, hX, hL, hs, ho⟩ := h9q
  have d8 := hD.1
  refine pv_aloadn (pc := 0) (n := 0) 0 rfl rfl (fm_dec dtX10_stale 0 rfl) ?_
  refine pv_iloadn (pc := 1) (n := 1) 1 rfl rfl (fm_dec dtX10_stale 1 rfl) ?_
  refine pv_iconst (pc := 2) (v := 0) (by decide) (fm_dec dtX10_stale 2 rfl) ?_
  refine pv_bipush (pc := 3) (v := 65) (by decide) (fm_dec dtX10_stale 3 rfl) ?_
  refine pv_invV3 (k := 0) (d' := 0) (pc := 5) pcv_X10_169 (by decide) rfl (Nat.le_of_ble_eq_true rfl) (by decide) (fm_dec dtX10_stale 4 rfl) ?_
  refine c_needW (fun h5a h5b => ?_) (fun h5 => ?_)
  · refine pv_then0 ?_
    refine pv_aloadn (pc := 8) (n := 0) 0 rfl rfl (fm_dec dtX10_stale 5 rfl) ?_
    refine pv_iloadn (pc := 9) (n := 1) 1 rfl rfl (fm_dec dtX10_stale 6 rfl) ?_
    refine pv_invV1 (k := 0) (d' := 41) (pc := 10) pcv_X10_241 (by decide) rfl (Nat.le_of_ble_eq_true rfl) (by decide) (fm_dec dtX10_stale 7 rfl) ?_
    refine c_xpwb h (fun M10 => ?_)
    refine pv_then1 ?_
    exact pv_ireturn (pc := 13) rfl (fm_dec dtX10_stale 8 rfl) (hq ⟨h5a, h5b⟩ _ _ (nI_toInt (by have := bS_8 (F := (fun i => !decide (S.2 i = -1) && decide (y.toInt ≤ wrS D cs S.1.2.2.1 S.1.1 i (S.2 i).toNat))) D.1 (by omega); omega)))
  · refine pv_thenX ?_
    exact hn2 (fun h9 => h5 ⟨h9.1, h9.2⟩)
set_option maxRecDepth 20000 in
theorem c_mwof {M : fmM} {Q : fmR → fmM → Prop} {D : dD} {cs : tC} {S : aS} {i : Nat} (h : mAq M D cs S) (hi : i < D.1) (hq : ∀ (r : Int32) (M' : fmM), (∀ k j, k ≠ 5 → k ≠ 6 → M'.1 k j = M.1 k j) → M'.2 = M.2 → r.toInt = woA D cs S i → Q (.inl (some (.int r))) M') : pvGood Tm 8 qX11_wrongOf [.ref 0, .int (nI i)] M Q := by
  refine pvGood_of (Nat.le_of_ble_eq_true rfl) ?_
  show pvEv Tm 8 qX11_wrongOf 0 [some (.ref 0), some (.int (nI i))] [] M Q
  obtain ⟨hD, hY, hM, hd, ht, ho⟩ := h
  have d8 := hD.1
  have hi9 : (nI i).toInt = (i : Int) := nI_toInt (by omega)
  have hi8 : i < 8 := (by omega)
  have h1i := one_i hi8
  have g := ht.2.2.2.2.2.2 i hi
  have ab := ag_b ho hi
  have zm : (-1000 : Int32).toInt = -1000 := (by decide)
  refine pv_aloadn (pc := 0) (n := 0) 0 rfl rfl (fm_dec dtX11_wrongOf 0 rfl) ?_
  refine pv_getR (k := 0) (j := 27) (ci := 11) (pc := 1) 7 rfl (by decide) pfl_X11_61 (by decide) rfl (by decide) (fm_dec dtX11_wrongOf 1 rfl) ?_
  refine pv_iloadn (pc := 4) (n := 1) 1 rfl rfl (fm_dec dtX11_wrongOf 2 rfl) ?_
  refine pv_iS2 (d' := 0) (pc := 5) pcs_X11_283 (Nat.le_of_ble_eq_true rfl) (by decide) (fm_dec dtX11_wrongOf 3 rfl) ?_
  refine c_hasPiece7 hi9 hi8 (fun h5 => ?_) (fun h5 => ?_)
  · refine pv_then1 ?_
    refine pv_if_eq (pc := 8) 38 (by decide) (fm_dec dtX11_wrongOf 4 rfl) (fun hc8 => by exfalso; revert hc8; decide) (fun _ => ?_)
    refine pv_aloadn (pc := 11) (n := 0) 0 rfl rfl (fm_dec dtX11_wrongOf 5 rfl) ?_
    refine pv_aloadn (pc := 12) (n := 0) 0 rfl rfl (fm_dec dtX11_wrongOf 6 rfl) ?_
    refine pv_getR (k := 0) (j := 27) (ci := 11) (pc := 13) 7 rfl (by decide) pfl_X11_61 (by decide) rfl (by decide) (fm_dec dtX11_wrongOf 7 rfl) ?_
    refine pv_iloadn (pc := 16) (n := 1) 1 rfl rfl (fm_dec dtX11_wrongOf 8 rfl) ?_
    refine pv_aloadn (pc := 17) (n := 0) 0 rfl rfl (fm_dec dtX11_wrongOf 9 rfl) ?_
    refine pv_getR (k := 0) (j := 27) (ci := 11) (pc := 18) 7 rfl (by decide) pfl_X11_61 (by decide) rfl (by decide) (fm_dec dtX11_wrongOf 10 rfl) ?_
    refine pv_iconst (pc := 21) (v := 1) (by decide) (fm_dec dtX11_wrongOf 11 rfl) ?_
    refine pv_iloadn (pc := 22) (n := 1) 1 rfl rfl (fm_dec dtX11_wrongOf 12 rfl) ?_
    refine pv_iadd (pc := 23) (fm_dec dtX11_wrongOf 13 rfl) ?_
    refine pv_iald (k := 7) (n := 14) (pc := 24) (by decide) rfl rfl (ix_in h1i (by omega)) (fm_dec dtX11_wrongOf 14 rfl) ?_
    rw [i32_cl h1i]
    refine pv_aloadn (pc := 25) (n := 0) 0 rfl rfl (fm_dec dtX11_wrongOf 15 rfl) ?_
    refine pv_getR (k := 0) (j := 27) (ci := 11) (pc := 26) 7 rfl (by decide) pfl_X11_61 (by decide) rfl (by decide) (fm_dec dtX11_wrongOf 16 rfl) ?_
    refine pv_bipush (pc := 29) (v := 10) (by decide) (fm_dec dtX11_wrongOf 17 rfl) ?_
    refine pv_iald (k := 7) (n := 14) (pc := 31) (by decide) rfl rfl (fm_inl (by decide)) (fm_dec dtX11_wrongOf 18 rfl) ?_
    refine pv_invV4 (k := 0) (d' := 5) (pc := 32) pcv_X11_276 (by decide) rfl (Nat.le_of_ble_eq_true rfl) (by decide) (fm_dec dtX11_wrongOf 19 rfl) ?_
    refine c_mwrg (a := (S.2 i).toNat) hD hY hM hd ht ho hi ht.2.1 (by have hne : ¬ S.2 i = -1 := (fun e => h5 ((ht.no ho hi).mpr e)); rw [g, if_neg hne]; omega) (by omega) (fun M32 r32 g32 h32 e32 => ?_)
    refine pv_then1 ?_
    refine pv_goto (pc := 35) 39 (by decide) (fm_dec dtX11_wrongOf 20 rfl) ?_
    exact pv_ireturn (pc := 39) rfl (fm_dec dtX11_wrongOf 22 rfl) (hq _ _ g32 h32 (by unfold woA; rw [if_neg (fun e => h5 ((ht.no ho hi).mpr e))]; exact e32))
  · refine pv_then1 ?_
    refine pv_if_eq (pc := 8) 38 (by decide) (fm_dec dtX11_wrongOf 4 rfl) (fun _ => ?_) (fun hc8 => by exfalso; revert hc8; decide)
    refine pv_iconst (pc := 38) (v := (-1)) (by decide) (fm_dec dtX11_wrongOf 21 rfl) ?_
    exact pv_ireturn (pc := 39) rfl (fm_dec dtX11_wrongOf 22 rfl) (hq _ _ (fun _ _ _ _ => rfl) rfl (by unfold woA; rw [if_pos ((ht.no ho hi).mp h5)]; decide))
set_option maxRecDepth 20000 in
theorem msl_loop {Q : fmR → fmM → Prop} {D : dD} {cs : tC} {S : aS} {y : Int32} : ∀ (m : Nat) (n : Nat) (M : fmM) , (mAq M D cs S ∧ M.1 0 0 = 0) → n ≤ D.1 → D.1 - n = m → (∀ M' : fmM, M'.1 0 0 = 0 → Q (.inl (some (.int (nI (bS (fun i => !decide (S.2 i = -1) && decide (y.toInt ≤ wrS D cs S.1.2.2.1 S.1.1 i (S.2 i).toNat)) D.1))))) M') → pvEv Tm 40 qX11_stale 35 [some (.ref 0), some (.int y), some (.int (nI (bS (fun i => !decide (S.2 i = -1) && decide (y.toInt ≤ wrS D cs S.1.2.2.1 S.1.1 i (S.2 i).toNat)) n))), some (.int (nI n))] [] M Q := by
  intro m
  induction m using Nat.strongRecOn with
  | _ m ih =>
    intro n M h hnD hm hq
    have h9q := h.1
    obtain ⟨hD, hY, hM, hd, ht, ho⟩ := h9q
    have d8 := hD.1
    have hn9 : (nI n).toInt = (n : Int) := nI_toInt (by omega)
    have h39 : (M.1 4 (Int32.toNatClampNeg 0)).toInt = (D.1 : Int) := hY.1
    refine pv_iloadn (pc := 35) (n := 3) 3 rfl rfl (fm_dec dtX11_stale 22 rfl) ?_
    refine pv_aloadn (pc := 36) (n := 0) 0 rfl rfl (fm_dec dtX11_stale 23 rfl) ?_
    refine pv_getR (k := 0) (j := 12) (ci := 11) (pc := 37) 4 rfl (by decide) pfl_X11_23 (by decide) rfl (by decide) (fm_dec dtX11_stale 24 rfl) ?_
    refine pv_iconst (pc := 40) (v := 0) (by decide) (fm_dec dtX11_stale 25 rfl) ?_
    refine pv_iald (k := 4) (n := 6) (pc := 41) (by decide) rfl rfl (fm_inl (by decide)) (fm_dec dtX11_stale 26 rfl) ?_
    refine pv_icmp_ge (pc := 42) 81 (by decide) (fm_dec dtX11_stale 27 rfl) (fun hc42 => ?_) (fun hc42 => ?_)
    · refine pv_iloadn (pc := 81) (n := 2) 2 rfl rfl (fm_dec dtX11_stale 48 rfl) ?_
      exact pv_ireturn (pc := 82) rfl (fm_dec dtX11_stale 49 rfl) (by have e9 : n = D.1 := (by rw [sc_le] at hc42; omega); subst e9; exact hq _ h.2)
    · have hn : n < D.1 := (by rw [sc_le] at hc42; omega)
      have ab := ag_b ho hn
      refine pv_iloadn (pc := 45) (n := 2) 2 rfl rfl (fm_dec dtX11_stale 28 rfl) ?_
      refine pv_aloadn (pc := 46) (n := 0) 0 rfl rfl (fm_dec dtX11_stale 29 rfl) ?_
      refine pv_getR (k := 0) (j := 27) (ci := 11) (pc := 47) 7 rfl (by decide) pfl_X11_61 (by decide) rfl (by decide) (fm_dec dtX11_stale 30 rfl) ?_
      refine pv_iloadn (pc := 50) (n := 3) 3 rfl rfl (fm_dec dtX11_stale 31 rfl) ?_
      refine pv_iS2 (d' := 0) (pc := 51) pcs_X11_283 (Nat.le_of_ble_eq_true rfl) (by decide) (fm_dec dtX11_stale 32 rfl) ?_
      refine c_hasPiece7 hn9 (by omega) (fun h51 => ?_) (fun h51 => ?_)
      · refine pv_then1 ?_
        refine pv_if_eq (pc := 54) 72 (by decide) (fm_dec dtX11_stale 33 rfl) (fun hc54 => by exfalso; revert hc54; decide) (fun _ => ?_)
        refine pv_aloadn (pc := 57) (n := 0) 0 rfl rfl (fm_dec dtX11_stale 34 rfl) ?_
        refine pv_iloadn (pc := 58) (n := 3) 3 rfl rfl (fm_dec dtX11_stale 35 rfl) ?_
        refine pv_invV1 (k := 0) (d' := 8) (pc := 59) pcv_X11_337 (by decide) rfl (Nat.le_of_ble_eq_true rfl) (by decide) (fm_dec dtX11_stale 36 rfl) ?_
        refine c_mwof h.1 hn (fun r59 M59 g59 h59 e59 => ?_)
        refine pv_then1 ?_
        refine pv_iloadn (pc := 62) (n := 1) 1 rfl rfl (fm_dec dtX11_stale 37 rfl) ?_
        refine pv_icmp_lt (pc := 63) 72 (by decide) (fm_dec dtX11_stale 38 rfl) (fun hc63 => ?_) (fun hc63 => ?_)
        · refine pv_iconst (pc := 72) (v := 0) (by decide) (fm_dec dtX11_stale 43 rfl) ?_
          refine pv_ior (pc := 73) (fm_dec dtX11_stale 44 rfl) ?_
          refine pv_istoren (pc := 74) (n := 2) 2 rfl (by decide) rfl (fm_dec dtX11_stale 45 rfl) ?_
          dsimp only [List.set_cons_zero, List.set_cons_succ]
          refine pv_iincc (pc := 75) 3 1 (by decide) rfl (by decide) rfl (fm_dec dtX11_stale 46 rfl) ?_
          dsimp only [List.set_cons_zero, List.set_cons_succ]
          refine pv_goto (pc := 78) 35 (by decide) (fm_dec dtX11_stale 47 rfl) ?_
          have e9 := bS_n (F := (fun i => !decide (S.2 i = -1) && decide (y.toInt ≤ wrS D cs S.1.2.2.1 S.1.1 i (S.2 i).toNat))) (n := n) (by rw [decide_eq_false (fun e9 : y.toInt ≤ wrS D cs S.1.2.2.1 S.1.1 n (S.2 n).toNat => by rw [sc_lt] at hc63; unfold woA at e59; rw [if_neg (fun e => h51 ((ht.no ho hn).mpr e))] at e59; omega), Bool.and_false])
          rw [nI_succ1, Int32.or_zero, ← e9]
          exact ih (D.1 - (n + 1)) (by omega) (n + 1) M59 ⟨h.1.low (fun k j _ a b => g59 k j a b) (g59 0 17 (by decide) (by decide)), (g59 0 0 (by decide) (by decide)).trans h.2⟩ (by omega) rfl hq
        · refine pv_iconst (pc := 66) (v := 1) (by decide) (fm_dec dtX11_stale 39 rfl) ?_
          refine pv_iloadn (pc := 67) (n := 3) 3 rfl rfl (fm_dec dtX11_stale 40 rfl) ?_
          refine pv_ishl (pc := 68) (fm_dec dtX11_stale 41 rfl) ?_
          refine pv_goto (pc := 69) 73 (by decide) (fm_dec dtX11_stale 42 rfl) ?_
          refine pv_ior (pc := 73) (fm_dec dtX11_stale 44 rfl) ?_
          refine pv_istoren (pc := 74) (n := 2) 2 rfl (by decide) rfl (fm_dec dtX11_stale 45 rfl) ?_
          dsimp only [List.set_cons_zero, List.set_cons_succ]
          refine pv_iincc (pc := 75) 3 1 (by decide) rfl (by decide) rfl (fm_dec dtX11_stale 46 rfl) ?_
          dsimp only [List.set_cons_zero, List.set_cons_succ]
          refine pv_goto (pc := 78) 35 (by decide) (fm_dec dtX11_stale 47 rfl) ?_
          have e9 := bS_t (F := (fun i => !decide (S.2 i = -1) && decide (y.toInt ≤ wrS D cs S.1.2.2.1 S.1.1 i (S.2 i).toNat))) (n := n) (by rw [decide_eq_false (fun e : S.2 n = -1 => h51 ((ht.no ho hn).mpr e)), decide_eq_true (show y.toInt ≤ wrS D cs S.1.2.2.1 S.1.1 n (S.2 n).toNat by rw [sc_lt] at hc63; unfold woA at e59; rw [if_neg (fun e => h51 ((ht.no ho hn).mpr e))] at e59; omega)]; rfl)
          rw [nI_succ1, or8 _ (bS_8 n (by omega)) n (by omega), ← e9]
          exact ih (D.1 - (n + 1)) (by omega) (n + 1) M59 ⟨h.1.low (fun k j _ a b => g59 k j a b) (g59 0 17 (by decide) (by decide)), (g59 0 0 (by decide) (by decide)).trans h.2⟩ (by omega) rfl hq
      · refine pv_then1 ?_
        refine pv_if_eq (pc := 54) 72 (by decide) (fm_dec dtX11_stale 33 rfl) (fun _ => ?_) (fun hc54 => by exfalso; revert hc54; decide)
        refine pv_iconst (pc := 72) (v := 0) (by decide) (fm_dec dtX11_stale 43 rfl) ?_
        refine pv_ior (pc := 73) (fm_dec dtX11_stale 44 rfl) ?_
        refine pv_istoren (pc := 74) (n := 2) 2 rfl (by decide) rfl (fm_dec dtX11_stale 45 rfl) ?_
        dsimp only [List.set_cons_zero, List.set_cons_succ]
        refine pv_iincc (pc := 75) 3 1 (by decide) rfl (by decide) rfl (fm_dec dtX11_stale 46 rfl) ?_
        dsimp only [List.set_cons_zero, List.set_cons_succ]
        refine pv_goto (pc := 78) 35 (by decide) (fm_dec dtX11_stale 47 rfl) ?_
        have e9 := bS_n (F := (fun i => !decide (S.2 i = -1) && decide (y.toInt ≤ wrS D cs S.1.2.2.1 S.1.1 i (S.2 i).toNat))) (n := n) (by rw [decide_eq_true ((ht.no ho hn).mp h51)]; rfl)
        rw [nI_succ1, Int32.or_zero, ← e9]
        exact ih (D.1 - (n + 1)) (by omega) (n + 1) M h (by omega) rfl hq
set_option maxRecDepth 20000 in
theorem c_mstale {M : fmM} {Q : fmR → fmM → Prop} {D : dD} {cs : tC} {S : aS} {y : Int32} (h : mAq M D cs S) (hn2 : ¬ (inW y 0 65) → ∀ (z : Int32) (M' : fmM), M'.1 0 0 = 1 → Q (.inl (some (.int z))) M') (hq : inW y 0 65 → ∀ (r : Int32) (M' : fmM), M'.1 0 0 = 0 → r.toInt = ((bS (fun i => !decide (S.2 i = -1) && decide (y.toInt ≤ wrS D cs S.1.2.2.1 S.1.1 i (S.2 i).toNat)) D.1 : Nat) : Int) → Q (.inl (some (.int r))) M') : pvGood Tm 40 qX11_stale [.ref 0, .int y] M Q := by
  refine pvGood_of (Nat.le_of_ble_eq_true rfl) ?_
  show pvEv Tm 40 qX11_stale 0 [some (.ref 0), some (.int y), none, none] [] M Q
  have d8 := h.1.1
  refine pv_aloadn (pc := 0) (n := 0) 0 rfl rfl (fm_dec dtX11_stale 0 rfl) ?_
  refine pv_iconst (pc := 1) (v := 0) (by decide) (fm_dec dtX11_stale 1 rfl) ?_
  refine pv_putI (k := 0) (j := 0) (ci := 11) (pc := 2) pfl_X11_101 (by decide) rfl (by decide) (fm_dec dtX11_stale 2 rfl) ?_
  refine pv_aloadn (pc := 5) (n := 0) 0 rfl rfl (fm_dec dtX11_stale 3 rfl) ?_
  refine pv_iloadn (pc := 6) (n := 1) 1 rfl rfl (fm_dec dtX11_stale 4 rfl) ?_
  refine pv_iconst (pc := 7) (v := 0) (by decide) (fm_dec dtX11_stale 5 rfl) ?_
  refine pv_bipush (pc := 8) (v := 65) (by decide) (fm_dec dtX11_stale 6 rfl) ?_
  refine pv_iS3 (d' := 0) (pc := 10) pcs_X11_135 (Nat.le_of_ble_eq_true rfl) (by decide) (fm_dec dtX11_stale 7 rfl) ?_
  refine c_in (fun h10a h10b => ?_) (fun h10 => ?_)
  · refine pv_then1 ?_
    refine pv_if_ne (pc := 13) 20 (by decide) (fm_dec dtX11_stale 8 rfl) (fun _ => ?_) (fun hc13 => by exfalso; revert hc13; decide)
    refine pv_iconst (pc := 20) (v := 0) (by decide) (fm_dec dtX11_stale 11 rfl) ?_
    refine pv_iconst (pc := 21) (v := 1) (by decide) (fm_dec dtX11_stale 12 rfl) ?_
    refine pv_iconst (pc := 22) (v := 1) (by decide) (fm_dec dtX11_stale 13 rfl) ?_
    refine pv_invV3 (k := 0) (d' := 0) (pc := 23) pcv_X11_177 (by decide) rfl (Nat.le_of_ble_eq_true rfl) (by decide) (fm_dec dtX11_stale 14 rfl) ?_
    refine c_badF1 rfl ?_
    refine pv_then1 ?_
    refine pv_if_eq (pc := 26) 31 (by decide) (fm_dec dtX11_stale 15 rfl) (fun _ => ?_) (fun hc26 => by exfalso; revert hc26; decide)
    refine pv_iconst (pc := 31) (v := 0) (by decide) (fm_dec dtX11_stale 18 rfl) ?_
    refine pv_istoren (pc := 32) (n := 2) 2 rfl (by decide) rfl (fm_dec dtX11_stale 19 rfl) ?_
    dsimp only [List.set_cons_zero, List.set_cons_succ]
    refine pv_iconst (pc := 33) (v := 0) (by decide) (fm_dec dtX11_stale 20 rfl) ?_
    refine pv_istoren (pc := 34) (n := 3) 3 rfl (by decide) rfl (fm_dec dtX11_stale 21 rfl) ?_
    dsimp only [List.set_cons_zero, List.set_cons_succ]
    exact msl_loop D.1 0 _ ⟨h.z, rfl⟩ (by omega) rfl (fun M' z => hq ⟨h10a, h10b⟩ _ _ z (nI_toInt (by have := bS_8 (F := (fun i => !decide (S.2 i = -1) && decide (y.toInt ≤ wrS D cs S.1.2.2.1 S.1.1 i (S.2 i).toNat))) D.1 (by omega); omega)))
  · refine pv_then1 ?_
    refine pv_if_ne (pc := 13) 20 (by decide) (fm_dec dtX11_stale 8 rfl) (fun hc13 => by exfalso; revert hc13; decide) (fun _ => ?_)
    refine pv_iconst (pc := 16) (v := 1) (by decide) (fm_dec dtX11_stale 9 rfl) ?_
    refine pv_goto (pc := 17) 21 (by decide) (fm_dec dtX11_stale 10 rfl) ?_
    refine pv_iconst (pc := 21) (v := 1) (by decide) (fm_dec dtX11_stale 12 rfl) ?_
    refine pv_iconst (pc := 22) (v := 1) (by decide) (fm_dec dtX11_stale 13 rfl) ?_
    refine pv_invV3 (k := 0) (d' := 0) (pc := 23) pcv_X11_177 (by decide) rfl (Nat.le_of_ble_eq_true rfl) (by decide) (fm_dec dtX11_stale 14 rfl) ?_
    refine c_badT1 rfl (by decide) ?_
    refine pv_then1 ?_
    refine pv_if_eq (pc := 26) 31 (by decide) (fm_dec dtX11_stale 15 rfl) (fun hc26 => by exfalso; revert hc26; decide) (fun _ => ?_)
    refine pv_iconst (pc := 29) (v := 0) (by decide) (fm_dec dtX11_stale 16 rfl) ?_
    exact pv_ireturn (pc := 30) rfl (fm_dec dtX11_stale 17 rfl) (hn2 (fun h9 => h10 ⟨h9.1, h9.2⟩) _ _ rfl)
theorem xe_stale {M : fmM} {D : dD} {cs : tC} {S : aS} {y : Int32} (h : xAq M D cs S) : pvGood Tx 250 qX10_stale [.ref 0, .int y] M (fun r _ => ((inW y 0 65) ∧ r = .inl (some (.int (iZ (((bS (fun i => !decide (S.2 i = -1) && decide (y.toInt ≤ wrS D cs S.1.2.2.1 S.1.1 i (S.2 i).toNat)) D.1 : Nat) : Int)))))) ∨ (¬ (inW y 0 65) ∧ r = .inr fmIAE)) := (c_xstale h (fun h => Or.inr ⟨h, rfl⟩) (fun h r M' e => Or.inl ⟨h, by rw [iZ_is e]⟩)).up (by decide)
theorem me_stale {M : fmM} {D : dD} {cs : tC} {S : aS} {y : Int32} (h : mAq M D cs S) : pvGood Tm 250 qX11_stale [.ref 0, .int y] M (fun r M' => ((inW y 0 65) ∧ r = .inl (some (.int (iZ (((bS (fun i => !decide (S.2 i = -1) && decide (y.toInt ≤ wrS D cs S.1.2.2.1 S.1.1 i (S.2 i).toNat)) D.1 : Nat) : Int))))) ∧ M'.1 0 0 = 0) ∨ (¬ (inW y 0 65) ∧ M'.1 0 0 = 1)) := (c_mstale h (fun h z M' e => Or.inr ⟨h, e⟩) (fun h r M' z e => Or.inl ⟨h, by rw [iZ_is e], z⟩)).up (by decide)
