/-- the oldest piece of the first n -/
def olS (S : aS) : Nat → Int
  | 0 => -1
  | n + 1 => if S.2 n = -1 then olS S n else if olS S n = -1 ∨ S.2 (olS S n).toNat < S.2 n then (n : Int) else olS S n
theorem ol_b {S : aS} : ∀ n, -1 ≤ olS S n ∧ olS S n < (n : Int) := by
  intro n
  induction n with
  | zero => exact ⟨Int.le_refl _, (by show (-1 : Int) < ((0 : Nat) : Int); decide)⟩
  | succ n ih =>
    unfold olS
    split
    · omega
    · split <;> omega
theorem ol_p {S : aS} : ∀ n, olS S n ≠ -1 → S.2 (olS S n).toNat ≠ -1 := by
  intro n
  induction n with
  | zero => intro h; exact absurd rfl h
  | succ n ih =>
    intro h
    unfold olS at h ⊢
    split
    · rename_i h1
      rw [if_pos h1] at h
      exact ih h
    · rename_i h1
      rw [if_neg h1] at h
      split
      · rename_i h2
        rw [Int.toNat_natCast]
        exact h1
      · rename_i h2
        rw [if_neg h2] at h
        exact ih h
theorem ol_0 {S : aS} {n : Nat} (h : S.2 n = -1) : olS S (n + 1) = olS S n := if_pos h
theorem ol_1 {S : aS} {n : Nat} (h : ¬ S.2 n = -1) (h2 : olS S n = -1 ∨ S.2 (olS S n).toNat < S.2 n) : olS S (n + 1) = (n : Int) := (if_neg h).trans (if_pos h2)
theorem ol_2 {S : aS} {n : Nat} (h : ¬ S.2 n = -1) (h2 : ¬ (olS S n = -1 ∨ S.2 (olS S n).toNat < S.2 n)) : olS S (n + 1) = olS S n := (if_neg h).trans (if_neg h2)
set_option maxRecDepth 20000 in
theorem xol_loop {Q : fmR → fmM → Prop} {M : fmM} {D : dD} {cs : tC} {S : aS} (h : xAq M D cs S) : ∀ (m : Nat) (n : Nat) (w a : Int32), n ≤ D.1 → D.1 - n = m → w.toInt = olS S n → a.toInt = (if olS S n = -1 then -1 else S.2 (olS S n).toNat) → (∀ (r : Int32) (M' : fmM), r.toInt = olS S D.1 → Q (.inl (some (.int r))) M') → pvEv Tx 40 qX10_oldest 6 [some (.ref 0), some (.int w), some (.int a), some (.int (nI n))] [] M Q := by
  intro m
  induction m using Nat.strongRecOn with
  | _ m ih =>
    intro n w a hnD hm hw ha hq
    obtain ⟨hD, hX, hL, hs, ho⟩ := h
    have d8 := hD.1
    have hn9 : (nI n).toInt = (n : Int) := nI_toInt (by omega)
    have h39 : (M.1 3 9).toInt = (D.1 : Int) := hX.1.1
    refine pv_iloadn (pc := 6) (n := 3) 3 rfl rfl (fm_dec dtX10_oldest 6 rfl) ?_
    refine pv_aloadn (pc := 7) (n := 0) 0 rfl rfl (fm_dec dtX10_oldest 7 rfl) ?_
    refine pv_getR (k := 0) (j := 1) (ci := 10) (pc := 8) 3 rfl (by decide) pfl_X10_19 (by decide) rfl (by decide) (fm_dec dtX10_oldest 8 rfl) ?_
    refine pv_getI (k := 3) (j := 9) (ci := 8) (pc := 11) pfl_X10_138 (by decide) rfl (by decide) (fm_dec dtX10_oldest 9 rfl) ?_
    refine pv_icmp_ge (pc := 14) 54 (by decide) (fm_dec dtX10_oldest 10 rfl) (fun hc14 => ?_) (fun hc14 => ?_)
    · refine pv_iloadn (pc := 54) (n := 1) 1 rfl rfl (fm_dec dtX10_oldest 30 rfl) ?_
      exact pv_ireturn (pc := 55) rfl (fm_dec dtX10_oldest 31 rfl) (by have e9 : n = D.1 := (by rw [sc_le] at hc14; omega); subst e9; exact hq _ _ hw)
    · have hn : n < D.1 := (by rw [sc_le] at hc14; omega)
      have g := ag_x hs hn
      have ab := ag_b ho hn
      have ob := ol_b (S := S) n
      have op := ol_p (S := S) n
      refine pv_aloadn (pc := 17) (n := 0) 0 rfl rfl (fm_dec dtX10_oldest 11 rfl) ?_
      refine pv_getR (k := 0) (j := 9) (ci := 10) (pc := 18) 46 rfl (by decide) pfl_X10_75 (by decide) rfl (by decide) (fm_dec dtX10_oldest 12 rfl) ?_
      refine pv_getR (k := 46) (j := 0) (ci := 5) (pc := 21) 47 rfl (by decide) pfl_X10_90 (by decide) rfl (by decide) (fm_dec dtX10_oldest 13 rfl) ?_
      refine pv_getR (k := 47) (j := 0) (ci := 6) (pc := 24) 48 rfl (by decide) pfl_X10_219 (by decide) rfl (by decide) (fm_dec dtX10_oldest 14 rfl) ?_
      refine pv_iloadn (pc := 27) (n := 3) 3 rfl rfl (fm_dec dtX10_oldest 15 rfl) ?_
      refine pv_iald (k := 48) (n := 8) (pc := 28) (by decide) rfl rfl (ix_in hn9 (by omega)) (fm_dec dtX10_oldest 16 rfl) ?_
      rw [i32_cl hn9]
      refine pv_iloadn (pc := 29) (n := 2) 2 rfl rfl (fm_dec dtX10_oldest 17 rfl) ?_
      refine pv_icmp_le (pc := 30) 48 (by decide) (fm_dec dtX10_oldest 18 rfl) (fun hc30 => ?_) (fun hc30 => ?_)
      · refine pv_iincc (pc := 48) 3 1 (by decide) rfl (by decide) rfl (fm_dec dtX10_oldest 28 rfl) ?_
        dsimp only [List.set_cons_zero, List.set_cons_succ]
        refine pv_goto (pc := 51) 6 (by decide) (fm_dec dtX10_oldest 29 rfl) ?_
        rw [nI_succ1]
        have e9 : olS S (n + 1) = olS S n := (by by_cases e : S.2 n = -1; exact ol_0 e; (refine ol_2 e ?_; rw [sc_le] at hc30; rw [ha] at hc30; by_cases e2 : olS S n = -1; (rw [if_pos e2] at hc30; omega); (rw [if_neg e2] at hc30; omega)))
        exact ih (D.1 - (n + 1)) (by omega) (n + 1) _ _ (by omega) rfl (by rw [e9]; exact hw) (by rw [e9]; exact ha) hq
      · refine pv_aloadn (pc := 33) (n := 0) 0 rfl rfl (fm_dec dtX10_oldest 19 rfl) ?_
        refine pv_getR (k := 0) (j := 9) (ci := 10) (pc := 34) 46 rfl (by decide) pfl_X10_75 (by decide) rfl (by decide) (fm_dec dtX10_oldest 20 rfl) ?_
        refine pv_getR (k := 46) (j := 0) (ci := 5) (pc := 37) 47 rfl (by decide) pfl_X10_90 (by decide) rfl (by decide) (fm_dec dtX10_oldest 21 rfl) ?_
        refine pv_getR (k := 47) (j := 0) (ci := 6) (pc := 40) 48 rfl (by decide) pfl_X10_219 (by decide) rfl (by decide) (fm_dec dtX10_oldest 22 rfl) ?_
        refine pv_iloadn (pc := 43) (n := 3) 3 rfl rfl (fm_dec dtX10_oldest 23 rfl) ?_
        refine pv_iald (k := 48) (n := 8) (pc := 44) (by decide) rfl rfl (ix_in hn9 (by omega)) (fm_dec dtX10_oldest 24 rfl) ?_
        rw [i32_cl hn9]
        refine pv_istoren (pc := 45) (n := 2) 2 rfl (by decide) rfl (fm_dec dtX10_oldest 25 rfl) ?_
        dsimp only [List.set_cons_zero, List.set_cons_succ]
        refine pv_iloadn (pc := 46) (n := 3) 3 rfl rfl (fm_dec dtX10_oldest 26 rfl) ?_
        refine pv_istoren (pc := 47) (n := 1) 1 rfl (by decide) rfl (fm_dec dtX10_oldest 27 rfl) ?_
        dsimp only [List.set_cons_zero, List.set_cons_succ]
        refine pv_iincc (pc := 48) 3 1 (by decide) rfl (by decide) rfl (fm_dec dtX10_oldest 28 rfl) ?_
        dsimp only [List.set_cons_zero, List.set_cons_succ]
        refine pv_goto (pc := 51) 6 (by decide) (fm_dec dtX10_oldest 29 rfl) ?_
        rw [nI_succ1]
        have hne : ¬ S.2 n = -1 := (by rw [sc_le] at hc30; rw [ha] at hc30; by_cases e2 : olS S n = -1; (rw [if_pos e2] at hc30; omega); (rw [if_neg e2] at hc30; have := op e2; intro e; have h8 := ho.2.2.2.2.2.2.1 (olS S n).toNat (by omega); omega))
        have e9 : olS S (n + 1) = (n : Int) := (by refine ol_1 hne ?_; rw [sc_le] at hc30; rw [ha] at hc30; by_cases e2 : olS S n = -1; exact Or.inl e2; (rw [if_neg e2] at hc30; exact Or.inr (by omega)))
        exact ih (D.1 - (n + 1)) (by omega) (n + 1) _ _ (by omega) rfl (by rw [e9]; exact hn9) (by rw [e9, if_neg (by omega), Int.toNat_natCast]; exact g) hq
set_option maxRecDepth 20000 in
theorem c_xoldest {M : fmM} {Q : fmR → fmM → Prop} {D : dD} {cs : tC} {S : aS} (h : xAq M D cs S) (hq : ∀ (r : Int32) (M' : fmM), r.toInt = olS S D.1 → Q (.inl (some (.int r))) M') : pvGood Tx 40 qX10_oldest [.ref 0] M Q := by
  refine pvGood_of (Nat.le_of_ble_eq_true rfl) ?_
  show pvEv Tx 40 qX10_oldest 0 [some (.ref 0), none, none, none] [] M Q
  refine pv_iconst (pc := 0) (v := (-1)) (by decide) (fm_dec dtX10_oldest 0 rfl) ?_
  refine pv_istoren (pc := 1) (n := 1) 1 rfl (by decide) rfl (fm_dec dtX10_oldest 1 rfl) ?_
  dsimp only [List.set_cons_zero, List.set_cons_succ]
  refine pv_iconst (pc := 2) (v := (-1)) (by decide) (fm_dec dtX10_oldest 2 rfl) ?_
  refine pv_istoren (pc := 3) (n := 2) 2 rfl (by decide) rfl (fm_dec dtX10_oldest 3 rfl) ?_
  dsimp only [List.set_cons_zero, List.set_cons_succ]
  refine pv_iconst (pc := 4) (v := 0) (by decide) (fm_dec dtX10_oldest 4 rfl) ?_
  refine pv_istoren (pc := 5) (n := 3) 3 rfl (by decide) rfl (fm_dec dtX10_oldest 5 rfl) ?_
  dsimp only [List.set_cons_zero, List.set_cons_succ]
  have d8 := h.1.1
  exact xol_loop h D.1 0 _ _ (by omega) rfl (by show (-1 : Int32).toInt = (-1 : Int); decide) (by rw [if_pos (show olS S 0 = -1 from rfl)]; decide) hq
set_option maxRecDepth 20000 in
theorem mol_loop {Q : fmR → fmM → Prop} {M : fmM} {D : dD} {cs : tC} {S : aS} (h : mAq M D cs S) (z : M.1 0 0 = 0) : ∀ (m : Nat) (n : Nat) (w : Int32), n ≤ D.1 → D.1 - n = m → w.toInt = olS S n → (∀ (r : Int32) (M' : fmM), M'.1 0 0 = 0 → r.toInt = olS S D.1 → Q (.inl (some (.int r))) M') → pvEv Tm 40 qX11_oldest 9 [some (.ref 0), some (.int w), some (.int (nI n))] [] M Q := by
  intro m
  induction m using Nat.strongRecOn with
  | _ m ih =>
    intro n w hnD hm hw hq
    obtain ⟨hD, hY, hM, hd, ht, ho⟩ := h
    have d8 := hD.1
    have hn9 : (nI n).toInt = (n : Int) := nI_toInt (by omega)
    have h39 : (M.1 4 (Int32.toNatClampNeg 0)).toInt = (D.1 : Int) := hY.1
    refine pv_iloadn (pc := 9) (n := 2) 2 rfl rfl (fm_dec dtX11_oldest 7 rfl) ?_
    refine pv_aloadn (pc := 10) (n := 0) 0 rfl rfl (fm_dec dtX11_oldest 8 rfl) ?_
    refine pv_getR (k := 0) (j := 12) (ci := 11) (pc := 11) 4 rfl (by decide) pfl_X11_23 (by decide) rfl (by decide) (fm_dec dtX11_oldest 9 rfl) ?_
    refine pv_iconst (pc := 14) (v := 0) (by decide) (fm_dec dtX11_oldest 10 rfl) ?_
    refine pv_iald (k := 4) (n := 6) (pc := 15) (by decide) rfl rfl (fm_inl (by decide)) (fm_dec dtX11_oldest 11 rfl) ?_
    refine pv_icmp_ge (pc := 16) 62 (by decide) (fm_dec dtX11_oldest 12 rfl) (fun hc16 => ?_) (fun hc16 => ?_)
    · refine pv_iloadn (pc := 62) (n := 1) 1 rfl rfl (fm_dec dtX11_oldest 38 rfl) ?_
      exact pv_ireturn (pc := 63) rfl (fm_dec dtX11_oldest 39 rfl) (by have e9 : n = D.1 := (by rw [sc_le] at hc16; omega); subst e9; exact hq _ _ z hw)
    · have hn : n < D.1 := (by rw [sc_le] at hc16; omega)
      have h1i := one_i (i := n) (by omega)
      have ab := ag_b ho hn
      have ob := ol_b (S := S) n
      have op := ol_p (S := S) n
      have w2 := ho.1
      have g := ht.2.2.2.2.2.2 n hn
      refine pv_aloadn (pc := 19) (n := 0) 0 rfl rfl (fm_dec dtX11_oldest 13 rfl) ?_
      refine pv_getR (k := 0) (j := 27) (ci := 11) (pc := 20) 7 rfl (by decide) pfl_X11_61 (by decide) rfl (by decide) (fm_dec dtX11_oldest 14 rfl) ?_
      refine pv_iloadn (pc := 23) (n := 2) 2 rfl rfl (fm_dec dtX11_oldest 15 rfl) ?_
      refine pv_iS2 (d' := 0) (pc := 24) pcs_X11_283 (Nat.le_of_ble_eq_true rfl) (by decide) (fm_dec dtX11_oldest 16 rfl) ?_
      refine c_hasPiece7 hn9 (by omega) (fun h24 => ?_) (fun h24 => ?_)
      · refine pv_then1 ?_
        refine pv_if_eq (pc := 27) 56 (by decide) (fm_dec dtX11_oldest 17 rfl) (fun hc27 => by exfalso; revert hc27; decide) (fun _ => ?_)
        have hne : ¬ S.2 n = -1 := (fun e => h24 ((ht.no ho hn).mpr e))
        rw [if_neg hne] at g
        refine pv_iloadn (pc := 30) (n := 1) 1 rfl rfl (fm_dec dtX11_oldest 18 rfl) ?_
        refine pv_iconst (pc := 31) (v := (-1)) (by decide) (fm_dec dtX11_oldest 19 rfl) ?_
        refine pv_icmp_eq (pc := 32) 54 (by decide) (fm_dec dtX11_oldest 20 rfl) (fun hc32 => ?_) (fun hc32 => ?_)
        · refine pv_iloadn (pc := 54) (n := 2) 2 rfl rfl (fm_dec dtX11_oldest 34 rfl) ?_
          refine pv_istoren (pc := 55) (n := 1) 1 rfl (by decide) rfl (fm_dec dtX11_oldest 35 rfl) ?_
          dsimp only [List.set_cons_zero, List.set_cons_succ]
          refine pv_iincc (pc := 56) 2 1 (by decide) rfl (by decide) rfl (fm_dec dtX11_oldest 36 rfl) ?_
          dsimp only [List.set_cons_zero, List.set_cons_succ]
          refine pv_goto (pc := 59) 9 (by decide) (fm_dec dtX11_oldest 37 rfl) ?_
          rw [nI_succ1]
          have e9 := ol_1 hne (Or.inl (show olS S n = -1 by rw [← hw, hc32]; decide))
          exact ih (D.1 - (n + 1)) (by omega) (n + 1) _ (by omega) rfl (by rw [e9]; exact hn9) hq
        · have e2 : ¬ olS S n = -1 := (fun e => hc32 (i32_ext (hw.trans (by rw [e]; decide))))
          have g2 := ht.2.2.2.2.2.2 (olS S n).toNat (by omega)
          rw [if_neg (op e2)] at g2
          have h1w : (1 + w).toInt = ((1 + (olS S n).toNat : Nat) : Int) := (by have z1 : (1 : Int32).toInt = 1 := (by decide); rw [sc_add (by omega) (by omega)]; omega)
          refine pv_aloadn (pc := 35) (n := 0) 0 rfl rfl (fm_dec dtX11_oldest 21 rfl) ?_
          refine pv_getR (k := 0) (j := 27) (ci := 11) (pc := 36) 7 rfl (by decide) pfl_X11_61 (by decide) rfl (by decide) (fm_dec dtX11_oldest 22 rfl) ?_
          refine pv_iconst (pc := 39) (v := 1) (by decide) (fm_dec dtX11_oldest 23 rfl) ?_
          refine pv_iloadn (pc := 40) (n := 2) 2 rfl rfl (fm_dec dtX11_oldest 24 rfl) ?_
          refine pv_iadd (pc := 41) (fm_dec dtX11_oldest 25 rfl) ?_
          refine pv_iald (k := 7) (n := 14) (pc := 42) (by decide) rfl rfl (ix_in h1i (by omega)) (fm_dec dtX11_oldest 26 rfl) ?_
          rw [i32_cl h1i]
          refine pv_aloadn (pc := 43) (n := 0) 0 rfl rfl (fm_dec dtX11_oldest 27 rfl) ?_
          refine pv_getR (k := 0) (j := 27) (ci := 11) (pc := 44) 7 rfl (by decide) pfl_X11_61 (by decide) rfl (by decide) (fm_dec dtX11_oldest 28 rfl) ?_
          refine pv_iconst (pc := 47) (v := 1) (by decide) (fm_dec dtX11_oldest 29 rfl) ?_
          refine pv_iloadn (pc := 48) (n := 1) 1 rfl rfl (fm_dec dtX11_oldest 30 rfl) ?_
          refine pv_iadd (pc := 49) (fm_dec dtX11_oldest 31 rfl) ?_
          refine pv_iald (k := 7) (n := 14) (pc := 50) (by decide) rfl rfl (ix_in h1w (by omega)) (fm_dec dtX11_oldest 32 rfl) ?_
          rw [i32_cl h1w]
          refine pv_icmp_ge (pc := 51) 56 (by decide) (fm_dec dtX11_oldest 33 rfl) (fun hc51 => ?_) (fun hc51 => ?_)
          · refine pv_iincc (pc := 56) 2 1 (by decide) rfl (by decide) rfl (fm_dec dtX11_oldest 36 rfl) ?_
            dsimp only [List.set_cons_zero, List.set_cons_succ]
            refine pv_goto (pc := 59) 9 (by decide) (fm_dec dtX11_oldest 37 rfl) ?_
            rw [nI_succ1]
            have e9 := ol_2 hne (by rw [sc_le] at hc51; rintro (e | e); exact e2 e; omega)
            exact ih (D.1 - (n + 1)) (by omega) (n + 1) _ (by omega) rfl (by rw [e9]; exact hw) hq
          · refine pv_iloadn (pc := 54) (n := 2) 2 rfl rfl (fm_dec dtX11_oldest 34 rfl) ?_
            refine pv_istoren (pc := 55) (n := 1) 1 rfl (by decide) rfl (fm_dec dtX11_oldest 35 rfl) ?_
            dsimp only [List.set_cons_zero, List.set_cons_succ]
            refine pv_iincc (pc := 56) 2 1 (by decide) rfl (by decide) rfl (fm_dec dtX11_oldest 36 rfl) ?_
            dsimp only [List.set_cons_zero, List.set_cons_succ]
            refine pv_goto (pc := 59) 9 (by decide) (fm_dec dtX11_oldest 37 rfl) ?_
            rw [nI_succ1]
            have e9 := ol_1 hne (Or.inr (by rw [sc_le] at hc51; omega))
            exact ih (D.1 - (n + 1)) (by omega) (n + 1) _ (by omega) rfl (by rw [e9]; exact hn9) hq
      · refine pv_then1 ?_
        refine pv_if_eq (pc := 27) 56 (by decide) (fm_dec dtX11_oldest 17 rfl) (fun _ => ?_) (fun hc27 => by exfalso; revert hc27; decide)
        refine pv_iincc (pc := 56) 2 1 (by decide) rfl (by decide) rfl (fm_dec dtX11_oldest 36 rfl) ?_
        dsimp only [List.set_cons_zero, List.set_cons_succ]
        refine pv_goto (pc := 59) 9 (by decide) (fm_dec dtX11_oldest 37 rfl) ?_
        rw [nI_succ1]
        have e9 := ol_0 ((ht.no ho hn).mp h24)
        exact ih (D.1 - (n + 1)) (by omega) (n + 1) _ (by omega) rfl (by rw [e9]; exact hw) hq
set_option maxRecDepth 20000 in
theorem c_moldest {M : fmM} {Q : fmR → fmM → Prop} {D : dD} {cs : tC} {S : aS} (h : mAq M D cs S) (hq : ∀ (r : Int32) (M' : fmM), M'.1 0 0 = 0 → r.toInt = olS S D.1 → Q (.inl (some (.int r))) M') : pvGood Tm 40 qX11_oldest [.ref 0] M Q := by
  refine pvGood_of (Nat.le_of_ble_eq_true rfl) ?_
  show pvEv Tm 40 qX11_oldest 0 [some (.ref 0), none, none] [] M Q
  refine pv_aloadn (pc := 0) (n := 0) 0 rfl rfl (fm_dec dtX11_oldest 0 rfl) ?_
  refine pv_iconst (pc := 1) (v := 0) (by decide) (fm_dec dtX11_oldest 1 rfl) ?_
  refine pv_putI (k := 0) (j := 0) (ci := 11) (pc := 2) pfl_X11_101 (by decide) rfl (by decide) (fm_dec dtX11_oldest 2 rfl) ?_
  refine pv_iconst (pc := 5) (v := (-1)) (by decide) (fm_dec dtX11_oldest 3 rfl) ?_
  refine pv_istoren (pc := 6) (n := 1) 1 rfl (by decide) rfl (fm_dec dtX11_oldest 4 rfl) ?_
  dsimp only [List.set_cons_zero, List.set_cons_succ]
  refine pv_iconst (pc := 7) (v := 0) (by decide) (fm_dec dtX11_oldest 5 rfl) ?_
  refine pv_istoren (pc := 8) (n := 2) 2 rfl (by decide) rfl (fm_dec dtX11_oldest 6 rfl) ?_
  dsimp only [List.set_cons_zero, List.set_cons_succ]
  have d8 := h.1.1
  exact mol_loop h.z rfl D.1 0 _ (by omega) rfl (by show (-1 : Int32).toInt = (-1 : Int); decide) hq
theorem xe_oldest {M : fmM} {D : dD} {cs : tC} {S : aS} (h : xAq M D cs S) : pvGood Tx 250 qX10_oldest [.ref 0] M (fun r _ => r = .inl (some (.int (iZ (olS S D.1))))) := (c_xoldest h (fun r M' e => by rw [iZ_is e])).up (by decide)
theorem me_oldest {M : fmM} {D : dD} {cs : tC} {S : aS} (h : mAq M D cs S) : pvGood Tm 250 qX11_oldest [.ref 0] M (fun r M' => r = .inl (some (.int (iZ (olS S D.1))))) := (c_moldest h (fun r M' z e => by rw [iZ_is e])).up (by decide)
