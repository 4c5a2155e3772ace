/-- the facts of life i now -/
def fnA (D : dD) (S : aS) (i : Nat) : Nat := fbA D (i : Int) (S.1.1 : Int)
theorem fn_64 {D : dD} {S : aS} {i : Nat} (hD : dOk D) : fnA D S i < 64 := fb_64 hD _ (Nat.le_refl _)
theorem nI_inj {a b : Nat} (ha : a < 1000) (hb : b < 1000) : nI a = nI b ↔ a = b := by
  constructor
  · intro h
    have h1 := congrArg Int32.toInt h
    rw [nI_toInt (by omega), nI_toInt (by omega)] at h1
    omega
  · intro h
    rw [h]
theorem fn_eq {D : dD} {S : aS} {a b : Nat} (hD : dOk D) : nI (fnA D S a) = nI (fnA D S b) ↔ fnA D S a = fnA D S b := nI_inj (Nat.lt_trans (fn_64 hD) (by decide)) (Nat.lt_trans (fn_64 hD) (by decide))
set_option maxRecDepth 20000 in
theorem xlk2_loop {Q : fmR → fmM → Prop} {M0 : fmM} {D : dD} {cs : tC} {S : aS} (h0 : xAq M0 D cs S) : ∀ (m : Nat) (n : Nat) (M : fmM), ((∀ k j, k ≠ 44 → M.1 k j = M0.1 k j) ∧ M.2 = M0.2 ∧ ∀ j, j < n → M.1 44 j = nI (fnA D S j)) → n ≤ D.1 → D.1 - n = m → (∀ M' : fmM, (∀ k j, k ≠ 44 → M'.1 k j = M0.1 k j) → M'.2 = M0.2 → (∀ j, j < D.1 → M'.1 44 j = nI (fnA D S j)) → Q (.inl none) M') → pvEv Tx 10 qX10_look 2 [some (.ref 0), some (.int (nI n))] [] M Q := by
  intro m
  induction m using Nat.strongRecOn with
  | _ m ih =>
    intro n M h hnD hm hq
    obtain ⟨hD, hX0, -, hs0, -⟩ := h0
    have d8 := hD.1
    have hX : xdw 3 M D := hX0.of (fun k j a b => h.1 k j (by omega))
    have g2 : (M.1 47 2).toInt = (S.1.1 : Int) := by rw [h.1 47 2 (by decide)]; exact hs0.2.1
    have hn9 : (nI n).toInt = (n : Int) := nI_toInt (by omega)
    have h39 : (M.1 3 9).toInt = (D.1 : Int) := hX.1.1
    refine pv_iloadn (pc := 2) (n := 1) 1 rfl rfl (fm_dec dtX10_look 2 rfl) ?_
    refine pv_aloadn (pc := 3) (n := 0) 0 rfl rfl (fm_dec dtX10_look 3 rfl) ?_
    refine pv_getR (k := 0) (j := 1) (ci := 10) (pc := 4) 3 rfl (by decide) pfl_X10_19 (by decide) rfl (by decide) (fm_dec dtX10_look 4 rfl) ?_
    refine pv_getI (k := 3) (j := 9) (ci := 8) (pc := 7) pfl_X10_138 (by decide) rfl (by decide) (fm_dec dtX10_look 5 rfl) ?_
    refine pv_icmp_ge (pc := 10) 43 (by decide) (fm_dec dtX10_look 6 rfl) (fun hc10 => ?_) (fun hc10 => ?_)
    · exact pv_return (pc := 43) rfl (fm_dec dtX10_look 21 rfl) (by have e9 : n = D.1 := (by rw [sc_le] at hc10; omega); subst e9; exact hq M h.1 h.2.1 h.2.2)
    · have hn : n < D.1 := (by rw [sc_le] at hc10; omega)
      refine pv_aloadn (pc := 13) (n := 0) 0 rfl rfl (fm_dec dtX10_look 7 rfl) ?_
      refine pv_getR (k := 0) (j := 11) (ci := 10) (pc := 14) 44 rfl (by decide) pfl_X10_83 (by decide) rfl (by decide) (fm_dec dtX10_look 8 rfl) ?_
      refine pv_iloadn (pc := 17) (n := 1) 1 rfl rfl (fm_dec dtX10_look 9 rfl) ?_
      refine pv_aloadn (pc := 18) (n := 0) 0 rfl rfl (fm_dec dtX10_look 10 rfl) ?_
      refine pv_getR (k := 0) (j := 1) (ci := 10) (pc := 19) 3 rfl (by decide) pfl_X10_19 (by decide) rfl (by decide) (fm_dec dtX10_look 11 rfl) ?_
      refine pv_iloadn (pc := 22) (n := 1) 1 rfl rfl (fm_dec dtX10_look 12 rfl) ?_
      refine pv_aloadn (pc := 23) (n := 0) 0 rfl rfl (fm_dec dtX10_look 13 rfl) ?_
      refine pv_getR (k := 0) (j := 9) (ci := 10) (pc := 24) 46 rfl (by decide) pfl_X10_75 (by decide) rfl (by decide) (fm_dec dtX10_look 14 rfl) ?_
      refine pv_getR (k := 46) (j := 0) (ci := 5) (pc := 27) 47 rfl (by decide) pfl_X10_90 (by decide) rfl (by decide) (fm_dec dtX10_look 15 rfl) ?_
      refine pv_getI (k := 47) (j := 2) (ci := 6) (pc := 30) pfl_X10_173 (by decide) rfl (by decide) (fm_dec dtX10_look 16 rfl) ?_
      refine pv_invV2 (k := 3) (d' := 0) (pc := 33) pcv_X10_225 (by decide) rfl (Nat.le_of_ble_eq_true rfl) (by decide) (fm_dec dtX10_look 17 rfl) ?_
      refine c_xfb hD hX ?_
      refine pv_then1 ?_
      rw [hn9, g2]
      refine pv_iast (k := 44) (n := 8) (pc := 36) (by decide) rfl rfl (ix_in hn9 (by omega)) (fm_dec dtX10_look 18 rfl) ?_
      rw [i32_cl hn9]
      refine pv_iincc (pc := 37) 1 1 (by decide) rfl (by decide) rfl (fm_dec dtX10_look 19 rfl) ?_
      dsimp only [List.set_cons_zero, List.set_cons_succ]
      refine pv_goto (pc := 40) 2 (by decide) (fm_dec dtX10_look 20 rfl) ?_
      rw [nI_succ1]
      exact ih (D.1 - (n + 1)) (by omega) (n + 1) _ ⟨fun k j a => by rw [fmI_k _ _ a]; exact h.1 k j a, h.2.1, fun j hj => (by by_cases e : j = n; (subst e; rw [fmI_s]; rfl); (rw [fmI_j _ _ e]; exact h.2.2 j (by omega)))⟩ (by omega) rfl hq
set_option maxRecDepth 20000 in
theorem c_xlook {M : fmM} {Q : fmR → fmM → Prop} {D : dD} {cs : tC} {S : aS} (h : xAq M D cs S) (hq : ∀ M' : fmM, (∀ k j, k ≠ 44 → M'.1 k j = M.1 k j) → M'.2 = M.2 → (∀ j, j < D.1 → M'.1 44 j = nI (fnA D S j)) → Q (.inl none) M') : pvGood Tx 11 qX10_look [.ref 0] M Q := by
  refine pvGood_of (Nat.le_of_ble_eq_true rfl) ?_
  show pvEv Tx 11 qX10_look 0 [some (.ref 0), none] [] M Q
  refine pv_iconst (pc := 0) (v := 0) (by decide) (fm_dec dtX10_look 0 rfl) ?_
  refine pv_istoren (pc := 1) (n := 1) 1 rfl (by decide) rfl (fm_dec dtX10_look 1 rfl) ?_
  dsimp only [List.set_cons_zero, List.set_cons_succ]
  exact (xlk2_loop h D.1 0 M ⟨fun _ _ _ => rfl, rfl, fun j hj => absurd hj (Nat.not_lt_zero j)⟩ (Nat.zero_le _) rfl hq).up (by decide)
/-- the first twin of a from b on, of f; and of all, from a on -/
def twI (F : Nat → Nat) (a : Nat) : Nat → Nat → Int
  | 0, _ => -1
  | f + 1, b => if F a = F b then ((10 * a + b : Nat) : Int) else twI F a f (b + 1)
def twO (F : Nat → Nat) (L : Nat) : Nat → Nat → Int
  | 0, _ => -1
  | f + 1, a => if twI F a (L - (a + 1)) (a + 1) = -1 then twO F L f (a + 1) else twI F a (L - (a + 1)) (a + 1)
theorem tw_v {a b : Nat} (ha : a < 8) (hb : b < 8) : (10 * nI a + nI b).toInt = ((10 * a + b : Nat) : Int) := by
  have e1 : (nI a).toInt = (a : Int) := nI_toInt (by omega)
  have e2 : (nI b).toInt = (b : Int) := nI_toInt (by omega)
  have z10 : (10 : Int32).toInt = 10 := by decide
  have e3 : ((10 : Int32) * nI a).toInt = 10 * (a : Int) := by rw [sc_mul (by rw [z10, e1]; omega) (by rw [z10, e1]; omega), z10, e1]
  rw [sc_add (by omega) (by omega)]
  omega
set_option maxRecDepth 20000 in
theorem xtw_in {Q : fmR → fmM → Prop} {M : fmM} {D : dD} {S : aS} {a : Nat} (hD : dOk D) (h39 : (M.1 3 9).toInt = (D.1 : Int)) (hlk : ∀ j, j < D.1 → M.1 44 j = nI (fnA D S j)) (ha : a < D.1) : ∀ (m : Nat) (b : Nat), b + m = D.1 → (∀ r : Int32, r.toInt = twI (fnA D S) a m b → twI (fnA D S) a m b ≠ -1 → Q (.inl (some (.int r))) M) → (twI (fnA D S) a m b = -1 → pvEv Tx 30 qX10_twins 60 [some (.ref 0), some (.int (nI a)), some (.int (nI D.1))] [] M Q) → pvEv Tx 30 qX10_twins 21 [some (.ref 0), some (.int (nI a)), some (.int (nI b))] [] M Q := by
  intro m
  induction m using Nat.strongRecOn with
  | _ m ih =>
    intro b hbm hhit hmiss
    have d8 := hD.1
    have hb9 : (nI b).toInt = (b : Int) := nI_toInt (by omega)
    have ha9 : (nI a).toInt = (a : Int) := nI_toInt (by omega)
    refine pv_iloadn (pc := 21) (n := 2) 2 rfl rfl (fm_dec dtX10_twins 13 rfl) ?_
    refine pv_aloadn (pc := 22) (n := 0) 0 rfl rfl (fm_dec dtX10_twins 14 rfl) ?_
    refine pv_getR (k := 0) (j := 1) (ci := 10) (pc := 23) 3 rfl (by decide) pfl_X10_19 (by decide) rfl (by decide) (fm_dec dtX10_twins 15 rfl) ?_
    refine pv_getI (k := 3) (j := 9) (ci := 8) (pc := 26) pfl_X10_138 (by decide) rfl (by decide) (fm_dec dtX10_twins 16 rfl) ?_
    refine pv_icmp_ge (pc := 29) 60 (by decide) (fm_dec dtX10_twins 17 rfl) (fun hc29 => ?_) (fun hc29 => ?_)
    · have e9 : b = D.1 := (by rw [sc_le] at hc29; omega)
      have e8 : m = 0 := (by omega)
      subst e8
      rw [e9]
      exact hmiss rfl
    · have hb : b < D.1 := (by rw [sc_le] at hc29; omega)
      refine pv_aloadn (pc := 32) (n := 0) 0 rfl rfl (fm_dec dtX10_twins 18 rfl) ?_
      refine pv_getR (k := 0) (j := 11) (ci := 10) (pc := 33) 44 rfl (by decide) pfl_X10_83 (by decide) rfl (by decide) (fm_dec dtX10_twins 19 rfl) ?_
      refine pv_iloadn (pc := 36) (n := 1) 1 rfl rfl (fm_dec dtX10_twins 20 rfl) ?_
      refine pv_iald (k := 44) (n := 8) (pc := 37) (by decide) rfl rfl (ix_in ha9 (by omega)) (fm_dec dtX10_twins 21 rfl) ?_
      rw [i32_cl ha9, hlk a ha]
      refine pv_aloadn (pc := 38) (n := 0) 0 rfl rfl (fm_dec dtX10_twins 22 rfl) ?_
      refine pv_getR (k := 0) (j := 11) (ci := 10) (pc := 39) 44 rfl (by decide) pfl_X10_83 (by decide) rfl (by decide) (fm_dec dtX10_twins 23 rfl) ?_
      refine pv_iloadn (pc := 42) (n := 2) 2 rfl rfl (fm_dec dtX10_twins 24 rfl) ?_
      refine pv_iald (k := 44) (n := 8) (pc := 43) (by decide) rfl rfl (ix_in hb9 (by omega)) (fm_dec dtX10_twins 25 rfl) ?_
      rw [i32_cl hb9, hlk b hb]
      refine pv_icmp_ne (pc := 44) 54 (by decide) (fm_dec dtX10_twins 26 rfl) (fun hc44 => ?_) (fun hc44 => ?_)
      · refine pv_iincc (pc := 54) 2 1 (by decide) rfl (by decide) rfl (fm_dec dtX10_twins 33 rfl) ?_
        dsimp only [List.set_cons_zero, List.set_cons_succ]
        refine pv_goto (pc := 57) 21 (by decide) (fm_dec dtX10_twins 34 rfl) ?_
        obtain ⟨f, rfl⟩ : ∃ f, m = f + 1 := ⟨m - 1, by omega⟩
        have e9 : twI (fnA D S) a (f + 1) b = twI (fnA D S) a f (b + 1) := if_neg (fun e => hc44 ((fn_eq hD).mpr e))
        rw [e9] at hhit hmiss
        rw [nI_succ1]
        exact ih f (by omega) (b + 1) (by omega) hhit hmiss
      · refine pv_bipush (pc := 47) (v := 10) (by decide) (fm_dec dtX10_twins 27 rfl) ?_
        refine pv_iloadn (pc := 49) (n := 1) 1 rfl rfl (fm_dec dtX10_twins 28 rfl) ?_
        refine pv_imul (pc := 50) (fm_dec dtX10_twins 29 rfl) ?_
        refine pv_iloadn (pc := 51) (n := 2) 2 rfl rfl (fm_dec dtX10_twins 30 rfl) ?_
        refine pv_iadd (pc := 52) (fm_dec dtX10_twins 31 rfl) ?_
        exact pv_ireturn (pc := 53) rfl (fm_dec dtX10_twins 32 rfl) (by obtain ⟨f, rfl⟩ : ∃ f, m = f + 1 := ⟨m - 1, by omega⟩; have e9 : twI (fnA D S) a (f + 1) b = ((10 * a + b : Nat) : Int) := if_pos ((fn_eq hD).mp hc44); exact hhit _ (by rw [tw_v (by omega) (by omega), e9]) (by rw [e9]; omega))
set_option maxRecDepth 20000 in
theorem xtw_out {Q : fmR → fmM → Prop} {M : fmM} {D : dD} {S : aS} (hD : dOk D) (h39 : (M.1 3 9).toInt = (D.1 : Int)) (hlk : ∀ j, j < D.1 → M.1 44 j = nI (fnA D S j)) : ∀ (m : Nat) (a : Nat) (v2 : Option Value), a + m = D.1 → (∀ r : Int32, r.toInt = twO (fnA D S) D.1 m a → Q (.inl (some (.int r))) M) → pvEv Tx 30 qX10_twins 6 [some (.ref 0), some (.int (nI a)), v2] [] M Q := by
  intro m
  induction m using Nat.strongRecOn with
  | _ m ih =>
    intro a v2 ham hq
    have d8 := hD.1
    have ha9 : (nI a).toInt = (a : Int) := nI_toInt (by omega)
    refine pv_iloadn (pc := 6) (n := 1) 1 rfl rfl (fm_dec dtX10_twins 4 rfl) ?_
    refine pv_aloadn (pc := 7) (n := 0) 0 rfl rfl (fm_dec dtX10_twins 5 rfl) ?_
    refine pv_getR (k := 0) (j := 1) (ci := 10) (pc := 8) 3 rfl (by decide) pfl_X10_19 (by decide) rfl (by decide) (fm_dec dtX10_twins 6 rfl) ?_
    refine pv_getI (k := 3) (j := 9) (ci := 8) (pc := 11) pfl_X10_138 (by decide) rfl (by decide) (fm_dec dtX10_twins 7 rfl) ?_
    refine pv_icmp_ge (pc := 14) 66 (by decide) (fm_dec dtX10_twins 8 rfl) (fun hc14 => ?_) (fun hc14 => ?_)
    · refine pv_iconst (pc := 66) (v := (-1)) (by decide) (fm_dec dtX10_twins 37 rfl) ?_
      exact pv_ireturn (pc := 67) rfl (fm_dec dtX10_twins 38 rfl) (hq _ (by have e9 : m = 0 := (by rw [sc_le] at hc14; omega); subst e9; exact (by show (-1 : Int32).toInt = (-1 : Int); decide)))
    · refine pv_iloadn (pc := 17) (n := 1) 1 rfl rfl (fm_dec dtX10_twins 9 rfl) ?_
      refine pv_iconst (pc := 18) (v := 1) (by decide) (fm_dec dtX10_twins 10 rfl) ?_
      refine pv_iadd (pc := 19) (fm_dec dtX10_twins 11 rfl) ?_
      rw [nI_succ1]
      refine pv_istoren (pc := 20) (n := 2) 2 rfl (by decide) rfl (fm_dec dtX10_twins 12 rfl) ?_
      dsimp only [List.set_cons_zero, List.set_cons_succ]
      have ha : a < D.1 := (by rw [sc_le] at hc14; omega)
      obtain ⟨f, rfl⟩ : ∃ f, m = f + 1 := ⟨m - 1, by omega⟩
      refine xtw_in hD h39 hlk ha (D.1 - (a + 1)) (a + 1) (by omega) (fun r e hne => ?_) (fun hz => ?_)
      · have e9 : twO (fnA D S) D.1 (f + 1) a = twI (fnA D S) a (D.1 - (a + 1)) (a + 1) := if_neg hne
        exact hq _ (by rw [e9]; exact e)
      · refine pv_iincc (pc := 60) 1 1 (by decide) rfl (by decide) rfl (fm_dec dtX10_twins 35 rfl) ?_
        dsimp only [List.set_cons_zero, List.set_cons_succ]
        refine pv_goto (pc := 63) 6 (by decide) (fm_dec dtX10_twins 36 rfl) ?_
        have e9 : twO (fnA D S) D.1 (f + 1) a = twO (fnA D S) D.1 f (a + 1) := if_pos hz
        rw [e9] at hq
        rw [nI_succ1]
        exact ih f (by omega) (a + 1) _ (by omega) hq
set_option maxRecDepth 20000 in
theorem c_xtwins {M : fmM} {Q : fmR → fmM → Prop} {D : dD} {cs : tC} {S : aS} (h : xAq M D cs S) (hq : ∀ (r : Int32) (M' : fmM), r.toInt = twO (fnA D S) D.1 D.1 0 → Q (.inl (some (.int r))) M') : pvGood Tx 31 qX10_twins [.ref 0] M Q := by
  refine pvGood_of (Nat.le_of_ble_eq_true rfl) ?_
  show pvEv Tx 31 qX10_twins 0 [some (.ref 0), none, none] [] M Q
  have d8 := h.1.1
  refine pv_aloadn (pc := 0) (n := 0) 0 rfl rfl (fm_dec dtX10_twins 0 rfl) ?_
  refine pv_invV0 (k := 0) (d' := 11) (pc := 1) pcv_X10_331 (by decide) rfl (Nat.le_of_ble_eq_true rfl) (by decide) (fm_dec dtX10_twins 1 rfl) ?_
  refine c_xlook h (fun M1 g1 k1 l1 => ?_)
  refine pv_then0 ?_
  refine pv_iconst (pc := 4) (v := 0) (by decide) (fm_dec dtX10_twins 2 rfl) ?_
  refine pv_istoren (pc := 5) (n := 1) 1 rfl (by decide) rfl (fm_dec dtX10_twins 3 rfl) ?_
  dsimp only [List.set_cons_zero, List.set_cons_succ]
  exact (xtw_out h.1 (by rw [g1 3 9 (by decide)]; exact h.2.1.1.1) l1 D.1 0 _ (Nat.zero_add _) (fun r e => hq r _ e)).up (by decide)
set_option maxRecDepth 20000 in
theorem mtw_in {Q : fmR → fmM → Prop} {M : fmM} {D : dD} {S : aS} {a : Nat} (hD : dOk D) (hY : mdw M D) (ht : mst M D S) (ha : a < D.1) : ∀ (m : Nat) (b : Nat), b + m = D.1 → (∀ r : Int32, r.toInt = twI (fnA D S) a m b → twI (fnA D S) a m b ≠ -1 → Q (.inl (some (.int r))) M) → (twI (fnA D S) a m b = -1 → pvEv Tm 30 qX11_twins 71 [some (.ref 0), some (.int (nI a)), some (.int (nI D.1))] [] M Q) → pvEv Tm 30 qX11_twins 21 [some (.ref 0), some (.int (nI a)), some (.int (nI b))] [] M Q := by
  intro m
  induction m using Nat.strongRecOn with
  | _ m ih =>
    intro b hbm hhit hmiss
    have d8 := hD.1
    have h39 : (M.1 4 (Int32.toNatClampNeg 0)).toInt = (D.1 : Int) := hY.1
    have g2 : (M.1 7 (Int32.toNatClampNeg 10)).toInt = (S.1.1 : Int) := ht.2.1
    have hb9 : (nI b).toInt = (b : Int) := nI_toInt (by omega)
    have ha9 : (nI a).toInt = (a : Int) := nI_toInt (by omega)
    refine pv_iloadn (pc := 21) (n := 2) 2 rfl rfl (fm_dec dtX11_twins 15 rfl) ?_
    refine pv_aloadn (pc := 22) (n := 0) 0 rfl rfl (fm_dec dtX11_twins 16 rfl) ?_
    refine pv_getR (k := 0) (j := 12) (ci := 11) (pc := 23) 4 rfl (by decide) pfl_X11_23 (by decide) rfl (by decide) (fm_dec dtX11_twins 17 rfl) ?_
    refine pv_iconst (pc := 26) (v := 0) (by decide) (fm_dec dtX11_twins 18 rfl) ?_
    refine pv_iald (k := 4) (n := 6) (pc := 27) (by decide) rfl rfl (fm_inl (by decide)) (fm_dec dtX11_twins 19 rfl) ?_
    refine pv_icmp_ge (pc := 28) 71 (by decide) (fm_dec dtX11_twins 20 rfl) (fun hc28 => ?_) (fun hc28 => ?_)
    · have e9 : b = D.1 := (by rw [sc_le] at hc28; omega)
      have e8 : m = 0 := (by omega)
      subst e8
      rw [e9]
      exact hmiss rfl
    · have hb : b < D.1 := (by rw [sc_le] at hc28; omega)
      refine pv_aloadn (pc := 31) (n := 0) 0 rfl rfl (fm_dec dtX11_twins 21 rfl) ?_
      refine pv_iloadn (pc := 32) (n := 1) 1 rfl rfl (fm_dec dtX11_twins 22 rfl) ?_
      refine pv_aloadn (pc := 33) (n := 0) 0 rfl rfl (fm_dec dtX11_twins 23 rfl) ?_
      refine pv_getR (k := 0) (j := 27) (ci := 11) (pc := 34) 7 rfl (by decide) pfl_X11_61 (by decide) rfl (by decide) (fm_dec dtX11_twins 24 rfl) ?_
      refine pv_bipush (pc := 37) (v := 10) (by decide) (fm_dec dtX11_twins 25 rfl) ?_
      refine pv_iald (k := 7) (n := 14) (pc := 39) (by decide) rfl rfl (fm_inl (by decide)) (fm_dec dtX11_twins 26 rfl) ?_
      refine pv_invV2 (k := 0) (d' := 0) (pc := 40) pcv_X11_334 (by decide) rfl (Nat.le_of_ble_eq_true rfl) (by decide) (fm_dec dtX11_twins 27 rfl) ?_
      refine c_mfb hD hY ?_
      refine pv_then1 ?_
      rw [ha9, g2]
      refine pv_aloadn (pc := 43) (n := 0) 0 rfl rfl (fm_dec dtX11_twins 28 rfl) ?_
      refine pv_iloadn (pc := 44) (n := 2) 2 rfl rfl (fm_dec dtX11_twins 29 rfl) ?_
      refine pv_aloadn (pc := 45) (n := 0) 0 rfl rfl (fm_dec dtX11_twins 30 rfl) ?_
      refine pv_getR (k := 0) (j := 27) (ci := 11) (pc := 46) 7 rfl (by decide) pfl_X11_61 (by decide) rfl (by decide) (fm_dec dtX11_twins 31 rfl) ?_
      refine pv_bipush (pc := 49) (v := 10) (by decide) (fm_dec dtX11_twins 32 rfl) ?_
      refine pv_iald (k := 7) (n := 14) (pc := 51) (by decide) rfl rfl (fm_inl (by decide)) (fm_dec dtX11_twins 33 rfl) ?_
      refine pv_invV2 (k := 0) (d' := 0) (pc := 52) pcv_X11_334 (by decide) rfl (Nat.le_of_ble_eq_true rfl) (by decide) (fm_dec dtX11_twins 34 rfl) ?_
      refine c_mfb hD hY ?_
      refine pv_then1 ?_
      rw [hb9, g2]
      refine pv_icmp_ne (pc := 55) 65 (by decide) (fm_dec dtX11_twins 35 rfl) (fun hc55 => ?_) (fun hc55 => ?_)
      · refine pv_iincc (pc := 65) 2 1 (by decide) rfl (by decide) rfl (fm_dec dtX11_twins 42 rfl) ?_
        dsimp only [List.set_cons_zero, List.set_cons_succ]
        refine pv_goto (pc := 68) 21 (by decide) (fm_dec dtX11_twins 43 rfl) ?_
        obtain ⟨f, rfl⟩ : ∃ f, m = f + 1 := ⟨m - 1, by omega⟩
        have e9 : twI (fnA D S) a (f + 1) b = twI (fnA D S) a f (b + 1) := if_neg (fun e => hc55 ((fn_eq hD).mpr e))
        rw [e9] at hhit hmiss
        rw [nI_succ1]
        exact ih f (by omega) (b + 1) (by omega) hhit hmiss
      · refine pv_bipush (pc := 58) (v := 10) (by decide) (fm_dec dtX11_twins 36 rfl) ?_
        refine pv_iloadn (pc := 60) (n := 1) 1 rfl rfl (fm_dec dtX11_twins 37 rfl) ?_
        refine pv_imul (pc := 61) (fm_dec dtX11_twins 38 rfl) ?_
        refine pv_iloadn (pc := 62) (n := 2) 2 rfl rfl (fm_dec dtX11_twins 39 rfl) ?_
        refine pv_iadd (pc := 63) (fm_dec dtX11_twins 40 rfl) ?_
        exact pv_ireturn (pc := 64) rfl (fm_dec dtX11_twins 41 rfl) (by obtain ⟨f, rfl⟩ : ∃ f, m = f + 1 := ⟨m - 1, by omega⟩; have e9 : twI (fnA D S) a (f + 1) b = ((10 * a + b : Nat) : Int) := if_pos ((fn_eq hD).mp hc55); exact hhit _ (by rw [tw_v (by omega) (by omega), e9]) (by rw [e9]; omega))
set_option maxRecDepth 20000 in
theorem mtw_out {Q : fmR → fmM → Prop} {M : fmM} {D : dD} {S : aS} (hD : dOk D) (hY : mdw M D) (ht : mst M D S) : ∀ (m : Nat) (a : Nat) (v2 : Option Value), a + m = D.1 → (∀ r : Int32, r.toInt = twO (fnA D S) D.1 m a → Q (.inl (some (.int r))) M) → pvEv Tm 30 qX11_twins 7 [some (.ref 0), some (.int (nI a)), v2] [] M Q := by
  intro m
  induction m using Nat.strongRecOn with
  | _ m ih =>
    intro a v2 ham hq
    have d8 := hD.1
    have h39 : (M.1 4 (Int32.toNatClampNeg 0)).toInt = (D.1 : Int) := hY.1
    have g2 : (M.1 7 (Int32.toNatClampNeg 10)).toInt = (S.1.1 : Int) := ht.2.1
    have ha9 : (nI a).toInt = (a : Int) := nI_toInt (by omega)
    refine pv_iloadn (pc := 7) (n := 1) 1 rfl rfl (fm_dec dtX11_twins 5 rfl) ?_
    refine pv_aloadn (pc := 8) (n := 0) 0 rfl rfl (fm_dec dtX11_twins 6 rfl) ?_
    refine pv_getR (k := 0) (j := 12) (ci := 11) (pc := 9) 4 rfl (by decide) pfl_X11_23 (by decide) rfl (by decide) (fm_dec dtX11_twins 7 rfl) ?_
    refine pv_iconst (pc := 12) (v := 0) (by decide) (fm_dec dtX11_twins 8 rfl) ?_
    refine pv_iald (k := 4) (n := 6) (pc := 13) (by decide) rfl rfl (fm_inl (by decide)) (fm_dec dtX11_twins 9 rfl) ?_
    refine pv_icmp_ge (pc := 14) 77 (by decide) (fm_dec dtX11_twins 10 rfl) (fun hc14 => ?_) (fun hc14 => ?_)
    · refine pv_iconst (pc := 77) (v := (-1)) (by decide) (fm_dec dtX11_twins 46 rfl) ?_
      exact pv_ireturn (pc := 78) rfl (fm_dec dtX11_twins 47 rfl) (hq _ (by have e9 : m = 0 := (by rw [sc_le] at hc14; omega); subst e9; exact (by show (-1 : Int32).toInt = (-1 : Int); decide)))
    · refine pv_iloadn (pc := 17) (n := 1) 1 rfl rfl (fm_dec dtX11_twins 11 rfl) ?_
      refine pv_iconst (pc := 18) (v := 1) (by decide) (fm_dec dtX11_twins 12 rfl) ?_
      refine pv_iadd (pc := 19) (fm_dec dtX11_twins 13 rfl) ?_
      rw [nI_succ1]
      refine pv_istoren (pc := 20) (n := 2) 2 rfl (by decide) rfl (fm_dec dtX11_twins 14 rfl) ?_
      dsimp only [List.set_cons_zero, List.set_cons_succ]
      have ha : a < D.1 := (by rw [sc_le] at hc14; omega)
      obtain ⟨f, rfl⟩ : ∃ f, m = f + 1 := ⟨m - 1, by omega⟩
      refine mtw_in hD hY ht ha (D.1 - (a + 1)) (a + 1) (by omega) (fun r e hne => ?_) (fun hz => ?_)
      · have e9 : twO (fnA D S) D.1 (f + 1) a = twI (fnA D S) a (D.1 - (a + 1)) (a + 1) := if_neg hne
        exact hq _ (by rw [e9]; exact e)
      · refine pv_iincc (pc := 71) 1 1 (by decide) rfl (by decide) rfl (fm_dec dtX11_twins 44 rfl) ?_
        dsimp only [List.set_cons_zero, List.set_cons_succ]
        refine pv_goto (pc := 74) 7 (by decide) (fm_dec dtX11_twins 45 rfl) ?_
        have e9 : twO (fnA D S) D.1 (f + 1) a = twO (fnA D S) D.1 f (a + 1) := if_pos hz
        rw [e9] at hq
        rw [nI_succ1]
        exact ih f (by omega) (a + 1) _ (by omega) hq
set_option maxRecDepth 20000 in
theorem c_mtwins {M : fmM} {Q : fmR → fmM → Prop} {D : dD} {cs : tC} {S : aS} (h : mAq M D cs S) (hq : ∀ (r : Int32) (M' : fmM), M'.1 0 0 = 0 → r.toInt = twO (fnA D S) D.1 D.1 0 → Q (.inl (some (.int r))) M') : pvGood Tm 31 qX11_twins [.ref 0] M Q := by
  refine pvGood_of (Nat.le_of_ble_eq_true rfl) ?_
  show pvEv Tm 31 qX11_twins 0 [some (.ref 0), none, none] [] M Q
  refine pv_aloadn (pc := 0) (n := 0) 0 rfl rfl (fm_dec dtX11_twins 0 rfl) ?_
  refine pv_iconst (pc := 1) (v := 0) (by decide) (fm_dec dtX11_twins 1 rfl) ?_
  refine pv_putI (k := 0) (j := 0) (ci := 11) (pc := 2) pfl_X11_101 (by decide) rfl (by decide) (fm_dec dtX11_twins 2 rfl) ?_
  refine pv_iconst (pc := 5) (v := 0) (by decide) (fm_dec dtX11_twins 3 rfl) ?_
  refine pv_istoren (pc := 6) (n := 1) 1 rfl (by decide) rfl (fm_dec dtX11_twins 4 rfl) ?_
  dsimp only [List.set_cons_zero, List.set_cons_succ]
  exact (mtw_out (h.z (x := 0)).1 (h.z (x := 0)).2.1 (h.z (x := 0)).2.2.2.2.1 D.1 0 _ (Nat.zero_add _) (fun r e => hq r _ rfl e)).up (by decide)
theorem xe_twins {M : fmM} {D : dD} {cs : tC} {S : aS} (h : xAq M D cs S) : pvGood Tx 250 qX10_twins [.ref 0] M (fun r _ => r = .inl (some (.int (iZ (twO (fnA D S) D.1 D.1 0))))) := (c_xtwins h (fun r M' e => by rw [iZ_is e])).up (by decide)
theorem me_twins {M : fmM} {D : dD} {cs : tC} {S : aS} (h : mAq M D cs S) : pvGood Tm 250 qX11_twins [.ref 0] M (fun r M' => r = .inl (some (.int (iZ (twO (fnA D S) D.1 D.1 0))))) := (c_mtwins h (fun r M' z e => by rw [iZ_is e])).up (by decide)
