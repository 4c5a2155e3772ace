/-- the facts of life i now -/
def fnA (D : dD) (S : aS) (i : Nat) : Nat := fbA D (i : Int) (S.1.1 : Int)
theorem fn_64 {D : dD} {S : aS} {i : Nat} (hD : dOk D) : fnA D S i < 64 := fb_64 hD _ (Nat.le_refl _)
theorem nI_inj {a b : Nat} (ha : a < 1000) (hb : b < 1000) : nI a = nI b ↔ a = b := by
  constructor
  · intro h
    have h1 := congrArg Int32.toInt h
    rw [nI_toInt (by omega), nI_toInt (by omega)] at h1
    omega
  · intro h
    rw [h]
theorem fn_eq {D : dD} {S : aS} {a b : Nat} (hD : dOk D) : nI (fnA D S a) = nI (fnA D S b) ↔ fnA D S a = fnA D S b := nI_inj (Nat.lt_trans (fn_64 hD) (by decide)) (Nat.lt_trans (fn_64 hD) (by decide))
set_option maxRecDepth 20000 in
theorem xlk2_loop {Q : fmR → fmM → Prop} {M0 : fmM} {D : dD} {cs : tC} {S : aS} (h0 : xAq M0 D cs S) : ∀ (m : Nat) (n : Nat) (M : fmM), ((∀ k j, k ≠ 44 → M.1 k j = M0.1 k j) ∧ M.2 = M0.2 ∧ ∀ j, j < n → M.1 44 j = nI (fnA D S j)) → n ≤ D.1 → D.1 - n = m → (∀ M' : fmM, (∀ k j, k ≠ 44 → M'.1 k j = M0.1 k j) → M'.2 = M0.2 → (∀ j, j < D.1 → M'.1 44 j = nI (fnA D S j)) → Q (.inl none) M') → pvEv Tx 10 qX10_look 2 [some (.ref 0), some (.int (nI n))] [] M Q := by
  intro m
  induction m using Nat.strongRecOn with
  | _ m ih =>
    intro n M h hnD hm hq
    obtain ⟨hD, hX0, -, hs0, -⟩ := h0
    have d8 := hD.1
    have hX : xdw 3 M D := hX0.of (fun k j a b => h.1 k j (by omega))
    have g2 : (M.1 47 2).toInt = (S.1.1 : Int) := by rw [h.1 47 2 (by decide)]; exact hs0.2.1
    have hn9 : (nI n).toInt = (n : Int) := nI_toInt (by omega)
    have h39 : (M.1 3 9).toInt = (D.1 : Int) := hX.1.1
    refine pv_iloadn (pc := 2) (n := 1) 1 rfl rfl (fm_dec dtX10_look 2 rfl) ?_
    refine pv_aloadn (pc := 3) (n := 0) 0 rfl rfl (fm_dec dtX10_look 3 rfl) ?_
    refine pv_getR (k := 0) (j := 1) (ci := 10) (pc := 4) 3 rfl (by decide) pfl_X10_19 (by decide) rfl (by decide) (fm_dec dtX10_look 4 rfl) ?_
    refine pv_getI (k := 3) (j := 9) (ci := 8) (pc := 7) pfl_X10_138 (by decide) rfl (by decide) (fm_dec dtX10_look 5 rfl) ?_
    refine pv_icmp_ge (pc := 10) 43 (by decide) (fm_dec dtX10_look 6 rfl) (fun hc10 => ?_) (fun hc10 => ?_)
    · exact pv_return (pc := 43) rfl (fm_dec dtX10_look 21 rfl) (by have e9 : n = D.1 := (by rw [sc_le] at hc10; omega); subst e9; exact hq M h.1 h.2.1 h.2.2)
    · have hn : n < D.1 := (by rw [sc_le] at hc10; omega)
      refine pv_aloadn (pc := 13) (n := 0) 0 rfl rfl (fm_dec dtX10_look 7 rfl) ?_
      refine pv_getR (k := 0) (j := 11) (ci := 10) (pc := 14) 44 rfl (by decide) pfl_X10_83 (by decide) rfl (by decide) (fm_dec dtX10_look 8 rfl) ?_
      refine pv_iloadn (pc := 17) (n := 1) 1 rfl rfl (fm_dec dtX10_look 9 rfl) ?_
      refine pv_aloadn (pc := 18) (n := 0) 0 rfl rfl (fm_dec dtX10_look 10 rfl) ?_
      refine pv_getR (k := 0) (j := 1) (ci := 10) (pc := 19) 3 rfl (by decide) pfl_X10_19 (by decide) rfl (by decide) (fm_dec dtX10_look 11 rfl) ?_
      refine pv_iloadn (pc := 22) (n := 1) 1 rfl rfl (fm_dec dtX10_look 12 rfl) ?_
      refine pv_aloadn (pc := 23) (n := 0) 0 rfl rfl (fm_dec dtX10_look 13 rfl) ?_
      refine pv_getR (k := 0) (j := 9) (ci := 10) (pc := 24) 46 rfl (by decide) pfl_X10_75 (by decide) rfl (by decide) (fm_dec dtX10_look 14 rfl) ?_
      refine pv_getR (k := 46) (j := 0) (ci := 5) (pc := 27) 47 rfl (by decide) pfl_X10_90 (by decide) rfl (by decide) (fm_dec dtX10_look 15 rfl) ?_
      refine pv_getI (k := 47) (j := 2) (ci := 6) (pc := 30) pfl_X10_173 (by decide) rfl (by decide) (fm_dec dtX10_look 16 rfl) ?_
      refine pv_invV2 (k := 3) (d' := 0) (pc := 33) pcv_X10_225 (by decide) rfl (Nat.le_of_ble_eq_true rfl) (by decide) (fm_dec dtX10_look 17 rfl) ?_
      refine c_xfb hD hX ?_
      refine pv_then1 ?_
      rw [hn9, g2]
      refine pv_iast (k := 44) (n := 8) (pc := 36) (by decide) rfl rfl (ix_in hn9 (by omega)) (fm_dec dtX10_look 18 rfl) ?_
      rw [i32_cl hn9]
      refine pv_iincc (pc := 37) 1 1 (by decide) rfl (by decide) rfl (fm_dec dtX10_look 19 rfl) ?_
      dsimp only [List.set_cons_zero, List.set_cons_succ]
      refine pv_goto (pc := 40) 2 (by decide) (fm_dec dtX10_look 20 rfl) ?_
      rw [nI_succ1]
      exact ih (D.1 - (n + 1)) (by omega) (n + 1) _ ⟨fun k j a => by rw [fmI_k _ _ a]; exact h.1 k j a, h.2.1, fun j hj => (by by_cases e : j = n; (subst e; rw [fmI_s]; rfl); (rw [fmI_j _ _ e]; exact h.2.2 j (by omega)))⟩ (by omega) rfl hq
set_option maxRecDepth 20000 in
theorem c_xlook {M : fmM} {Q : fmR → fmM → Prop} {D : dD} {cs : tC} {S : aS} (h : xAq M D cs S) (hq : ∀ M' : fmM, (∀ k j, k ≠ 44 → M'.1 k j = M.1 k j) → M'.2 = M.2 → (∀ j, j < D.1 → M'.1 44 j = nI (fnA D S j)) → Q (.inl none) M') : pvGood Tx 11 qX10_look [.ref 0] M Q := by
  refine pvGood_of (Nat.le_of_ble_eq_true rfl) ?_
  show pvEv Tx 11 qX10_look 0 [some (.ref 0), none] [] M Q
  refine pv_iconst (pc := 0) (v := 0) (by decide) (fm_dec dtX10_look 0 rfl) ?_
  refine pv_istoren (pc := 1) (n := 1) 1 rfl (by decide) rfl (fm_dec dtX10_look 1 rfl) ?_
  dsimp only [List.set_cons_zero, List.set_cons_succ]
  exact (xlk2_loop h D.1 0 M ⟨fun _ _ _ => rfl, rfl, fun j hj => absurd hj (Nat.not_lt_zero j)⟩ (Nat.zero_le _) rfl hq).up (by decide)
theorem bt_8 : ∀ l, l ≤ 8 → ((1 : Int32) <<< (nI l &&& 31) - 1).toInt = ((2 ^ l - 1 : Nat) : Int) := by decide +kernel
theorem two8 : ∀ w, w < 256 → ∀ a, a < 8 → ∀ b, b < 8 → (((nI w >>> (nI a &&& 31)) &&& (nI w >>> (nI b &&& 31))) &&& 1 = (0 : Int32) ↔ (w.testBit a && w.testBit b) = false) := by decide +kernel
theorem xo6 : ∀ x, x < 64 → ∀ y, y < 64 → (nI x ^^^ nI y) = nI (x ^^^ y) ∧ x ^^^ y < 64 := by decide +kernel
theorem an6b : ∀ x, x < 64 → ∀ k, k < 64 → ((nI x &&& nI k) = (0 : Int32) ↔ x &&& k = 0) := by decide +kernel
/-- one and the other can't be told apart by kinds -/
def apB (F : Nat → Nat) (lv kinds a b : Nat) : Bool := lv.testBit a && lv.testBit b && Nat.beq ((F a ^^^ F b) &&& kinds) 0
theorem ap_c {F : Nat → Nat} {lv kinds a b : Nat} : apB F lv kinds a b = apB F lv kinds b a := by
  unfold apB
  rw [Nat.xor_comm, Bool.and_comm (lv.testBit a)]
/-- of all of L lives -/
def apT (F : Nat → Nat) (L lv kinds : Nat) : Bool := (List.range 8).all (fun a => (List.range 8).all (fun b => !(decide (a < b) && decide (b < L) && apB F lv kinds a b)))
theorem apT_t {F : Nat → Nat} {L lv kinds : Nat} (hL : L ≤ 8) (h : ∀ a b, a < b → b < L → apB F lv kinds a b = false) : apT F L lv kinds = true := by
  refine List.all_eq_true.mpr (fun a _ => List.all_eq_true.mpr (fun b _ => ?_))
  by_cases h1 : a < b
  · by_cases h2 : b < L
    · rw [h a b h1 h2]
      simp
    · rw [decide_eq_false h2]
      simp
  · rw [decide_eq_false h1]
    simp
theorem apT_f {F : Nat → Nat} {L lv kinds a b : Nat} (hL : L ≤ 8) (h1 : a < b) (h2 : b < L) (h : apB F lv kinds a b = true) : apT F L lv kinds = false := by
  cases e : apT F L lv kinds with
  | false => rfl
  | true =>
    have h3 := List.all_eq_true.mp (List.all_eq_true.mp e a (List.mem_range.mpr (by omega))) b (List.mem_range.mpr (by omega))
    rw [decide_eq_true h1, decide_eq_true h2, h] at h3
    exact absurd h3 (by decide)
/-- the fewest kinds of the first n sets -/
def apS (T : Nat → Bool) : Nat → Int
  | 0 => -1
  | n + 1 => if T n = true ∧ (apS T n = -1 ∨ pop8 n < pop8 (apS T n).toNat) then (n : Int) else apS T n
theorem ap_t {T : Nat → Bool} {n : Nat} (h : T n = true ∧ (apS T n = -1 ∨ pop8 n < pop8 (apS T n).toNat)) : apS T (n + 1) = (n : Int) := if_pos h
theorem ap_f {T : Nat → Bool} {n : Nat} (h : ¬ (T n = true ∧ (apS T n = -1 ∨ pop8 n < pop8 (apS T n).toNat))) : apS T (n + 1) = apS T n := if_neg h
theorem ap_b {T : Nat → Bool} : ∀ n, -1 ≤ apS T n ∧ apS T n < (n : Int) := by
  intro n
  induction n with
  | zero => exact ⟨Int.le_refl _, (by show (-1 : Int) < ((0 : Nat) : Int); decide)⟩
  | succ n ih =>
    by_cases h : T n = true ∧ (apS T n = -1 ∨ pop8 n < pop8 (apS T n).toNat)
    · rw [ap_t h]
      omega
    · rw [ap_f h]
      omega
theorem pq6 : ∀ n, n < 64 → pop8 n ≤ 6 := by decide +kernel
def apA (T : Nat → Bool) (w : Int32) : Int := if w = 1 ∨ apS T 64 = -1 then apS T 64 else ((pop8 (apS T 64).toNat : Nat) : Int)
set_option maxRecDepth 20000 in
theorem c_needB {M : fmM} {Q : fmR → fmM → Prop} {D : dD} {x : Int32} (hD : dOk D) (hX : xdw 3 M D) (hq : inW x 0 (1 <<< (nI D.1 &&& 31) - 1) → Q (.inl none) M) (hf : ¬ inW x 0 (1 <<< (nI D.1 &&& 31) - 1) → Q (.inr fmIAE) (fmI M 0 16 (M.1 0 16 + 1))) : pvGood Tx 1 qX10_needBits [.ref 0, .int x] M Q := by
  refine pvGood_of (Nat.le_of_ble_eq_true rfl) ?_
  show pvEv Tx 1 qX10_needBits 0 [some (.ref 0), some (.int x)] [] M Q
  have e39 : M.1 3 9 = nI D.1 := nI_is hX.1.1 (by have := hD.1; omega)
  refine pv_aloadn (pc := 0) (n := 0) 0 rfl rfl (fm_dec dtX10_needBits 0 rfl) ?_
  refine pv_iloadn (pc := 1) (n := 1) 1 rfl rfl (fm_dec dtX10_needBits 1 rfl) ?_
  refine pv_iconst (pc := 2) (v := 0) (by decide) (fm_dec dtX10_needBits 2 rfl) ?_
  refine pv_iconst (pc := 3) (v := 1) (by decide) (fm_dec dtX10_needBits 3 rfl) ?_
  refine pv_aloadn (pc := 4) (n := 0) 0 rfl rfl (fm_dec dtX10_needBits 4 rfl) ?_
  refine pv_getR (k := 0) (j := 1) (ci := 10) (pc := 5) 3 rfl (by decide) pfl_X10_19 (by decide) rfl (by decide) (fm_dec dtX10_needBits 5 rfl) ?_
  refine pv_getI (k := 3) (j := 9) (ci := 8) (pc := 8) pfl_X10_138 (by decide) rfl (by decide) (fm_dec dtX10_needBits 6 rfl) ?_
  refine pv_ishl (pc := 11) (fm_dec dtX10_needBits 7 rfl) ?_
  refine pv_iconst (pc := 12) (v := 1) (by decide) (fm_dec dtX10_needBits 8 rfl) ?_
  refine pv_isub (pc := 13) (fm_dec dtX10_needBits 9 rfl) ?_
  rw [e39]
  refine pv_invV3 (k := 0) (d' := 0) (pc := 14) pcv_X10_169 (by decide) rfl (Nat.le_of_ble_eq_true rfl) (by decide) (fm_dec dtX10_needBits 10 rfl) ?_
  refine c_needW (fun h14a h14b => ?_) (fun h14 => ?_)
  · refine pv_then0 ?_
    exact pv_return (pc := 17) rfl (fm_dec dtX10_needBits 11 rfl) (hq ⟨h14a, h14b⟩)
  · refine pv_thenX ?_
    exact hf h14
set_option maxRecDepth 20000 in
theorem c_areL {M : fmM} {Q : fmR → fmM → Prop} {D : dD} {x : Int32} (hD : dOk D) (hY : mdw M D) (hq : inW x 0 (1 <<< (nI D.1 &&& 31) - 1) → Q (.inl (some (.int 1))) M) (hf : ¬ inW x 0 (1 <<< (nI D.1 &&& 31) - 1) → Q (.inl (some (.int 0))) M) : pvGood Tm 1 qX11_areLives [.ref 0, .int x] M Q := by
  refine pvGood_of (Nat.le_of_ble_eq_true rfl) ?_
  show pvEv Tm 1 qX11_areLives 0 [some (.ref 0), some (.int x)] [] M Q
  have e39 : M.1 4 (Int32.toNatClampNeg 0) = nI D.1 := nI_is hY.1 (by have := hD.1; omega)
  refine pv_iloadn (pc := 0) (n := 1) 1 rfl rfl (fm_dec dtX11_areLives 0 rfl) ?_
  refine pv_iconst (pc := 1) (v := 0) (by decide) (fm_dec dtX11_areLives 1 rfl) ?_
  refine pv_iconst (pc := 2) (v := 1) (by decide) (fm_dec dtX11_areLives 2 rfl) ?_
  refine pv_aloadn (pc := 3) (n := 0) 0 rfl rfl (fm_dec dtX11_areLives 3 rfl) ?_
  refine pv_getR (k := 0) (j := 12) (ci := 11) (pc := 4) 4 rfl (by decide) pfl_X11_23 (by decide) rfl (by decide) (fm_dec dtX11_areLives 4 rfl) ?_
  refine pv_iconst (pc := 7) (v := 0) (by decide) (fm_dec dtX11_areLives 5 rfl) ?_
  refine pv_iald (k := 4) (n := 6) (pc := 8) (by decide) rfl rfl (fm_inl (by decide)) (fm_dec dtX11_areLives 6 rfl) ?_
  refine pv_ishl (pc := 9) (fm_dec dtX11_areLives 7 rfl) ?_
  refine pv_iconst (pc := 10) (v := 1) (by decide) (fm_dec dtX11_areLives 8 rfl) ?_
  refine pv_isub (pc := 11) (fm_dec dtX11_areLives 9 rfl) ?_
  rw [e39]
  refine pv_iS3 (d' := 0) (pc := 12) pcs_X11_135 (Nat.le_of_ble_eq_true rfl) (by decide) (fm_dec dtX11_areLives 10 rfl) ?_
  refine c_in (fun h12a h12b => ?_) (fun h12 => ?_)
  · refine pv_then1 ?_
    exact pv_zreturn (pc := 15) rfl (by first | exact Or.inr rfl | exact Or.inl rfl) (fm_dec dtX11_areLives 11 rfl) (by first | exact hq ⟨h12a, h12b⟩ | exact hf h12)
  · refine pv_then1 ?_
    exact pv_zreturn (pc := 15) rfl (by first | exact Or.inr rfl | exact Or.inl rfl) (fm_dec dtX11_areLives 11 rfl) (by first | exact hq ⟨h12a, h12b⟩ | exact hf h12)
set_option maxRecDepth 20000 in
theorem xap_in {Q : fmR → fmM → Prop} {M : fmM} {D : dD} {S : aS} {lv kn a : Nat} (hD : dOk D) (h39 : (M.1 3 9).toInt = (D.1 : Int)) (hlk : ∀ j, j < D.1 → M.1 44 j = nI (fnA D S j)) (hlv : lv < 256) (hkn : kn < 64) (hbad : ∀ b, a < b → b < D.1 → apB (fnA D S) lv kn a b = true → Q (.inl (some (.int 0))) M) : ∀ (m : Nat) (b : Nat) (v5 : Option Value), a < b → b ≤ D.1 → D.1 - b = m → (∀ (v5 : Option Value), (∀ b2, b ≤ b2 → b2 < D.1 → apB (fnA D S) lv kn a b2 = false) → pvEv Tx 10 qX10_tellsApart 82 [some (.ref 0), some (.int (nI lv)), some (.int (nI kn)), some (.int (nI a)), some (.int (nI D.1)), v5] [] M Q) → pvEv Tx 10 qX10_tellsApart 18 [some (.ref 0), some (.int (nI lv)), some (.int (nI kn)), some (.int (nI a)), some (.int (nI b)), v5] [] M Q := by
  intro m
  induction m using Nat.strongRecOn with
  | _ m ih =>
    intro b v5 hab hbD hm hok
    have d8 := hD.1
    have ha9 : (nI a).toInt = (a : Int) := nI_toInt (by omega)
    have hb9 : (nI b).toInt = (b : Int) := nI_toInt (by omega)
    refine pv_iload (pc := 18) (i := 4) rfl (fm_dec dtX10_tellsApart 11 rfl) ?_
    refine pv_aloadn (pc := 20) (n := 0) 0 rfl rfl (fm_dec dtX10_tellsApart 12 rfl) ?_
    refine pv_getR (k := 0) (j := 1) (ci := 10) (pc := 21) 3 rfl (by decide) pfl_X10_19 (by decide) rfl (by decide) (fm_dec dtX10_tellsApart 13 rfl) ?_
    refine pv_getI (k := 3) (j := 9) (ci := 8) (pc := 24) pfl_X10_138 (by decide) rfl (by decide) (fm_dec dtX10_tellsApart 14 rfl) ?_
    refine pv_icmp_ge (pc := 27) 82 (by decide) (fm_dec dtX10_tellsApart 15 rfl) (fun hc27 => ?_) (fun hc27 => ?_)
    · have e9 : b = D.1 := (by rw [sc_le] at hc27; omega)
      rw [e9]
      exact hok _ (fun b2 h1 h2 => by omega)
    · have hb : b < D.1 := (by rw [sc_le] at hc27; omega)
      have t8 := two8 lv hlv a (by omega) b (by omega)
      refine pv_iloadn (pc := 30) (n := 1) 1 rfl rfl (fm_dec dtX10_tellsApart 16 rfl) ?_
      refine pv_iloadn (pc := 31) (n := 3) 3 rfl rfl (fm_dec dtX10_tellsApart 17 rfl) ?_
      refine pv_ishr (pc := 32) (fm_dec dtX10_tellsApart 18 rfl) ?_
      refine pv_iloadn (pc := 33) (n := 1) 1 rfl rfl (fm_dec dtX10_tellsApart 19 rfl) ?_
      refine pv_iload (pc := 34) (i := 4) rfl (fm_dec dtX10_tellsApart 20 rfl) ?_
      refine pv_ishr (pc := 36) (fm_dec dtX10_tellsApart 21 rfl) ?_
      refine pv_iand (pc := 37) (fm_dec dtX10_tellsApart 22 rfl) ?_
      refine pv_iconst (pc := 38) (v := 1) (by decide) (fm_dec dtX10_tellsApart 23 rfl) ?_
      refine pv_iand (pc := 39) (fm_dec dtX10_tellsApart 24 rfl) ?_
      refine pv_if_eq (pc := 40) 47 (by decide) (fm_dec dtX10_tellsApart 25 rfl) (fun hc40 => ?_) (fun hc40 => ?_)
      · refine pv_iconst (pc := 47) (v := 0) (by decide) (fm_dec dtX10_tellsApart 28 rfl) ?_
        refine pv_istore (pc := 48) (i := 5) (by decide) rfl (fm_dec dtX10_tellsApart 29 rfl) ?_
        dsimp only [List.set_cons_zero, List.set_cons_succ]
        refine pv_iload (pc := 50) (i := 5) rfl (fm_dec dtX10_tellsApart 30 rfl) ?_
        refine pv_if_eq (pc := 52) 76 (by decide) (fm_dec dtX10_tellsApart 31 rfl) (fun _ => ?_) (fun hc52 => by exfalso; revert hc52; decide)
        refine pv_iincc (pc := 76) 4 1 (by decide) rfl (by decide) rfl (fm_dec dtX10_tellsApart 46 rfl) ?_
        dsimp only [List.set_cons_zero, List.set_cons_succ]
        refine pv_goto (pc := 79) 18 (by decide) (fm_dec dtX10_tellsApart 47 rfl) ?_
        rw [nI_succ1]
        exact ih (D.1 - (b + 1)) (by omega) (b + 1) _ (by omega) (by omega) rfl (fun v5 h => hok v5 (fun b2 h1 h2 => by by_cases e : b2 = b; (subst e; exact (by unfold apB; rw [t8.mp hc40, Bool.false_and])); exact h b2 (by omega) h2))
      · refine pv_iconst (pc := 43) (v := 1) (by decide) (fm_dec dtX10_tellsApart 26 rfl) ?_
        refine pv_goto (pc := 44) 48 (by decide) (fm_dec dtX10_tellsApart 27 rfl) ?_
        refine pv_istore (pc := 48) (i := 5) (by decide) rfl (fm_dec dtX10_tellsApart 29 rfl) ?_
        dsimp only [List.set_cons_zero, List.set_cons_succ]
        refine pv_iload (pc := 50) (i := 5) rfl (fm_dec dtX10_tellsApart 30 rfl) ?_
        refine pv_if_eq (pc := 52) 76 (by decide) (fm_dec dtX10_tellsApart 31 rfl) (fun hc52 => by exfalso; revert hc52; decide) (fun _ => ?_)
        refine pv_aloadn (pc := 55) (n := 0) 0 rfl rfl (fm_dec dtX10_tellsApart 32 rfl) ?_
        refine pv_getR (k := 0) (j := 11) (ci := 10) (pc := 56) 44 rfl (by decide) pfl_X10_83 (by decide) rfl (by decide) (fm_dec dtX10_tellsApart 33 rfl) ?_
        refine pv_iloadn (pc := 59) (n := 3) 3 rfl rfl (fm_dec dtX10_tellsApart 34 rfl) ?_
        refine pv_iald (k := 44) (n := 8) (pc := 60) (by decide) rfl rfl (ix_in ha9 (by omega)) (fm_dec dtX10_tellsApart 35 rfl) ?_
        rw [i32_cl ha9, hlk a (by omega)]
        refine pv_aloadn (pc := 61) (n := 0) 0 rfl rfl (fm_dec dtX10_tellsApart 36 rfl) ?_
        refine pv_getR (k := 0) (j := 11) (ci := 10) (pc := 62) 44 rfl (by decide) pfl_X10_83 (by decide) rfl (by decide) (fm_dec dtX10_tellsApart 37 rfl) ?_
        refine pv_iload (pc := 65) (i := 4) rfl (fm_dec dtX10_tellsApart 38 rfl) ?_
        refine pv_iald (k := 44) (n := 8) (pc := 67) (by decide) rfl rfl (ix_in hb9 (by omega)) (fm_dec dtX10_tellsApart 39 rfl) ?_
        rw [i32_cl hb9, hlk b hb]
        refine pv_ixor (pc := 68) (fm_dec dtX10_tellsApart 40 rfl) ?_
        rw [(xo6 _ (fn_64 hD) _ (fn_64 hD)).1]
        refine pv_iloadn (pc := 69) (n := 2) 2 rfl rfl (fm_dec dtX10_tellsApart 41 rfl) ?_
        refine pv_iand (pc := 70) (fm_dec dtX10_tellsApart 42 rfl) ?_
        refine pv_if_ne (pc := 71) 76 (by decide) (fm_dec dtX10_tellsApart 43 rfl) (fun hc71 => ?_) (fun hc71 => ?_)
        · refine pv_iincc (pc := 76) 4 1 (by decide) rfl (by decide) rfl (fm_dec dtX10_tellsApart 46 rfl) ?_
          dsimp only [List.set_cons_zero, List.set_cons_succ]
          refine pv_goto (pc := 79) 18 (by decide) (fm_dec dtX10_tellsApart 47 rfl) ?_
          rw [nI_succ1]
          exact ih (D.1 - (b + 1)) (by omega) (b + 1) _ (by omega) (by omega) rfl (fun v5 h => hok v5 (fun b2 h1 h2 => by by_cases e : b2 = b; (subst e; exact (by unfold apB; cases h9 : Nat.beq ((fnA D S a ^^^ fnA D S b2) &&& kn) 0 with | false => rw [Bool.and_false] | true => exact absurd ((an6b _ (xo6 _ (fn_64 hD) _ (fn_64 hD)).2 kn hkn).mpr (Nat.eq_of_beq_eq_true h9)) hc71)); exact h b2 (by omega) h2))
        · refine pv_iconst (pc := 74) (v := 0) (by decide) (fm_dec dtX10_tellsApart 44 rfl) ?_
          exact pv_zreturn (pc := 75) rfl (by first | exact Or.inr rfl | exact Or.inl rfl) (fm_dec dtX10_tellsApart 45 rfl) (hbad b hab hb (by have hbits : (lv.testBit a && lv.testBit b) = true := (by cases h9 : (lv.testBit a && lv.testBit b) with | true => rfl | false => exact absurd (t8.mpr h9) hc40); unfold apB; rw [hbits, Bool.true_and]; exact Nat.beq_eq.mpr ((an6b _ (xo6 _ (fn_64 hD) _ (fn_64 hD)).2 kn hkn).mp hc71)))
set_option maxRecDepth 20000 in
theorem xap_out {Q : fmR → fmM → Prop} {M : fmM} {D : dD} {S : aS} {lv kn : Nat} (hD : dOk D) (h39 : (M.1 3 9).toInt = (D.1 : Int)) (hlk : ∀ j, j < D.1 → M.1 44 j = nI (fnA D S j)) (hlv : lv < 256) (hkn : kn < 64) : ∀ (m : Nat) (a : Nat) (v4 v5 : Option Value), a ≤ D.1 → D.1 - a = m → (∀ a b, a < b → b < D.1 → apB (fnA D S) lv kn a b = true → Q (.inl (some (.int 0))) M) → ((∀ a2 b2, a ≤ a2 → a2 < b2 → b2 < D.1 → apB (fnA D S) lv kn a2 b2 = false) → Q (.inl (some (.int 1))) M) → pvEv Tx 10 qX10_tellsApart 2 [some (.ref 0), some (.int (nI lv)), some (.int (nI kn)), some (.int (nI a)), v4, v5] [] M Q := by
  intro m
  induction m using Nat.strongRecOn with
  | _ m ih =>
    intro a v4 v5 haD hm hbad hok
    have d8 := hD.1
    have ha9 : (nI a).toInt = (a : Int) := nI_toInt (by omega)
    refine pv_iloadn (pc := 2) (n := 3) 3 rfl rfl (fm_dec dtX10_tellsApart 2 rfl) ?_
    refine pv_aloadn (pc := 3) (n := 0) 0 rfl rfl (fm_dec dtX10_tellsApart 3 rfl) ?_
    refine pv_getR (k := 0) (j := 1) (ci := 10) (pc := 4) 3 rfl (by decide) pfl_X10_19 (by decide) rfl (by decide) (fm_dec dtX10_tellsApart 4 rfl) ?_
    refine pv_getI (k := 3) (j := 9) (ci := 8) (pc := 7) pfl_X10_138 (by decide) rfl (by decide) (fm_dec dtX10_tellsApart 5 rfl) ?_
    refine pv_icmp_ge (pc := 10) 88 (by decide) (fm_dec dtX10_tellsApart 6 rfl) (fun hc10 => ?_) (fun hc10 => ?_)
    · refine pv_iconst (pc := 88) (v := 1) (by decide) (fm_dec dtX10_tellsApart 50 rfl) ?_
      exact pv_zreturn (pc := 89) rfl (by first | exact Or.inr rfl | exact Or.inl rfl) (fm_dec dtX10_tellsApart 51 rfl) (hok (fun a2 b2 h1 h2 h3 => by have e9 : a = D.1 := (by rw [sc_le] at hc10; omega); omega))
    · refine pv_iloadn (pc := 13) (n := 3) 3 rfl rfl (fm_dec dtX10_tellsApart 7 rfl) ?_
      refine pv_iconst (pc := 14) (v := 1) (by decide) (fm_dec dtX10_tellsApart 8 rfl) ?_
      refine pv_iadd (pc := 15) (fm_dec dtX10_tellsApart 9 rfl) ?_
      rw [nI_succ1]
      refine pv_istore (pc := 16) (i := 4) (by decide) rfl (fm_dec dtX10_tellsApart 10 rfl) ?_
      dsimp only [List.set_cons_zero, List.set_cons_succ]
      have ha : a < D.1 := (by rw [sc_le] at hc10; omega)
      refine xap_in hD h39 hlk hlv hkn (fun b h1 h2 h3 => hbad a b h1 h2 h3) (D.1 - (a + 1)) (a + 1) _ (by omega) (by omega) rfl (fun v5 hin => ?_)
      refine pv_iincc (pc := 82) 3 1 (by decide) rfl (by decide) rfl (fm_dec dtX10_tellsApart 48 rfl) ?_
      dsimp only [List.set_cons_zero, List.set_cons_succ]
      refine pv_goto (pc := 85) 2 (by decide) (fm_dec dtX10_tellsApart 49 rfl) ?_
      rw [nI_succ1]
      exact ih (D.1 - (a + 1)) (by omega) (a + 1) _ _ (by omega) rfl hbad (fun h => hok (fun a2 b2 h1 h2 h3 => by by_cases e : a2 = a; (subst e; exact hin b2 (by omega) h3); exact h a2 b2 (by omega) h2 h3))
set_option maxRecDepth 20000 in
theorem c_xta {M : fmM} {Q : fmR → fmM → Prop} {D : dD} {S : aS} {lv kn : Nat} (hD : dOk D) (h39 : (M.1 3 9).toInt = (D.1 : Int)) (hlk : ∀ j, j < D.1 → M.1 44 j = nI (fnA D S j)) (hlv : lv < 256) (hkn : kn < 64) (h1 : apT (fnA D S) D.1 lv kn = true → Q (.inl (some (.int 1))) M) (h0 : apT (fnA D S) D.1 lv kn = false → Q (.inl (some (.int 0))) M) : pvGood Tx 11 qX10_tellsApart [.ref 0, .int (nI lv), .int (nI kn)] M Q := by
  refine pvGood_of (Nat.le_of_ble_eq_true rfl) ?_
  show pvEv Tx 11 qX10_tellsApart 0 [some (.ref 0), some (.int (nI lv)), some (.int (nI kn)), none, none, none] [] M Q
  refine pv_iconst (pc := 0) (v := 0) (by decide) (fm_dec dtX10_tellsApart 0 rfl) ?_
  refine pv_istoren (pc := 1) (n := 3) 3 rfl (by decide) rfl (fm_dec dtX10_tellsApart 1 rfl) ?_
  dsimp only [List.set_cons_zero, List.set_cons_succ]
  have d8 := hD.1
  exact (xap_out hD h39 hlk hlv hkn D.1 0 _ _ (Nat.zero_le _) rfl (fun a b e1 e2 e3 => h0 (apT_f d8 e1 e2 e3)) (fun h => h1 (apT_t d8 (fun a b e1 e2 => h a b (Nat.zero_le _) e1 e2)))).up (by decide)
set_option maxRecDepth 20000 in
theorem map_in {Q : fmR → fmM → Prop} {M : fmM} {D : dD} {S : aS} {lv kn a : Nat} (hD : dOk D) (hY : mdw M D) (ht : mst M D S) (hlv : lv < 256) (hkn : kn < 64) (haD : a < D.1) (hbad : ∀ b, b < a → apB (fnA D S) lv kn a b = true → Q (.inl (some (.int 0))) M) : ∀ (m : Nat) (b : Nat), b ≤ a → a - b = m → ((∀ b2, b ≤ b2 → b2 < a → apB (fnA D S) lv kn a b2 = false) → pvEv Tm 10 qX11_isApart 77 [some (.ref 0), some (.int (nI lv)), some (.int (nI kn)), some (.int (nI a)), some (.int (nI a))] [] M Q) → pvEv Tm 10 qX11_isApart 15 [some (.ref 0), some (.int (nI lv)), some (.int (nI kn)), some (.int (nI a)), some (.int (nI b))] [] M Q := by
  intro m
  induction m using Nat.strongRecOn with
  | _ m ih =>
    intro b hba hm hok
    have d8 := hD.1
    have h39 : (M.1 4 (Int32.toNatClampNeg 0)).toInt = (D.1 : Int) := hY.1
    have g2 : (M.1 7 (Int32.toNatClampNeg 10)).toInt = (S.1.1 : Int) := ht.2.1
    have ha9 : (nI a).toInt = (a : Int) := nI_toInt (by omega)
    have hb9 : (nI b).toInt = (b : Int) := nI_toInt (by omega)
    refine pv_iload (pc := 15) (i := 4) rfl (fm_dec dtX11_isApart 10 rfl) ?_
    refine pv_iloadn (pc := 17) (n := 3) 3 rfl rfl (fm_dec dtX11_isApart 11 rfl) ?_
    refine pv_icmp_ge (pc := 18) 77 (by decide) (fm_dec dtX11_isApart 12 rfl) (fun hc18 => ?_) (fun hc18 => ?_)
    · have e9 : b = a := (by rw [sc_le] at hc18; omega)
      rw [e9]
      exact hok (fun b2 h1 h2 => by omega)
    · have hb : b < a := (by rw [sc_le] at hc18; omega)
      refine pv_iloadn (pc := 21) (n := 1) 1 rfl rfl (fm_dec dtX11_isApart 13 rfl) ?_
      refine pv_iloadn (pc := 22) (n := 3) 3 rfl rfl (fm_dec dtX11_isApart 14 rfl) ?_
      refine pv_iS2 (d' := 0) (pc := 23) pcs_X11_256 (Nat.le_of_ble_eq_true rfl) (by decide) (fm_dec dtX11_isApart 15 rfl) ?_
      refine c_has (fun h23 => ?_) (fun h23 => ?_)
      · refine pv_then1 ?_
        refine pv_if_eq (pc := 26) 71 (by decide) (fm_dec dtX11_isApart 16 rfl) (fun hc26 => by exfalso; revert hc26; decide) (fun _ => ?_)
        refine pv_iloadn (pc := 29) (n := 1) 1 rfl rfl (fm_dec dtX11_isApart 17 rfl) ?_
        refine pv_iload (pc := 30) (i := 4) rfl (fm_dec dtX11_isApart 18 rfl) ?_
        refine pv_iS2 (d' := 0) (pc := 32) pcs_X11_256 (Nat.le_of_ble_eq_true rfl) (by decide) (fm_dec dtX11_isApart 19 rfl) ?_
        refine c_has (fun h32 => ?_) (fun h32 => ?_)
        · refine pv_then1 ?_
          refine pv_if_eq (pc := 35) 71 (by decide) (fm_dec dtX11_isApart 20 rfl) (fun hc35 => by exfalso; revert hc35; decide) (fun _ => ?_)
          refine pv_aloadn (pc := 38) (n := 0) 0 rfl rfl (fm_dec dtX11_isApart 21 rfl) ?_
          refine pv_iloadn (pc := 39) (n := 3) 3 rfl rfl (fm_dec dtX11_isApart 22 rfl) ?_
          refine pv_aloadn (pc := 40) (n := 0) 0 rfl rfl (fm_dec dtX11_isApart 23 rfl) ?_
          refine pv_getR (k := 0) (j := 27) (ci := 11) (pc := 41) 7 rfl (by decide) pfl_X11_61 (by decide) rfl (by decide) (fm_dec dtX11_isApart 24 rfl) ?_
          refine pv_bipush (pc := 44) (v := 10) (by decide) (fm_dec dtX11_isApart 25 rfl) ?_
          refine pv_iald (k := 7) (n := 14) (pc := 46) (by decide) rfl rfl (fm_inl (by decide)) (fm_dec dtX11_isApart 26 rfl) ?_
          refine pv_invV2 (k := 0) (d' := 0) (pc := 47) pcv_X11_334 (by decide) rfl (Nat.le_of_ble_eq_true rfl) (by decide) (fm_dec dtX11_isApart 27 rfl) ?_
          refine c_mfb hD hY ?_
          refine pv_then1 ?_
          rw [ha9, g2]
          refine pv_aloadn (pc := 50) (n := 0) 0 rfl rfl (fm_dec dtX11_isApart 28 rfl) ?_
          refine pv_iload (pc := 51) (i := 4) rfl (fm_dec dtX11_isApart 29 rfl) ?_
          refine pv_aloadn (pc := 53) (n := 0) 0 rfl rfl (fm_dec dtX11_isApart 30 rfl) ?_
          refine pv_getR (k := 0) (j := 27) (ci := 11) (pc := 54) 7 rfl (by decide) pfl_X11_61 (by decide) rfl (by decide) (fm_dec dtX11_isApart 31 rfl) ?_
          refine pv_bipush (pc := 57) (v := 10) (by decide) (fm_dec dtX11_isApart 32 rfl) ?_
          refine pv_iald (k := 7) (n := 14) (pc := 59) (by decide) rfl rfl (fm_inl (by decide)) (fm_dec dtX11_isApart 33 rfl) ?_
          refine pv_invV2 (k := 0) (d' := 0) (pc := 60) pcv_X11_334 (by decide) rfl (Nat.le_of_ble_eq_true rfl) (by decide) (fm_dec dtX11_isApart 34 rfl) ?_
          refine c_mfb hD hY ?_
          refine pv_then1 ?_
          rw [hb9, g2]
          refine pv_ixor (pc := 63) (fm_dec dtX11_isApart 35 rfl) ?_
          rw [show (nI (fbA D ↑a ↑S.1.1) ^^^ nI (fbA D ↑b ↑S.1.1)) = nI (fnA D S a ^^^ fnA D S b) from (xo6 _ (fn_64 hD) _ (fn_64 hD)).1]
          refine pv_iloadn (pc := 64) (n := 2) 2 rfl rfl (fm_dec dtX11_isApart 36 rfl) ?_
          refine pv_iand (pc := 65) (fm_dec dtX11_isApart 37 rfl) ?_
          refine pv_if_ne (pc := 66) 71 (by decide) (fm_dec dtX11_isApart 38 rfl) (fun hc66 => ?_) (fun hc66 => ?_)
          · refine pv_iincc (pc := 71) 4 1 (by decide) rfl (by decide) rfl (fm_dec dtX11_isApart 41 rfl) ?_
            dsimp only [List.set_cons_zero, List.set_cons_succ]
            refine pv_goto (pc := 74) 15 (by decide) (fm_dec dtX11_isApart 42 rfl) ?_
            rw [nI_succ1]
            exact ih (a - (b + 1)) (by omega) (b + 1) (by omega) rfl (fun h => hok (fun b2 h1 h2 => by by_cases e : b2 = b; (subst e; exact (by unfold apB; cases h9 : Nat.beq ((fnA D S a ^^^ fnA D S b2) &&& kn) 0 with | false => rw [Bool.and_false] | true => exact absurd ((an6b _ (xo6 _ (fn_64 hD) _ (fn_64 hD)).2 kn hkn).mpr (Nat.eq_of_beq_eq_true h9)) hc66)); exact h b2 (by omega) h2))
          · refine pv_iconst (pc := 69) (v := 0) (by decide) (fm_dec dtX11_isApart 39 rfl) ?_
            exact pv_zreturn (pc := 70) rfl (by first | exact Or.inr rfl | exact Or.inl rfl) (fm_dec dtX11_isApart 40 rfl) (hbad b hb (by unfold apB; rw [((has8 lv hlv a (by omega)).mp h23), ((has8 lv hlv b (by omega)).mp h32), Bool.true_and, Bool.true_and]; exact Nat.beq_eq.mpr ((an6b _ (xo6 _ (fn_64 hD) _ (fn_64 hD)).2 kn hkn).mp hc66)))
        · refine pv_then1 ?_
          refine pv_if_eq (pc := 35) 71 (by decide) (fm_dec dtX11_isApart 20 rfl) (fun _ => ?_) (fun hc35 => by exfalso; revert hc35; decide)
          refine pv_iincc (pc := 71) 4 1 (by decide) rfl (by decide) rfl (fm_dec dtX11_isApart 41 rfl) ?_
          dsimp only [List.set_cons_zero, List.set_cons_succ]
          refine pv_goto (pc := 74) 15 (by decide) (fm_dec dtX11_isApart 42 rfl) ?_
          rw [nI_succ1]
          exact ih (a - (b + 1)) (by omega) (b + 1) (by omega) rfl (fun h => hok (fun b2 h1 h2 => by by_cases e : b2 = b; (subst e; exact (by unfold apB; rw [(show lv.testBit b2 = false by cases h9 : lv.testBit b2 with | false => rfl | true => exact absurd ((has8 lv hlv b2 (by omega)).mpr h9) h32), Bool.and_false, Bool.false_and])); exact h b2 (by omega) h2))
      · refine pv_then1 ?_
        refine pv_if_eq (pc := 26) 71 (by decide) (fm_dec dtX11_isApart 16 rfl) (fun _ => ?_) (fun hc26 => by exfalso; revert hc26; decide)
        refine pv_iincc (pc := 71) 4 1 (by decide) rfl (by decide) rfl (fm_dec dtX11_isApart 41 rfl) ?_
        dsimp only [List.set_cons_zero, List.set_cons_succ]
        refine pv_goto (pc := 74) 15 (by decide) (fm_dec dtX11_isApart 42 rfl) ?_
        rw [nI_succ1]
        exact ih (a - (b + 1)) (by omega) (b + 1) (by omega) rfl (fun h => hok (fun b2 h1 h2 => by by_cases e : b2 = b; (subst e; exact (by unfold apB; rw [(show lv.testBit a = false by cases h9 : lv.testBit a with | false => rfl | true => exact absurd ((has8 lv hlv a (by omega)).mpr h9) h23), Bool.false_and, Bool.false_and])); exact h b2 (by omega) h2))
set_option maxRecDepth 20000 in
theorem map_out {Q : fmR → fmM → Prop} {M : fmM} {D : dD} {S : aS} {lv kn : Nat} (hD : dOk D) (hY : mdw M D) (ht : mst M D S) (hlv : lv < 256) (hkn : kn < 64) : ∀ (m : Nat) (a : Nat) (v4 : Option Value), a ≤ D.1 → D.1 - a = m → (∀ a b, a < b → b < D.1 → apB (fnA D S) lv kn a b = true → Q (.inl (some (.int 0))) M) → ((∀ a2 b2, a ≤ b2 → a2 < b2 → b2 < D.1 → apB (fnA D S) lv kn a2 b2 = false) → Q (.inl (some (.int 1))) M) → pvEv Tm 10 qX11_isApart 2 [some (.ref 0), some (.int (nI lv)), some (.int (nI kn)), some (.int (nI a)), v4] [] M Q := by
  intro m
  induction m using Nat.strongRecOn with
  | _ m ih =>
    intro a v4 haD hm hbad hok
    have d8 := hD.1
    have h39 : (M.1 4 (Int32.toNatClampNeg 0)).toInt = (D.1 : Int) := hY.1
    have g2 : (M.1 7 (Int32.toNatClampNeg 10)).toInt = (S.1.1 : Int) := ht.2.1
    have ha9 : (nI a).toInt = (a : Int) := nI_toInt (by omega)
    refine pv_iloadn (pc := 2) (n := 3) 3 rfl rfl (fm_dec dtX11_isApart 2 rfl) ?_
    refine pv_aloadn (pc := 3) (n := 0) 0 rfl rfl (fm_dec dtX11_isApart 3 rfl) ?_
    refine pv_getR (k := 0) (j := 12) (ci := 11) (pc := 4) 4 rfl (by decide) pfl_X11_23 (by decide) rfl (by decide) (fm_dec dtX11_isApart 4 rfl) ?_
    refine pv_iconst (pc := 7) (v := 0) (by decide) (fm_dec dtX11_isApart 5 rfl) ?_
    refine pv_iald (k := 4) (n := 6) (pc := 8) (by decide) rfl rfl (fm_inl (by decide)) (fm_dec dtX11_isApart 6 rfl) ?_
    refine pv_icmp_ge (pc := 9) 83 (by decide) (fm_dec dtX11_isApart 7 rfl) (fun hc9 => ?_) (fun hc9 => ?_)
    · refine pv_iconst (pc := 83) (v := 1) (by decide) (fm_dec dtX11_isApart 45 rfl) ?_
      exact pv_zreturn (pc := 84) rfl (by first | exact Or.inr rfl | exact Or.inl rfl) (fm_dec dtX11_isApart 46 rfl) (hok (fun a2 b2 h1 h2 h3 => by have e9 : a = D.1 := (by rw [sc_le] at hc9; omega); omega))
    · refine pv_iconst (pc := 12) (v := 0) (by decide) (fm_dec dtX11_isApart 8 rfl) ?_
      refine pv_istore (pc := 13) (i := 4) (by decide) rfl (fm_dec dtX11_isApart 9 rfl) ?_
      dsimp only [List.set_cons_zero, List.set_cons_succ]
      have ha : a < D.1 := (by rw [sc_le] at hc9; omega)
      refine map_in hD hY ht hlv hkn ha (fun b h1 h3 => hbad b a h1 ha (by rw [ap_c]; exact h3)) a 0 (Nat.zero_le _) rfl (fun hin => ?_)
      refine pv_iincc (pc := 77) 3 1 (by decide) rfl (by decide) rfl (fm_dec dtX11_isApart 43 rfl) ?_
      dsimp only [List.set_cons_zero, List.set_cons_succ]
      refine pv_goto (pc := 80) 2 (by decide) (fm_dec dtX11_isApart 44 rfl) ?_
      rw [nI_succ1]
      exact ih (D.1 - (a + 1)) (by omega) (a + 1) _ (by omega) rfl hbad (fun h => hok (fun a2 b2 h1 h2 h3 => by by_cases e : b2 = a; (subst e; rw [ap_c]; exact hin a2 (Nat.zero_le _) h2); exact h a2 b2 (by omega) h2 h3))
set_option maxRecDepth 20000 in
theorem c_mta {M : fmM} {Q : fmR → fmM → Prop} {D : dD} {S : aS} {lv kn : Nat} (hD : dOk D) (hY : mdw M D) (ht : mst M D S) (hlv : lv < 256) (hkn : kn < 64) (h1 : apT (fnA D S) D.1 lv kn = true → Q (.inl (some (.int 1))) M) (h0 : apT (fnA D S) D.1 lv kn = false → Q (.inl (some (.int 0))) M) : pvGood Tm 11 qX11_isApart [.ref 0, .int (nI lv), .int (nI kn)] M Q := by
  refine pvGood_of (Nat.le_of_ble_eq_true rfl) ?_
  show pvEv Tm 11 qX11_isApart 0 [some (.ref 0), some (.int (nI lv)), some (.int (nI kn)), none, none] [] M Q
  refine pv_iconst (pc := 0) (v := 0) (by decide) (fm_dec dtX11_isApart 0 rfl) ?_
  refine pv_istoren (pc := 1) (n := 3) 3 rfl (by decide) rfl (fm_dec dtX11_isApart 1 rfl) ?_
  dsimp only [List.set_cons_zero, List.set_cons_succ]
  have d8 := hD.1
  exact (map_out hD hY ht hlv hkn D.1 0 _ (Nat.zero_le _) rfl (fun a b e1 e2 e3 => h0 (apT_f d8 e1 e2 e3)) (fun h => h1 (apT_t d8 (fun a b e1 e2 => h a b (Nat.zero_le _) e1 e2)))).up (by decide)
set_option maxRecDepth 20000 in
theorem xaq_loop {Q : fmR → fmM → Prop} {M : fmM} {D : dD} {S : aS} {lv : Nat} {y : Int32} (hD : dOk D) (h39 : (M.1 3 9).toInt = (D.1 : Int)) (hlk : ∀ j, j < D.1 → M.1 44 j = nI (fnA D S j)) (hlv : lv < 256) : ∀ (m : Nat) (n : Nat) (wh few : Int32) (v6 : Option Value), n ≤ 64 → 64 - n = m → wh.toInt = apS (apT (fnA D S) D.1 lv) n → few.toInt = (if apS (apT (fnA D S) D.1 lv) n = -1 then 7 else ((pop8 (apS (apT (fnA D S) D.1 lv) n).toNat : Nat) : Int)) → (∀ (r : Int32) (M' : fmM), r.toInt = apA (apT (fnA D S) D.1 lv) y → Q (.inl (some (.int r))) M') → pvEv Tx 20 qX10_apart 25 [some (.ref 0), some (.int (nI lv)), some (.int y), some (.int wh), some (.int few), some (.int (nI n)), v6] [] M Q := by
  intro m
  induction m using Nat.strongRecOn with
  | _ m ih =>
    intro n wh few v6 hn0 hm hwh hfew hq
    have d8 := hD.1
    have hn9 : (nI n).toInt = (n : Int) := nI_toInt (by omega)
    refine pv_iload (pc := 25) (i := 5) rfl (fm_dec dtX10_apart 16 rfl) ?_
    refine pv_bipush (pc := 27) (v := 64) (by decide) (fm_dec dtX10_apart 17 rfl) ?_
    refine pv_icmp_ge (pc := 29) 69 (by decide) (fm_dec dtX10_apart 18 rfl) (fun hc29 => ?_) (fun hc29 => ?_)
    · refine pv_iloadn (pc := 69) (n := 3) 3 rfl rfl (fm_dec dtX10_apart 36 rfl) ?_
      refine pv_iconst (pc := 70) (v := (-1)) (by decide) (fm_dec dtX10_apart 37 rfl) ?_
      refine pv_icmp_eq (pc := 71) 79 (by decide) (fm_dec dtX10_apart 38 rfl) (fun hc71 => ?_) (fun hc71 => ?_)
      · refine pv_iloadn (pc := 79) (n := 3) 3 rfl rfl (fm_dec dtX10_apart 42 rfl) ?_
        refine pv_goto (pc := 80) 85 (by decide) (fm_dec dtX10_apart 43 rfl) ?_
        exact pv_ireturn (pc := 85) rfl (fm_dec dtX10_apart 45 rfl) (by have e9 : n = 64 := (by rw [sc_le] at hc29; have z64 : (64 : Int32).toInt = 64 := (by decide); omega); subst e9; exact hq _ _ (by unfold apA; rw [if_pos (Or.inr (by rw [← hwh, hc71]; decide))]; exact hwh))
      · refine pv_iloadn (pc := 74) (n := 2) 2 rfl rfl (fm_dec dtX10_apart 39 rfl) ?_
        refine pv_iconst (pc := 75) (v := 1) (by decide) (fm_dec dtX10_apart 40 rfl) ?_
        refine pv_icmp_ne (pc := 76) 83 (by decide) (fm_dec dtX10_apart 41 rfl) (fun hc76 => ?_) (fun hc76 => ?_)
        · refine pv_iload (pc := 83) (i := 4) rfl (fm_dec dtX10_apart 44 rfl) ?_
          exact pv_ireturn (pc := 85) rfl (fm_dec dtX10_apart 45 rfl) (by have e9 : n = 64 := (by rw [sc_le] at hc29; have z64 : (64 : Int32).toInt = 64 := (by decide); omega); subst e9; exact hq _ _ (by unfold apA; rw [if_neg (by rintro (e | e); exact hc76 e; exact hc71 (i32_ext (hwh.trans (by rw [e]; decide))))]; rw [if_neg (fun e => hc71 (i32_ext (hwh.trans (by rw [e]; decide))))] at hfew; exact hfew))
        · refine pv_iloadn (pc := 79) (n := 3) 3 rfl rfl (fm_dec dtX10_apart 42 rfl) ?_
          refine pv_goto (pc := 80) 85 (by decide) (fm_dec dtX10_apart 43 rfl) ?_
          exact pv_ireturn (pc := 85) rfl (fm_dec dtX10_apart 45 rfl) (by have e9 : n = 64 := (by rw [sc_le] at hc29; have z64 : (64 : Int32).toInt = 64 := (by decide); omega); subst e9; exact hq _ _ (by unfold apA; rw [if_pos (Or.inl hc76)]; exact hwh))
    · have hn64 : n < 64 := (by rw [sc_le] at hc29; have z64 : (64 : Int32).toInt = 64 := (by decide); omega)
      have p6 := pq6 n hn64
      have hp9 : (nI (pop8 n)).toInt = ((pop8 n : Nat) : Int) := nI_toInt (by omega)
      have hab := ap_b (T := (apT (fnA D S) D.1 lv)) n
      refine pv_iload (pc := 32) (i := 5) rfl (fm_dec dtX10_apart 19 rfl) ?_
      refine pv_iS1 (d' := 0) (pc := 34) pcs_X10_182 (Nat.le_of_ble_eq_true rfl) (by decide) (fm_dec dtX10_apart 20 rfl) ?_
      refine c_bits8 (w := n) (by omega) ?_
      refine pv_then1 ?_
      refine pv_istore (pc := 37) (i := 6) (by decide) rfl (fm_dec dtX10_apart 21 rfl) ?_
      dsimp only [List.set_cons_zero, List.set_cons_succ]
      refine pv_iload (pc := 39) (i := 6) rfl (fm_dec dtX10_apart 22 rfl) ?_
      refine pv_iload (pc := 41) (i := 4) rfl (fm_dec dtX10_apart 23 rfl) ?_
      refine pv_icmp_ge (pc := 43) 63 (by decide) (fm_dec dtX10_apart 24 rfl) (fun hc43 => ?_) (fun hc43 => ?_)
      · refine pv_iincc (pc := 63) 5 1 (by decide) rfl (by decide) rfl (fm_dec dtX10_apart 34 rfl) ?_
        dsimp only [List.set_cons_zero, List.set_cons_succ]
        refine pv_goto (pc := 66) 25 (by decide) (fm_dec dtX10_apart 35 rfl) ?_
        have e9 := ap_f (T := (apT (fnA D S) D.1 lv)) (n := n) (by rintro ⟨-, e | e⟩; (rw [if_pos e] at hfew; rw [sc_le] at hc43; omega); (by_cases e5 : apS (apT (fnA D S) D.1 lv) n = -1; (rw [if_pos e5] at hfew; rw [sc_le] at hc43; omega); (rw [if_neg e5] at hfew; rw [sc_le] at hc43; omega)))
        rw [nI_succ1]
        exact ih (64 - (n + 1)) (by omega) (n + 1) _ _ _ (by omega) rfl (by rw [e9]; exact hwh) (by rw [e9]; exact hfew) hq
      · refine pv_aloadn (pc := 46) (n := 0) 0 rfl rfl (fm_dec dtX10_apart 25 rfl) ?_
        refine pv_iloadn (pc := 47) (n := 1) 1 rfl rfl (fm_dec dtX10_apart 26 rfl) ?_
        refine pv_iload (pc := 48) (i := 5) rfl (fm_dec dtX10_apart 27 rfl) ?_
        refine pv_invV2 (k := 0) (d' := 11) (pc := 50) pcv_X10_334 (by decide) rfl (Nat.le_of_ble_eq_true rfl) (by decide) (fm_dec dtX10_apart 28 rfl) ?_
        refine c_xta hD h39 hlk hlv (by omega) (fun h50 => ?_) (fun h50 => ?_)
        · refine pv_then1 ?_
          refine pv_if_eq (pc := 53) 63 (by decide) (fm_dec dtX10_apart 29 rfl) (fun hc53 => by exfalso; revert hc53; decide) (fun _ => ?_)
          refine pv_iload (pc := 56) (i := 6) rfl (fm_dec dtX10_apart 30 rfl) ?_
          refine pv_istore (pc := 58) (i := 4) (by decide) rfl (fm_dec dtX10_apart 31 rfl) ?_
          dsimp only [List.set_cons_zero, List.set_cons_succ]
          refine pv_iload (pc := 60) (i := 5) rfl (fm_dec dtX10_apart 32 rfl) ?_
          refine pv_istoren (pc := 62) (n := 3) 3 rfl (by decide) rfl (fm_dec dtX10_apart 33 rfl) ?_
          dsimp only [List.set_cons_zero, List.set_cons_succ]
          refine pv_iincc (pc := 63) 5 1 (by decide) rfl (by decide) rfl (fm_dec dtX10_apart 34 rfl) ?_
          dsimp only [List.set_cons_zero, List.set_cons_succ]
          refine pv_goto (pc := 66) 25 (by decide) (fm_dec dtX10_apart 35 rfl) ?_
          have e9 := ap_t (T := (apT (fnA D S) D.1 lv)) (n := n) ⟨h50, by by_cases e5 : apS (apT (fnA D S) D.1 lv) n = -1; exact Or.inl e5; (rw [if_neg e5] at hfew; rw [sc_le] at hc43; exact Or.inr (by omega))⟩
          rw [nI_succ1]
          exact ih (64 - (n + 1)) (by omega) (n + 1) _ _ _ (by omega) rfl (by rw [e9]; exact hn9) (by rw [e9]; exact (by rw [if_neg (by omega), Int.toNat_natCast]; exact hp9)) hq
        · refine pv_then1 ?_
          refine pv_if_eq (pc := 53) 63 (by decide) (fm_dec dtX10_apart 29 rfl) (fun _ => ?_) (fun hc53 => by exfalso; revert hc53; decide)
          refine pv_iincc (pc := 63) 5 1 (by decide) rfl (by decide) rfl (fm_dec dtX10_apart 34 rfl) ?_
          dsimp only [List.set_cons_zero, List.set_cons_succ]
          refine pv_goto (pc := 66) 25 (by decide) (fm_dec dtX10_apart 35 rfl) ?_
          have e9 := ap_f (T := (apT (fnA D S) D.1 lv)) (n := n) (by rintro ⟨e, -⟩; rw [h50] at e; cases e)
          rw [nI_succ1]
          exact ih (64 - (n + 1)) (by omega) (n + 1) _ _ _ (by omega) rfl (by rw [e9]; exact hwh) (by rw [e9]; exact hfew) hq
set_option maxRecDepth 20000 in
theorem c_xapart {M : fmM} {Q : fmR → fmM → Prop} {D : dD} {cs : tC} {S : aS} {x y : Int32} (h : xAq M D cs S) (hn2 : ¬ (inW x 0 (1 <<< (nI D.1 &&& 31) - 1) ∧ inW y 0 1) → Q (.inr fmIAE) (fmI M 0 16 (M.1 0 16 + 1))) (hq : inW x 0 (1 <<< (nI D.1 &&& 31) - 1) ∧ inW y 0 1 → ∀ (r : Int32) (M' : fmM), r.toInt = apA (apT (fnA D S) D.1 x.toInt.toNat) y → Q (.inl (some (.int r))) M') : pvGood Tx 21 qX10_apart [.ref 0, .int x, .int y] M Q := by
  refine pvGood_of (Nat.le_of_ble_eq_true rfl) ?_
  show pvEv Tx 21 qX10_apart 0 [some (.ref 0), some (.int x), some (.int y), none, none, none, none] [] M Q
  have hxq := h
  obtain ⟨hD, hX, hL, hs, ho⟩ := h
  have d8 := hD.1
  have hl9 : (M.1 3 9).toInt = (D.1 : Int) := hX.1.1
  refine pv_aloadn (pc := 0) (n := 0) 0 rfl rfl (fm_dec dtX10_apart 0 rfl) ?_
  refine pv_iloadn (pc := 1) (n := 1) 1 rfl rfl (fm_dec dtX10_apart 1 rfl) ?_
  refine pv_invV1 (k := 0) (d' := 1) (pc := 2) pcv_X10_319 (by decide) rfl (Nat.le_of_ble_eq_true rfl) (by decide) (fm_dec dtX10_apart 2 rfl) ?_
  refine c_needB hD hX (fun h2 => ?_) (fun h2 => ?_)
  · refine pv_then0 ?_
    refine pv_aloadn (pc := 5) (n := 0) 0 rfl rfl (fm_dec dtX10_apart 3 rfl) ?_
    refine pv_iloadn (pc := 6) (n := 2) 2 rfl rfl (fm_dec dtX10_apart 4 rfl) ?_
    refine pv_iconst (pc := 7) (v := 0) (by decide) (fm_dec dtX10_apart 5 rfl) ?_
    refine pv_iconst (pc := 8) (v := 1) (by decide) (fm_dec dtX10_apart 6 rfl) ?_
    refine pv_invV3 (k := 0) (d' := 0) (pc := 9) pcv_X10_169 (by decide) rfl (Nat.le_of_ble_eq_true rfl) (by decide) (fm_dec dtX10_apart 7 rfl) ?_
    refine c_needW (fun h9a h9b => ?_) (fun h9 => ?_)
    · refine pv_then0 ?_
      have hP : inW x 0 (1 <<< (nI D.1 &&& 31) - 1) ∧ inW y 0 1 := ⟨h2, ⟨h9a, h9b⟩⟩
      have h2b := h2.2
      have h2c := h2.1
      obtain ⟨lv, hlv, exl⟩ : ∃ lv : Nat, lv < 256 ∧ x = nI lv := (by have z0 : (0 : Int32).toInt = 0 := (by decide); have h9 := bt_8 D.1 d8; have h8 : 2 ^ D.1 ≤ 2 ^ 8 := Nat.pow_le_pow_right (by decide) d8; exact ⟨x.toInt.toNat, by omega, nI_is (by omega) (by omega)⟩)
      have elv : x.toInt.toNat = lv := (by rw [exl, nI_toInt (by omega)]; omega)
      rw [elv] at hq
      rw [exl]
      refine pv_aloadn (pc := 12) (n := 0) 0 rfl rfl (fm_dec dtX10_apart 8 rfl) ?_
      refine pv_invV0 (k := 0) (d' := 11) (pc := 13) pcv_X10_331 (by decide) rfl (Nat.le_of_ble_eq_true rfl) (by decide) (fm_dec dtX10_apart 9 rfl) ?_
      refine c_xlook hxq (fun M13 g13 k13 l13 => ?_)
      refine pv_then0 ?_
      refine pv_iconst (pc := 16) (v := (-1)) (by decide) (fm_dec dtX10_apart 10 rfl) ?_
      refine pv_istoren (pc := 17) (n := 3) 3 rfl (by decide) rfl (fm_dec dtX10_apart 11 rfl) ?_
      dsimp only [List.set_cons_zero, List.set_cons_succ]
      refine pv_bipush (pc := 18) (v := 7) (by decide) (fm_dec dtX10_apart 12 rfl) ?_
      refine pv_istore (pc := 20) (i := 4) (by decide) rfl (fm_dec dtX10_apart 13 rfl) ?_
      dsimp only [List.set_cons_zero, List.set_cons_succ]
      refine pv_iconst (pc := 22) (v := 0) (by decide) (fm_dec dtX10_apart 14 rfl) ?_
      refine pv_istore (pc := 23) (i := 5) (by decide) rfl (fm_dec dtX10_apart 15 rfl) ?_
      dsimp only [List.set_cons_zero, List.set_cons_succ]
      exact (xaq_loop hD (by rw [g13 3 9 (by decide)]; exact hl9) l13 hlv 64 0 _ _ _ (by decide) rfl (by show (-1 : Int32).toInt = (-1 : Int); decide) (by rw [if_pos (show apS _ 0 = -1 from rfl)]; decide) (hq hP)).up (by decide)
    · refine pv_thenX ?_
      first | exact hn2 (fun h8 => h9 ⟨h8.2.1, h8.2.2⟩) | exact hn2 (fun h8 => h2 h8.1)
  · refine pv_thenX ?_
    first | exact hn2 (fun h8 => h9 ⟨h8.2.1, h8.2.2⟩) | exact hn2 (fun h8 => h2 h8.1)
set_option maxRecDepth 20000 in
theorem maq_loop {Q : fmR → fmM → Prop} {M : fmM} {D : dD} {S : aS} {lv : Nat} {y : Int32} (hD : dOk D) (hY : mdw M D) (ht : mst M D S) (hlv : lv < 256) (z : M.1 0 0 = 0) : ∀ (m : Nat) (n : Nat) (wh : Int32), n ≤ 64 → 64 - n = m → wh.toInt = apS (apT (fnA D S) D.1 lv) n → (∀ (r : Int32) (M' : fmM), M'.1 0 0 = 0 → r.toInt = apA (apT (fnA D S) D.1 lv) y → Q (.inl (some (.int r))) M') → pvEv Tm 20 qX11_apart 43 [some (.ref 0), some (.int (nI lv)), some (.int y), some (.int wh), some (.int (nI n))] [] M Q := by
  intro m
  induction m using Nat.strongRecOn with
  | _ m ih =>
    intro n wh hn0 hm hwh hq
    have d8 := hD.1
    have hn9 : (nI n).toInt = (n : Int) := nI_toInt (by omega)
    refine pv_iload (pc := 43) (i := 4) rfl (fm_dec dtX11_apart 26 rfl) ?_
    refine pv_bipush (pc := 45) (v := 64) (by decide) (fm_dec dtX11_apart 27 rfl) ?_
    refine pv_icmp_ge (pc := 47) 86 (by decide) (fm_dec dtX11_apart 28 rfl) (fun hc47 => ?_) (fun hc47 => ?_)
    · refine pv_iloadn (pc := 86) (n := 2) 2 rfl rfl (fm_dec dtX11_apart 46 rfl) ?_
      refine pv_iconst (pc := 87) (v := 1) (by decide) (fm_dec dtX11_apart 47 rfl) ?_
      refine pv_icmp_eq (pc := 88) 96 (by decide) (fm_dec dtX11_apart 48 rfl) (fun hc88 => ?_) (fun hc88 => ?_)
      · refine pv_iloadn (pc := 96) (n := 3) 3 rfl rfl (fm_dec dtX11_apart 52 rfl) ?_
        refine pv_goto (pc := 97) 104 (by decide) (fm_dec dtX11_apart 53 rfl) ?_
        exact pv_ireturn (pc := 104) rfl (fm_dec dtX11_apart 56 rfl) (by have e9 : n = 64 := (by rw [sc_le] at hc47; have z64 : (64 : Int32).toInt = 64 := (by decide); omega); subst e9; exact hq _ _ z (by unfold apA; rw [if_pos (Or.inl hc88)]; exact hwh))
      · refine pv_iloadn (pc := 91) (n := 3) 3 rfl rfl (fm_dec dtX11_apart 49 rfl) ?_
        refine pv_iconst (pc := 92) (v := (-1)) (by decide) (fm_dec dtX11_apart 50 rfl) ?_
        refine pv_icmp_ne (pc := 93) 100 (by decide) (fm_dec dtX11_apart 51 rfl) (fun hc93 => ?_) (fun hc93 => ?_)
        · refine pv_iloadn (pc := 100) (n := 3) 3 rfl rfl (fm_dec dtX11_apart 54 rfl) ?_
          have hne : ¬ apS (apT (fnA D S) D.1 lv) n = -1 := (fun e => hc93 (i32_ext (hwh.trans (by rw [e]; decide))))
          have hab := ap_b (T := (apT (fnA D S) D.1 lv)) n
          have e64 : n = 64 := (by rw [sc_le] at hc47; have z64 : (64 : Int32).toInt = 64 := (by decide); omega)
          have ewh : wh = nI (apS (apT (fnA D S) D.1 lv) n).toNat := nI_is (by omega) (by omega)
          rw [ewh]
          refine pv_iS1 (d' := 0) (pc := 101) pcs_X11_416 (Nat.le_of_ble_eq_true rfl) (by decide) (fm_dec dtX11_apart 55 rfl) ?_
          refine c_ones8 (w := (apS (apT (fnA D S) D.1 lv) n).toNat) (by have h9 := ap_b (T := (apT (fnA D S) D.1 lv)) n; omega) ?_
          refine pv_then1 ?_
          exact pv_ireturn (pc := 104) rfl (fm_dec dtX11_apart 56 rfl) (by have e9 : n = 64 := (by rw [sc_le] at hc47; have z64 : (64 : Int32).toInt = 64 := (by decide); omega); subst e9; exact hq _ _ z (by unfold apA; rw [if_neg (by rintro (e | e); exact hc88 e; exact hne e)]; exact nI_toInt (by have := pq6 (apS (apT (fnA D S) D.1 lv) 64).toNat (by omega); omega)))
        · refine pv_iloadn (pc := 96) (n := 3) 3 rfl rfl (fm_dec dtX11_apart 52 rfl) ?_
          refine pv_goto (pc := 97) 104 (by decide) (fm_dec dtX11_apart 53 rfl) ?_
          exact pv_ireturn (pc := 104) rfl (fm_dec dtX11_apart 56 rfl) (by have e9 : n = 64 := (by rw [sc_le] at hc47; have z64 : (64 : Int32).toInt = 64 := (by decide); omega); subst e9; exact hq _ _ z (by unfold apA; rw [if_pos (Or.inr (by rw [← hwh, hc93]; decide))]; exact hwh))
    · have hn64 : n < 64 := (by rw [sc_le] at hc47; have z64 : (64 : Int32).toInt = 64 := (by decide); omega)
      have p6 := pq6 n hn64
      have hp9 : (nI (pop8 n)).toInt = ((pop8 n : Nat) : Int) := nI_toInt (by omega)
      have hab := ap_b (T := (apT (fnA D S) D.1 lv)) n
      refine pv_aloadn (pc := 50) (n := 0) 0 rfl rfl (fm_dec dtX11_apart 29 rfl) ?_
      refine pv_iloadn (pc := 51) (n := 1) 1 rfl rfl (fm_dec dtX11_apart 30 rfl) ?_
      refine pv_iload (pc := 52) (i := 4) rfl (fm_dec dtX11_apart 31 rfl) ?_
      refine pv_invV2 (k := 0) (d' := 11) (pc := 54) pcv_X11_413 (by decide) rfl (Nat.le_of_ble_eq_true rfl) (by decide) (fm_dec dtX11_apart 32 rfl) ?_
      refine c_mta hD hY ht hlv (by omega) (fun h54 => ?_) (fun h54 => ?_)
      · refine pv_then1 ?_
        refine pv_if_eq (pc := 57) 80 (by decide) (fm_dec dtX11_apart 33 rfl) (fun hc57 => by exfalso; revert hc57; decide) (fun _ => ?_)
        refine pv_iloadn (pc := 60) (n := 3) 3 rfl rfl (fm_dec dtX11_apart 34 rfl) ?_
        refine pv_iconst (pc := 61) (v := (-1)) (by decide) (fm_dec dtX11_apart 35 rfl) ?_
        refine pv_icmp_eq (pc := 62) 77 (by decide) (fm_dec dtX11_apart 36 rfl) (fun hc62 => ?_) (fun hc62 => ?_)
        · refine pv_iload (pc := 77) (i := 4) rfl (fm_dec dtX11_apart 42 rfl) ?_
          refine pv_istoren (pc := 79) (n := 3) 3 rfl (by decide) rfl (fm_dec dtX11_apart 43 rfl) ?_
          dsimp only [List.set_cons_zero, List.set_cons_succ]
          refine pv_iincc (pc := 80) 4 1 (by decide) rfl (by decide) rfl (fm_dec dtX11_apart 44 rfl) ?_
          dsimp only [List.set_cons_zero, List.set_cons_succ]
          refine pv_goto (pc := 83) 43 (by decide) (fm_dec dtX11_apart 45 rfl) ?_
          have e9 := ap_t (T := (apT (fnA D S) D.1 lv)) (n := n) ⟨h54, Or.inl (by rw [← hwh, hc62]; decide)⟩
          rw [nI_succ1]
          exact ih (64 - (n + 1)) (by omega) (n + 1) _ (by omega) rfl (by rw [e9]; exact hn9) hq
        · have hne : ¬ apS (apT (fnA D S) D.1 lv) n = -1 := (fun e => hc62 (i32_ext (hwh.trans (by rw [e]; decide))))
          have ewh : wh = nI (apS (apT (fnA D S) D.1 lv) n).toNat := nI_is (by omega) (by omega)
          have p7 := pq6 (apS (apT (fnA D S) D.1 lv) n).toNat (by omega)
          have hq9 : (nI (pop8 (apS (apT (fnA D S) D.1 lv) n).toNat)).toInt = ((pop8 (apS (apT (fnA D S) D.1 lv) n).toNat : Nat) : Int) := nI_toInt (by omega)
          refine pv_iload (pc := 65) (i := 4) rfl (fm_dec dtX11_apart 37 rfl) ?_
          refine pv_iS1 (d' := 0) (pc := 67) pcs_X11_416 (Nat.le_of_ble_eq_true rfl) (by decide) (fm_dec dtX11_apart 38 rfl) ?_
          refine c_ones8 (w := n) (by omega) ?_
          refine pv_then1 ?_
          refine pv_iloadn (pc := 70) (n := 3) 3 rfl rfl (fm_dec dtX11_apart 39 rfl) ?_
          rw [ewh]
          refine pv_iS1 (d' := 0) (pc := 71) pcs_X11_416 (Nat.le_of_ble_eq_true rfl) (by decide) (fm_dec dtX11_apart 40 rfl) ?_
          refine c_ones8 (w := (apS (apT (fnA D S) D.1 lv) n).toNat) (by omega) ?_
          refine pv_then1 ?_
          refine pv_icmp_ge (pc := 74) 80 (by decide) (fm_dec dtX11_apart 41 rfl) (fun hc74 => ?_) (fun hc74 => ?_)
          · refine pv_iincc (pc := 80) 4 1 (by decide) rfl (by decide) rfl (fm_dec dtX11_apart 44 rfl) ?_
            dsimp only [List.set_cons_zero, List.set_cons_succ]
            refine pv_goto (pc := 83) 43 (by decide) (fm_dec dtX11_apart 45 rfl) ?_
            have e9 := ap_f (T := (apT (fnA D S) D.1 lv)) (n := n) (by rintro ⟨-, e | e⟩; exact hne e; (rw [sc_le] at hc74; omega))
            rw [nI_succ1]
            exact ih (64 - (n + 1)) (by omega) (n + 1) _ (by omega) rfl (by rw [e9]; exact (by rw [← ewh]; exact hwh)) hq
          · refine pv_iload (pc := 77) (i := 4) rfl (fm_dec dtX11_apart 42 rfl) ?_
            refine pv_istoren (pc := 79) (n := 3) 3 rfl (by decide) rfl (fm_dec dtX11_apart 43 rfl) ?_
            dsimp only [List.set_cons_zero, List.set_cons_succ]
            refine pv_iincc (pc := 80) 4 1 (by decide) rfl (by decide) rfl (fm_dec dtX11_apart 44 rfl) ?_
            dsimp only [List.set_cons_zero, List.set_cons_succ]
            refine pv_goto (pc := 83) 43 (by decide) (fm_dec dtX11_apart 45 rfl) ?_
            have e9 := ap_t (T := (apT (fnA D S) D.1 lv)) (n := n) ⟨h54, Or.inr (by rw [sc_le] at hc74; omega)⟩
            rw [nI_succ1]
            exact ih (64 - (n + 1)) (by omega) (n + 1) _ (by omega) rfl (by rw [e9]; exact hn9) hq
      · refine pv_then1 ?_
        refine pv_if_eq (pc := 57) 80 (by decide) (fm_dec dtX11_apart 33 rfl) (fun _ => ?_) (fun hc57 => by exfalso; revert hc57; decide)
        refine pv_iincc (pc := 80) 4 1 (by decide) rfl (by decide) rfl (fm_dec dtX11_apart 44 rfl) ?_
        dsimp only [List.set_cons_zero, List.set_cons_succ]
        refine pv_goto (pc := 83) 43 (by decide) (fm_dec dtX11_apart 45 rfl) ?_
        have e9 := ap_f (T := (apT (fnA D S) D.1 lv)) (n := n) (by rintro ⟨e, -⟩; rw [h54] at e; cases e)
        rw [nI_succ1]
        exact ih (64 - (n + 1)) (by omega) (n + 1) _ (by omega) rfl (by rw [e9]; exact hwh) hq
set_option maxRecDepth 20000 in
theorem c_mapart {M : fmM} {Q : fmR → fmM → Prop} {D : dD} {cs : tC} {S : aS} {x y : Int32} (h : mAq M D cs S) (hn2 : ¬ (inW x 0 (1 <<< (nI D.1 &&& 31) - 1) ∧ inW y 0 1) → ∀ (z : Int32) (M' : fmM), M'.1 0 0 = 1 → Q (.inl (some (.int z))) M') (hq : inW x 0 (1 <<< (nI D.1 &&& 31) - 1) ∧ inW y 0 1 → ∀ (r : Int32) (M' : fmM), M'.1 0 0 = 0 → r.toInt = apA (apT (fnA D S) D.1 x.toInt.toNat) y → Q (.inl (some (.int r))) M') : pvGood Tm 21 qX11_apart [.ref 0, .int x, .int y] M Q := by
  refine pvGood_of (Nat.le_of_ble_eq_true rfl) ?_
  show pvEv Tm 21 qX11_apart 0 [some (.ref 0), some (.int x), some (.int y), none, none] [] M Q
  have hmq := h.z (x := 0)
  obtain ⟨hD, hY, hM, hd, ht, ho⟩ := hmq
  have d8 := hD.1
  have h4 : (M.1 4 0).toInt = (D.1 : Int) := hY.1
  have hl := hD.1
  refine pv_aloadn (pc := 0) (n := 0) 0 rfl rfl (fm_dec dtX11_apart 0 rfl) ?_
  refine pv_iconst (pc := 1) (v := 0) (by decide) (fm_dec dtX11_apart 1 rfl) ?_
  refine pv_putI (k := 0) (j := 0) (ci := 11) (pc := 2) pfl_X11_101 (by decide) rfl (by decide) (fm_dec dtX11_apart 2 rfl) ?_
  refine pv_aloadn (pc := 5) (n := 0) 0 rfl rfl (fm_dec dtX11_apart 3 rfl) ?_
  refine pv_aloadn (pc := 6) (n := 0) 0 rfl rfl (fm_dec dtX11_apart 4 rfl) ?_
  refine pv_iloadn (pc := 7) (n := 1) 1 rfl rfl (fm_dec dtX11_apart 5 rfl) ?_
  refine pv_invV1 (k := 0) (d' := 1) (pc := 8) pcv_X11_407 (by decide) rfl (Nat.le_of_ble_eq_true rfl) (by decide) (fm_dec dtX11_apart 6 rfl) ?_
  refine c_areL hD hY (fun h8 => ?_) (fun h8 => ?_)
  · refine pv_then1 ?_
    refine pv_if_eq (pc := 11) 23 (by decide) (fm_dec dtX11_apart 7 rfl) (fun hc11 => by exfalso; revert hc11; decide) (fun _ => ?_)
    refine pv_iloadn (pc := 14) (n := 2) 2 rfl rfl (fm_dec dtX11_apart 8 rfl) ?_
    refine pv_iconst (pc := 15) (v := 0) (by decide) (fm_dec dtX11_apart 9 rfl) ?_
    refine pv_iconst (pc := 16) (v := 1) (by decide) (fm_dec dtX11_apart 10 rfl) ?_
    refine pv_iS3 (d' := 0) (pc := 17) pcs_X11_135 (Nat.le_of_ble_eq_true rfl) (by decide) (fm_dec dtX11_apart 11 rfl) ?_
    refine c_in (fun h17a h17b => ?_) (fun h17 => ?_)
    · refine pv_then1 ?_
      refine pv_if_ne (pc := 20) 27 (by decide) (fm_dec dtX11_apart 12 rfl) (fun _ => ?_) (fun hc20 => by exfalso; revert hc20; decide)
      refine pv_iconst (pc := 27) (v := 0) (by decide) (fm_dec dtX11_apart 15 rfl) ?_
      refine pv_iconst (pc := 28) (v := 1) (by decide) (fm_dec dtX11_apart 16 rfl) ?_
      refine pv_iconst (pc := 29) (v := 1) (by decide) (fm_dec dtX11_apart 17 rfl) ?_
      refine pv_invV3 (k := 0) (d' := 0) (pc := 30) pcv_X11_177 (by decide) rfl (Nat.le_of_ble_eq_true rfl) (by decide) (fm_dec dtX11_apart 18 rfl) ?_
      refine c_badF1 rfl ?_
      refine pv_then1 ?_
      refine pv_if_eq (pc := 33) 38 (by decide) (fm_dec dtX11_apart 19 rfl) (fun _ => ?_) (fun hc33 => by exfalso; revert hc33; decide)
      have hP : inW x 0 (1 <<< (nI D.1 &&& 31) - 1) ∧ inW y 0 1 := ⟨h8, ⟨h17a, h17b⟩⟩
      have h2b := h8.2
      have h2c := h8.1
      obtain ⟨lv, hlv, exl⟩ : ∃ lv : Nat, lv < 256 ∧ x = nI lv := (by have z0 : (0 : Int32).toInt = 0 := (by decide); have h9 := bt_8 D.1 d8; have h8 : 2 ^ D.1 ≤ 2 ^ 8 := Nat.pow_le_pow_right (by decide) d8; exact ⟨x.toInt.toNat, by omega, nI_is (by omega) (by omega)⟩)
      have elv : x.toInt.toNat = lv := (by rw [exl, nI_toInt (by omega)]; omega)
      rw [elv] at hq
      rw [exl]
      refine pv_iconst (pc := 38) (v := (-1)) (by decide) (fm_dec dtX11_apart 22 rfl) ?_
      refine pv_istoren (pc := 39) (n := 3) 3 rfl (by decide) rfl (fm_dec dtX11_apart 23 rfl) ?_
      dsimp only [List.set_cons_zero, List.set_cons_succ]
      refine pv_iconst (pc := 40) (v := 0) (by decide) (fm_dec dtX11_apart 24 rfl) ?_
      refine pv_istore (pc := 41) (i := 4) (by decide) rfl (fm_dec dtX11_apart 25 rfl) ?_
      dsimp only [List.set_cons_zero, List.set_cons_succ]
      exact (maq_loop hD hY ht hlv rfl 64 0 _ (by decide) rfl (by show (-1 : Int32).toInt = (-1 : Int); decide) (hq hP)).up (by decide)
    · refine pv_then1 ?_
      refine pv_if_ne (pc := 20) 27 (by decide) (fm_dec dtX11_apart 12 rfl) (fun hc20 => by exfalso; revert hc20; decide) (fun _ => ?_)
      refine pv_iconst (pc := 23) (v := 1) (by decide) (fm_dec dtX11_apart 13 rfl) ?_
      refine pv_goto (pc := 24) 28 (by decide) (fm_dec dtX11_apart 14 rfl) ?_
      refine pv_iconst (pc := 28) (v := 1) (by decide) (fm_dec dtX11_apart 16 rfl) ?_
      refine pv_iconst (pc := 29) (v := 1) (by decide) (fm_dec dtX11_apart 17 rfl) ?_
      refine pv_invV3 (k := 0) (d' := 0) (pc := 30) pcv_X11_177 (by decide) rfl (Nat.le_of_ble_eq_true rfl) (by decide) (fm_dec dtX11_apart 18 rfl) ?_
      refine c_badT1 rfl (by decide) ?_
      refine pv_then1 ?_
      refine pv_if_eq (pc := 33) 38 (by decide) (fm_dec dtX11_apart 19 rfl) (fun hc33 => by exfalso; revert hc33; decide) (fun _ => ?_)
      refine pv_iconst (pc := 36) (v := 0) (by decide) (fm_dec dtX11_apart 20 rfl) ?_
      exact pv_ireturn (pc := 37) rfl (fm_dec dtX11_apart 21 rfl) (hn2 (fun h9 => h17 ⟨h9.2.1, h9.2.2⟩) _ _ rfl)
  · refine pv_then1 ?_
    refine pv_if_eq (pc := 11) 23 (by decide) (fm_dec dtX11_apart 7 rfl) (fun _ => ?_) (fun hc11 => by exfalso; revert hc11; decide)
    refine pv_iconst (pc := 23) (v := 1) (by decide) (fm_dec dtX11_apart 13 rfl) ?_
    refine pv_goto (pc := 24) 28 (by decide) (fm_dec dtX11_apart 14 rfl) ?_
    refine pv_iconst (pc := 28) (v := 1) (by decide) (fm_dec dtX11_apart 16 rfl) ?_
    refine pv_iconst (pc := 29) (v := 1) (by decide) (fm_dec dtX11_apart 17 rfl) ?_
    refine pv_invV3 (k := 0) (d' := 0) (pc := 30) pcv_X11_177 (by decide) rfl (Nat.le_of_ble_eq_true rfl) (by decide) (fm_dec dtX11_apart 18 rfl) ?_
    refine c_badT1 rfl (by decide) ?_
    refine pv_then1 ?_
    refine pv_if_eq (pc := 33) 38 (by decide) (fm_dec dtX11_apart 19 rfl) (fun hc33 => by exfalso; revert hc33; decide) (fun _ => ?_)
    refine pv_iconst (pc := 36) (v := 0) (by decide) (fm_dec dtX11_apart 20 rfl) ?_
    exact pv_ireturn (pc := 37) rfl (fm_dec dtX11_apart 21 rfl) (hn2 (fun h9 => h8 h9.1) _ _ rfl)
theorem xe_apart {M : fmM} {D : dD} {cs : tC} {S : aS} {x y : Int32} (h : xAq M D cs S) : pvGood Tx 250 qX10_apart [.ref 0, .int x, .int y] M (fun r _ => ((inW x 0 (1 <<< (nI D.1 &&& 31) - 1) ∧ inW y 0 1) ∧ r = .inl (some (.int (iZ (apA (apT (fnA D S) D.1 x.toInt.toNat) y))))) ∨ (¬ (inW x 0 (1 <<< (nI D.1 &&& 31) - 1) ∧ inW y 0 1) ∧ r = .inr fmIAE)) := (c_xapart h (fun h => Or.inr ⟨h, rfl⟩) (fun h r M' e => Or.inl ⟨h, by rw [iZ_is e]⟩)).up (by decide)
theorem me_apart {M : fmM} {D : dD} {cs : tC} {S : aS} {x y : Int32} (h : mAq M D cs S) : pvGood Tm 250 qX11_apart [.ref 0, .int x, .int y] M (fun r M' => ((inW x 0 (1 <<< (nI D.1 &&& 31) - 1) ∧ inW y 0 1) ∧ r = .inl (some (.int (iZ (apA (apT (fnA D S) D.1 x.toInt.toNat) y)))) ∧ M'.1 0 0 = 0) ∨ (¬ (inW x 0 (1 <<< (nI D.1 &&& 31) - 1) ∧ inW y 0 1) ∧ M'.1 0 0 = 1)) := (c_mapart h (fun h z M' e => Or.inr ⟨h, e⟩) (fun h r M' z e => Or.inl ⟨h, by rw [iZ_is e], z⟩)).up (by decide)
