set_option maxRecDepth 20000 in
theorem c_needP {M : fmM} {Q : fmR → fmM → Prop} {x : Int32} (hq : inW x 0 1 → Q (.inl none) M) (hf : ¬ inW x 0 1 → Q (.inr fmIAE) (fmI M 0 16 (M.1 0 16 + 1))) : pvGood Tx 1 qX10_needPart [.ref 0, .int x] M Q := by
  refine pvGood_of (Nat.le_of_ble_eq_true rfl) ?_
  show pvEv Tx 1 qX10_needPart 0 [some (.ref 0), some (.int x)] [] M Q
  refine pv_aloadn (pc := 0) (n := 0) 0 rfl rfl (fm_dec dtX10_needPart 0 rfl) ?_
  refine pv_iloadn (pc := 1) (n := 1) 1 rfl rfl (fm_dec dtX10_needPart 1 rfl) ?_
  refine pv_iconst (pc := 2) (v := 0) (by decide) (fm_dec dtX10_needPart 2 rfl) ?_
  refine pv_iconst (pc := 3) (v := 1) (by decide) (fm_dec dtX10_needPart 3 rfl) ?_
  refine pv_invV3 (k := 0) (d' := 0) (pc := 4) pcv_X10_169 (by decide) rfl (Nat.le_of_ble_eq_true rfl) (by decide) (fm_dec dtX10_needPart 4 rfl) ?_
  refine c_needW (fun h4a h4b => ?_) (fun h4 => ?_)
  · refine pv_then0 ?_
    exact pv_return (pc := 7) rfl (fm_dec dtX10_needPart 5 rfl) (hq ⟨h4a, h4b⟩)
  · refine pv_thenX ?_
    exact hf h4
set_option maxRecDepth 20000 in
theorem c_noP {M : fmM} {Q : fmR → fmM → Prop} {x w : Int32} (hth : M.1 0 0 = 0) (hw : ¬ w = 0) (hq : inW x 0 1 → Q (.inl (some (.int 0))) M) (hf : ¬ inW x 0 1 → Q (.inl (some (.int 1))) (fmI (fmI M 0 0 w) 2 1 (M.1 2 1 + 1))) : pvGood Tm 1 qX11_noPart [.ref 0, .int x, .int w] M Q := by
  refine pvGood_of (Nat.le_of_ble_eq_true rfl) ?_
  show pvEv Tm 1 qX11_noPart 0 [some (.ref 0), some (.int x), some (.int w)] [] M Q
  refine pv_aloadn (pc := 0) (n := 0) 0 rfl rfl (fm_dec dtX11_noPart 0 rfl) ?_
  refine pv_iloadn (pc := 1) (n := 1) 1 rfl rfl (fm_dec dtX11_noPart 1 rfl) ?_
  refine pv_iconst (pc := 2) (v := 0) (by decide) (fm_dec dtX11_noPart 2 rfl) ?_
  refine pv_iconst (pc := 3) (v := 1) (by decide) (fm_dec dtX11_noPart 3 rfl) ?_
  refine pv_iS3 (d' := 0) (pc := 4) pcs_X11_135 (Nat.le_of_ble_eq_true rfl) (by decide) (fm_dec dtX11_noPart 4 rfl) ?_
  refine c_in (fun h4a h4b => ?_) (fun h4 => ?_)
  · refine pv_then1 ?_
    refine pv_if_ne (pc := 7) 14 (by decide) (fm_dec dtX11_noPart 5 rfl) (fun _ => ?_) (fun hc7 => by exfalso; revert hc7; decide)
    refine pv_iconst (pc := 14) (v := 0) (by decide) (fm_dec dtX11_noPart 8 rfl) ?_
    refine pv_iloadn (pc := 15) (n := 2) 2 rfl rfl (fm_dec dtX11_noPart 9 rfl) ?_
    refine pv_iconst (pc := 16) (v := 1) (by decide) (fm_dec dtX11_noPart 10 rfl) ?_
    refine pv_invV3 (k := 0) (d' := 0) (pc := 17) pcv_X11_177 (by decide) rfl (Nat.le_of_ble_eq_true rfl) (by decide) (fm_dec dtX11_noPart 11 rfl) ?_
    refine c_badF1 hth ?_
    refine pv_then1 ?_
    exact pv_zreturn (pc := 20) rfl (by first | exact Or.inr rfl | exact Or.inl rfl) (fm_dec dtX11_noPart 12 rfl) (hq ⟨h4a, h4b⟩)
  · refine pv_then1 ?_
    refine pv_if_ne (pc := 7) 14 (by decide) (fm_dec dtX11_noPart 5 rfl) (fun hc7 => by exfalso; revert hc7; decide) (fun _ => ?_)
    refine pv_iconst (pc := 10) (v := 1) (by decide) (fm_dec dtX11_noPart 6 rfl) ?_
    refine pv_goto (pc := 11) 15 (by decide) (fm_dec dtX11_noPart 7 rfl) ?_
    refine pv_iloadn (pc := 15) (n := 2) 2 rfl rfl (fm_dec dtX11_noPart 9 rfl) ?_
    refine pv_iconst (pc := 16) (v := 1) (by decide) (fm_dec dtX11_noPart 10 rfl) ?_
    refine pv_invV3 (k := 0) (d' := 0) (pc := 17) pcv_X11_177 (by decide) rfl (Nat.le_of_ble_eq_true rfl) (by decide) (fm_dec dtX11_noPart 11 rfl) ?_
    refine c_badT1 hth hw ?_
    refine pv_then1 ?_
    exact pv_zreturn (pc := 20) rfl (by first | exact Or.inr rfl | exact Or.inl rfl) (fm_dec dtX11_noPart 12 rfl) (hf h4)
theorem al_b {t : Bool} (h : bI (!t) = 0) : t = true := by
  cases t with
  | true => rfl
  | false => exact absurd h (by decide)
theorem al_n {t : Bool} (h : ¬ bI (!t) = 0) : t = false := by
  cases t with
  | false => rfl
  | true => exact absurd (by decide) h
/-- 4096ths of the risk of the first n lives in lt weeks -/
def riG (D : dD) (cs : tC) (S : aS) (lt : Nat) : Nat → Int
  | 0 => 0
  | n + 1 => if S.1.2.2.1.testBit n then riG D cs S lt n else riG D cs S lt n + D.2.1 n 1 * coA D cs S.1.2.2.1 (S.1.1 + lt) n (if S.2 n = -1 then -1 else S.2 n + lt)
theorem ri_t {D : dD} {cs : tC} {S : aS} {lt n : Nat} (h : S.1.2.2.1.testBit n = true) : riG D cs S lt (n + 1) = riG D cs S lt n := if_pos h
theorem ri_f {D : dD} {cs : tC} {S : aS} {lt n : Nat} (h : S.1.2.2.1.testBit n = false) : riG D cs S lt (n + 1) = riG D cs S lt n + D.2.1 n 1 * coA D cs S.1.2.2.1 (S.1.1 + lt) n (if S.2 n = -1 then -1 else S.2 n + lt) := if_neg (by rw [h]; decide)
theorem ri_1 {D : dD} {cs : tC} {dead w n : Nat} {ag : Int} (hD : dOk D) (hn : n < D.1) : 0 ≤ D.2.1 n 1 * coA D cs dead w n ag ∧ D.2.1 n 1 * coA D cs dead w n ag ≤ 3649536 := by
  have b1 := (hD.2.2.1 n hn).2.1
  have c1 := coA_b (cs := cs) (dead := dead) (w := w) (age := ag) hD hn
  have h1 := mul_b (a := D.2.1 n 1) (b := coA D cs dead w n ag) (m := 64) (n := 57024) (by omega) (by omega) c1.1 c1.2
  omega
theorem ri_b {D : dD} {cs : tC} {S : aS} {lt : Nat} (hD : dOk D) : ∀ n, n ≤ D.1 → 0 ≤ riG D cs S lt n ∧ riG D cs S lt n ≤ 3649536 * (n : Int) := by
  intro n
  induction n with
  | zero => intro _; exact ⟨Int.le_refl _, (by show (0 : Int) ≤ 3649536 * ((0 : Nat) : Int); decide)⟩
  | succ n ih =>
    intro hn
    have h1 := ih (by omega)
    have h2 := ri_1 (cs := cs) (dead := S.1.2.2.1) (w := S.1.1 + lt) (ag := if S.2 n = -1 then -1 else S.2 n + lt) hD (show n < D.1 by omega)
    cases ht : S.1.2.2.1.testBit n with
    | true =>
      rw [ri_t ht]
      omega
    | false =>
      rw [ri_f ht]
      omega
theorem ml_i {x : Int32} {z : Int64} {a b : Int} (hx : x.toInt = a) (hz : z.toInt = b) (h1 : -1000000000 ≤ a * b) (h2 : a * b ≤ 1000000000) : (x.toInt64 * z).toInt = a * b := by
  rw [Int64.toInt_mul, Int32.toInt_toInt64, hx, hz]
  exact Int.bmod_eq_of_le (by omega) (by omega)
theorem ad_j {x z : Int64} {a b : Int} (hx : x.toInt = a) (hz : z.toInt = b) (h1 : -4000000000000 ≤ a + b) (h2 : a + b ≤ 4000000000000) : (x + z).toInt = a + b := by
  rw [Int64.toInt_add, hx, hz]
  exact Int.bmod_eq_of_le (by omega) (by omega)
/-- 4096ths that a piece put now would save -/
def saS (D : dD) (cs : tC) (S : aS) (i : Nat) : Int := if S.1.2.2.1.testBit i = true ∨ S.2 i = 0 then 0 else max 0 (D.2.1 i 1 * (coS D cs S i - coA D cs S.1.2.2.1 S.1.1 i 0))
theorem sa_0 {D : dD} {cs : tC} {S : aS} {i : Nat} (h : S.1.2.2.1.testBit i = true ∨ S.2 i = 0) : saS D cs S i = 0 := if_pos h
theorem sa_1 {D : dD} {cs : tC} {S : aS} {i : Nat} (h : ¬ S.1.2.2.1.testBit i = true) (h2 : ¬ S.2 i = 0) : saS D cs S i = max 0 (D.2.1 i 1 * (coS D cs S i - coA D cs S.1.2.2.1 S.1.1 i 0)) := if_neg (by rintro (e | e); exact h e; exact h2 e)
theorem mul_bb {a b : Int} (ha : 0 ≤ a ∧ a ≤ 64) (hb : -57024 ≤ b ∧ b ≤ 57024) : -3649536 ≤ a * b ∧ a * b ≤ 3649536 := by
  have h1 : a * b ≤ a * 57024 := Int.mul_le_mul_of_nonneg_left hb.2 ha.1
  have h2 : a * (-57024) ≤ a * b := Int.mul_le_mul_of_nonneg_left hb.1 ha.1
  omega
theorem sa_m {D : dD} {cs : tC} {S : aS} {i : Nat} (hD : dOk D) (hi : i < D.1) : -3649536 ≤ D.2.1 i 1 * (coS D cs S i - coA D cs S.1.2.2.1 S.1.1 i 0) ∧ D.2.1 i 1 * (coS D cs S i - coA D cs S.1.2.2.1 S.1.1 i 0) ≤ 3649536 := by
  have b1 := (hD.2.2.1 i hi).2.1
  have c1 := coS_b (cs := cs) (S := S) hD hi
  have c2 := coA_b (cs := cs) (dead := S.1.2.2.1) (w := S.1.1) (age := 0) hD hi
  exact mul_bb ⟨by omega, by omega⟩ ⟨by omega, by omega⟩
theorem sa_b {D : dD} {cs : tC} {S : aS} {i : Nat} (hD : dOk D) (hi : i < D.1) : 0 ≤ saS D cs S i ∧ saS D cs S i ≤ 3649536 := by
  have h := sa_m (cs := cs) (S := S) hD hi
  unfold saS
  split <;> omega
theorem mxl_0 {z : Int64} : (pvMxl true 0 z).toInt = max 0 z.toInt := by
  have z0 : (0 : Int64).toInt = 0 := by decide
  show (if z < 0 then (0 : Int64) else z).toInt = _
  split
  · rename_i h
    have h8 := Int64.lt_iff_toInt_lt.mp h
    omega
  · rename_i h
    have h8 : ¬ z.toInt < (0 : Int64).toInt := fun e => h (Int64.lt_iff_toInt_lt.mpr e)
    omega
theorem sb_j {x z : Int64} {a b : Int} (hx : x.toInt = a) (hz : z.toInt = b) (h1 : -4000000000000 ≤ a - b) (h2 : a - b ≤ 4000000000000) : (x - z).toInt = a - b := by
  rw [Int64.toInt_sub, hx, hz]
  exact Int.bmod_eq_of_le (by omega) (by omega)
theorem ho_b {D : dD} {S : aS} {i : Nat} (hD : dOk D) (hi : i < D.1) : 1 ≤ hoS D S i ∧ hoS D S i ≤ 9 := by
  have b3 := (hD.2.2.1 i hi).2.2.2.1
  have h1 : (D.2.1 i 3).toNat / (D.2.2.2.2 5).toNat ≤ (D.2.1 i 3).toNat := Nat.div_le_self _ _
  unfold hoS
  split <;> omega
/-- the same, with any long cells but the state's own -/
theorem xAq.lowJ {M M' : fmM} {D : dD} {cs : tC} {S : aS} (h : xAq M D cs S) (hk : ∀ k j, k ≠ 26 → M'.1 k j = M.1 k j) (h2 : M'.2 47 6 = M.2 47 6) : xAq M' D cs S := ⟨h.1, h.2.1.of (fun k j a b => hk k j (by omega)), h.2.2.1.f (hk 23 3 (by decide)) (fun i => hk 24 i (by decide)), h.2.2.2.1.of (fun k j a => hk k j (by omega)) h2, h.2.2.2.2⟩
set_option maxRecDepth 20000 in
theorem c_mcofA {M : fmM} {Q : fmR → fmM → Prop} {D : dD} {cs : tC} {S : aS} {i : Nat} (h : mAq M D cs S) (hi : i < D.1) (hq : ∀ (M' : fmM) (r : Int32), (∀ k j, k ≠ 5 → k ≠ 6 → M'.1 k j = M.1 k j) → M'.2 = M.2 → r.toInt = (if S.1.2.2.1.testBit i then 0 else coS D cs S i) → Q (.inl (some (.int r))) M') : pvGood Tm 8 qX11_costOf [.ref 0, .ref 7, .int (nI i)] M Q := by
  refine pvGood_of (Nat.le_of_ble_eq_true rfl) ?_
  show pvEv Tm 8 qX11_costOf 0 [some (.ref 0), some (.ref 7), some (.int (nI i))] [] M Q
  obtain ⟨hD, hY, hM, hd, ht, ho⟩ := h
  have d8 := hD.1
  have hi9 : (nI i).toInt = (i : Int) := nI_toInt (by omega)
  have hi8 : i < 8 := (by omega)
  have h1i := one_i hi8
  have e0 : M.1 7 (Int32.toNatClampNeg 0) = nI S.1.2.2.1 := nI_is ht.1 (by have := ho.2.2.1; omega)
  refine pv_aloadn (pc := 0) (n := 1) 1 rfl rfl (fm_dec dtX11_costOf 0 rfl) ?_
  refine pv_iconst (pc := 1) (v := 0) (by decide) (fm_dec dtX11_costOf 1 rfl) ?_
  refine pv_iald (k := 7) (n := 14) (pc := 2) (by decide) rfl rfl (fm_inl (by decide)) (fm_dec dtX11_costOf 2 rfl) ?_
  refine pv_iloadn (pc := 3) (n := 2) 2 rfl rfl (fm_dec dtX11_costOf 3 rfl) ?_
  refine pv_iS2 (d' := 0) (pc := 4) pcs_X11_256 (Nat.le_of_ble_eq_true rfl) (by decide) (fm_dec dtX11_costOf 4 rfl) ?_
  refine c_has (fun h4 => ?_) (fun h4 => ?_)
  · refine pv_then1 ?_
    refine pv_if_eq (pc := 7) 14 (by decide) (fm_dec dtX11_costOf 5 rfl) (fun hc7 => by exfalso; revert hc7; decide) (fun _ => ?_)
    refine pv_iconst (pc := 10) (v := 0) (by decide) (fm_dec dtX11_costOf 6 rfl) ?_
    refine pv_goto (pc := 11) 29 (by decide) (fm_dec dtX11_costOf 7 rfl) ?_
    exact pv_ireturn (pc := 29) rfl (fm_dec dtX11_costOf 20 rfl) (hq _ _ (fun _ _ _ _ => rfl) rfl (by rw [if_pos ((has8 _ ho.2.2.1 i hi8).mp (by rw [← e0]; exact h4))]; decide))
  · refine pv_then1 ?_
    refine pv_if_eq (pc := 7) 14 (by decide) (fm_dec dtX11_costOf 5 rfl) (fun _ => ?_) (fun hc7 => by exfalso; revert hc7; decide)
    refine pv_aloadn (pc := 14) (n := 0) 0 rfl rfl (fm_dec dtX11_costOf 8 rfl) ?_
    refine pv_aloadn (pc := 15) (n := 1) 1 rfl rfl (fm_dec dtX11_costOf 9 rfl) ?_
    refine pv_iloadn (pc := 16) (n := 2) 2 rfl rfl (fm_dec dtX11_costOf 10 rfl) ?_
    refine pv_aloadn (pc := 17) (n := 1) 1 rfl rfl (fm_dec dtX11_costOf 11 rfl) ?_
    refine pv_iconst (pc := 18) (v := 1) (by decide) (fm_dec dtX11_costOf 12 rfl) ?_
    refine pv_iloadn (pc := 19) (n := 2) 2 rfl rfl (fm_dec dtX11_costOf 13 rfl) ?_
    refine pv_iadd (pc := 20) (fm_dec dtX11_costOf 14 rfl) ?_
    refine pv_iald (k := 7) (n := 14) (pc := 21) (by decide) rfl rfl (ix_in h1i (by omega)) (fm_dec dtX11_costOf 15 rfl) ?_
    rw [i32_cl h1i]
    refine pv_aloadn (pc := 22) (n := 1) 1 rfl rfl (fm_dec dtX11_costOf 16 rfl) ?_
    refine pv_bipush (pc := 23) (v := 10) (by decide) (fm_dec dtX11_costOf 17 rfl) ?_
    refine pv_iald (k := 7) (n := 14) (pc := 25) (by decide) rfl rfl (fm_inl (by decide)) (fm_dec dtX11_costOf 18 rfl) ?_
    refine pv_invV4 (k := 0) (d' := 6) (pc := 26) pcv_X11_280 (by decide) rfl (Nat.le_of_ble_eq_true rfl) (by decide) (fm_dec dtX11_costOf 19 rfl) ?_
    refine c_mco hD hY hM hd ht ho hi ht.2.1 (ht.2.2.2.2.2.2 i hi) (fun M26 r26 g26 h26 e26 => ?_)
    refine pv_then1 ?_
    exact pv_ireturn (pc := 29) rfl (fm_dec dtX11_costOf 20 rfl) (hq _ _ g26 h26 (by rw [if_neg (fun h9 => h4 (by rw [e0]; exact (has8 _ ho.2.2.1 i hi8).mpr h9))]; exact e26))
set_option maxRecDepth 20000 in
theorem c_xsv {M : fmM} {Q : fmR → fmM → Prop} {D : dD} {cs : tC} {S : aS} {i : Nat} (h : xAq M D cs S) (hi : i < D.1) (hq : ∀ (M' : fmM) (r : Int64), (∀ k j, k ≠ 26 → M'.1 k j = M.1 k j) → M'.2 = M.2 → r.toInt = saS D cs S i → Q (.inl (some (.long r))) M') : pvGood Tx 10 qX0_savedRisk [.ref 32, .ref 47, .int (nI i)] M Q := by
  refine pvGood_of (Nat.le_of_ble_eq_true rfl) ?_
  show pvEv Tx 10 qX0_savedRisk 0 [some (.ref 32), some (.ref 47), some (.int (nI i)), none, none] [] M Q
  have hxq := h
  obtain ⟨hD, hX, hL, hs, ho⟩ := h
  have d8 := hD.1
  have hi9 : (nI i).toInt = (i : Int) := nI_toInt (by omega)
  have hi8 : i < 8 := (by omega)
  have g := ag_x hs hi
  have g5 : (M.1 5 i).toInt = D.2.1 i 1 := hX.2.1 i hi 1 (by decide)
  have sm := sa_m (cs := cs) (S := S) hD hi
  have c1 := coS_b (cs := cs) (S := S) hD hi
  have c2 := coA_b (cs := cs) (dead := S.1.2.2.1) (w := S.1.1) (age := 0) hD hi
  have z0 : (0 : Int32).toInt = 0 := (by decide)
  refine pv_aloadn (pc := 0) (n := 0) 0 rfl rfl (fm_dec dtX0_savedRisk 0 rfl) ?_
  refine pv_aloadn (pc := 1) (n := 1) 1 rfl rfl (fm_dec dtX0_savedRisk 1 rfl) ?_
  refine pv_iloadn (pc := 2) (n := 2) 2 rfl rfl (fm_dec dtX0_savedRisk 2 rfl) ?_
  refine pv_invV2 (k := 32) (d' := 1) (pc := 3) pcv_X0_95 (by decide) rfl (Nat.le_of_ble_eq_true rfl) (by decide) (fm_dec dtX0_savedRisk 3 rfl) ?_
  refine c_xcan hD hs ho hi (fun h3a h3b => ?_) (fun h3 => ?_)
  · refine pv_then1 ?_
    refine pv_if_eq (pc := 6) 21 (by decide) (fm_dec dtX0_savedRisk 4 rfl) (fun hc6 => by exfalso; revert hc6; decide) (fun _ => ?_)
    refine pv_aloadn (pc := 9) (n := 0) 0 rfl rfl (fm_dec dtX0_savedRisk 5 rfl) ?_
    refine pv_getR (k := 32) (j := 0) (ci := 0) (pc := 10) 3 rfl (by decide) pfl_X0_15 (by decide) rfl (by decide) (fm_dec dtX0_savedRisk 6 rfl) ?_
    refine pv_getR (k := 3) (j := 1) (ci := 8) (pc := 13) 5 rfl (by decide) pfl_X0_81 (by decide) rfl (by decide) (fm_dec dtX0_savedRisk 7 rfl) ?_
    refine pv_iloadn (pc := 16) (n := 2) 2 rfl rfl (fm_dec dtX0_savedRisk 8 rfl) ?_
    refine pv_iald (k := 5) (n := 8) (pc := 17) (by decide) rfl rfl (ix_in hi9 (by omega)) (fm_dec dtX0_savedRisk 9 rfl) ?_
    rw [i32_cl hi9]
    refine pv_if_ne (pc := 18) 23 (by decide) (fm_dec dtX0_savedRisk 10 rfl) (fun hc18 => ?_) (fun hc18 => ?_)
    · refine pv_aloadn (pc := 23) (n := 0) 0 rfl rfl (fm_dec dtX0_savedRisk 13 rfl) ?_
      refine pv_aloadn (pc := 24) (n := 1) 1 rfl rfl (fm_dec dtX0_savedRisk 14 rfl) ?_
      refine pv_iloadn (pc := 25) (n := 2) 2 rfl rfl (fm_dec dtX0_savedRisk 15 rfl) ?_
      refine pv_iconst (pc := 26) (v := 0) (by decide) (fm_dec dtX0_savedRisk 16 rfl) ?_
      refine pv_aloadn (pc := 27) (n := 1) 1 rfl rfl (fm_dec dtX0_savedRisk 17 rfl) ?_
      refine pv_getR (k := 47) (j := 0) (ci := 6) (pc := 28) 48 rfl (by decide) pfl_X0_78 (by decide) rfl (by decide) (fm_dec dtX0_savedRisk 18 rfl) ?_
      refine pv_iloadn (pc := 31) (n := 2) 2 rfl rfl (fm_dec dtX0_savedRisk 19 rfl) ?_
      refine pv_iald (k := 48) (n := 8) (pc := 32) (by decide) rfl rfl (ix_in hi9 (by omega)) (fm_dec dtX0_savedRisk 20 rfl) ?_
      rw [i32_cl hi9]
      refine pv_invV4 (k := 32) (d' := 3) (pc := 33) pcv_X0_84 (by decide) rfl (Nat.le_of_ble_eq_true rfl) (by decide) (fm_dec dtX0_savedRisk 21 rfl) ?_
      refine c_xcost hD hX hL hs ho hi g (fun M33 r33 g33 h33 e33 => ?_)
      refine pv_then1 ?_
      refine pv_aloadn (pc := 36) (n := 0) 0 rfl rfl (fm_dec dtX0_savedRisk 22 rfl) ?_
      refine pv_aloadn (pc := 37) (n := 1) 1 rfl rfl (fm_dec dtX0_savedRisk 23 rfl) ?_
      refine pv_iloadn (pc := 38) (n := 2) 2 rfl rfl (fm_dec dtX0_savedRisk 24 rfl) ?_
      refine pv_iconst (pc := 39) (v := 0) (by decide) (fm_dec dtX0_savedRisk 25 rfl) ?_
      refine pv_iconst (pc := 40) (v := 0) (by decide) (fm_dec dtX0_savedRisk 26 rfl) ?_
      refine pv_invV4 (k := 32) (d' := 3) (pc := 41) pcv_X0_84 (by decide) rfl (Nat.le_of_ble_eq_true rfl) (by decide) (fm_dec dtX0_savedRisk 27 rfl) ?_
      refine c_xcostG (ag := 0) (hxq.low g33 h33).1 (hxq.low g33 h33).2.1 (hxq.low g33 h33).2.2.1 (hxq.low g33 h33).2.2.2.1 ho hi (wk_z0 (hxq.low g33 h33).2.2.2.1 ho) (by have := ho.1; omega) (by decide) (by decide) (fun M41 r41 g41 h41 e41 => ?_)
      refine pv_then1 ?_
      refine pv_lsub (pc := 44) (fm_dec dtX0_savedRisk 28 rfl) ?_
      refine pv_lstoren (pc := 45) (n := 3) 3 rfl (by decide) rfl (fm_dec dtX0_savedRisk 29 rfl) ?_
      dsimp only [List.set_cons_zero, List.set_cons_succ]
      refine pv_lconst (pc := 46) (v := 0) (by decide) (fm_dec dtX0_savedRisk 30 rfl) ?_
      refine pv_aloadn (pc := 47) (n := 0) 0 rfl rfl (fm_dec dtX0_savedRisk 31 rfl) ?_
      refine pv_getR (k := 32) (j := 0) (ci := 0) (pc := 48) 3 rfl (by decide) pfl_X0_15 (by decide) rfl (by decide) (fm_dec dtX0_savedRisk 32 rfl) ?_
      refine pv_getR (k := 3) (j := 1) (ci := 8) (pc := 51) 5 rfl (by decide) pfl_X0_81 (by decide) rfl (by decide) (fm_dec dtX0_savedRisk 33 rfl) ?_
      refine pv_iloadn (pc := 54) (n := 2) 2 rfl rfl (fm_dec dtX0_savedRisk 34 rfl) ?_
      refine pv_iald (k := 5) (n := 8) (pc := 55) (by decide) rfl rfl (ix_in hi9 (by omega)) (fm_dec dtX0_savedRisk 35 rfl) ?_
      rw [i32_cl hi9, (show (M41.1 5 i) = M.1 5 i by rw [g41 5 i (by decide), g33 5 i (by decide)])]
      refine pv_i2l (pc := 56) (fm_dec dtX0_savedRisk 36 rfl) ?_
      refine pv_lloadn (pc := 57) (n := 3) 3 rfl rfl (fm_dec dtX0_savedRisk 37 rfl) ?_
      refine pv_lmul (pc := 58) (fm_dec dtX0_savedRisk 38 rfl) ?_
      refine pv_ml (pc := 59) pln_X0_99 plc_X0_99 pml_X0_99 (by decide) (Nat.le_of_ble_eq_true rfl) (fm_dec dtX0_savedRisk 39 rfl) ?_
      exact pv_lreturn (pc := 62) rfl (fm_dec dtX0_savedRisk 40 rfl) (hq M41 _ (fun k j a => (g41 k j a).trans (g33 k j a)) (h41.trans h33) (by rw [mxl_0, sa_1 h3a h3b, ml_i g5 (sb_j e33 e41 (by omega) (by omega)) (by omega) (by omega)]))
    · refine pv_lconst (pc := 21) (v := 0) (by decide) (fm_dec dtX0_savedRisk 11 rfl) ?_
      exact pv_lreturn (pc := 22) rfl (fm_dec dtX0_savedRisk 12 rfl) (hq M 0 (fun _ _ _ => rfl) rfl (by have e1 : D.2.1 i 1 = 0 := (by rw [← g5, hc18]; exact z0); rw [sa_1 h3a h3b, e1, Int.zero_mul]; decide))
  · refine pv_then1 ?_
    refine pv_if_eq (pc := 6) 21 (by decide) (fm_dec dtX0_savedRisk 4 rfl) (fun _ => ?_) (fun hc6 => by exfalso; revert hc6; decide)
    refine pv_lconst (pc := 21) (v := 0) (by decide) (fm_dec dtX0_savedRisk 11 rfl) ?_
    exact pv_lreturn (pc := 22) rfl (fm_dec dtX0_savedRisk 12 rfl) (hq M 0 (fun _ _ _ => rfl) rfl (by rw [sa_0 h3]; decide))
set_option maxRecDepth 20000 in
theorem c_msv {M : fmM} {Q : fmR → fmM → Prop} {D : dD} {cs : tC} {S : aS} {i : Nat} (h : mAq M D cs S) (hi : i < D.1) (hq : ∀ (M' : fmM) (r : Int32), (∀ k j, k ≠ 5 → k ≠ 6 → M'.1 k j = M.1 k j) → M'.2 = M.2 → r.toInt = saS D cs S i → Q (.inl (some (.int r))) M') : pvGood Tm 10 qX11_saved [.ref 0, .ref 7, .int (nI i)] M Q := by
  refine pvGood_of (Nat.le_of_ble_eq_true rfl) ?_
  show pvEv Tm 10 qX11_saved 0 [some (.ref 0), some (.ref 7), some (.int (nI i))] [] M Q
  have hmq := h
  obtain ⟨hD, hY, hM, hd, ht, ho⟩ := h
  have d8 := hD.1
  have hi9 : (nI i).toInt = (i : Int) := nI_toInt (by omega)
  have hi8 : i < 8 := (by omega)
  have g5 : (M.1 (35 + i) (Int32.toNatClampNeg 1)).toInt = D.2.1 i 1 := hY.2.2.2.1 i hi 1 (by decide)
  have sm := sa_m (cs := cs) (S := S) hD hi
  have c1 := coS_b (cs := cs) (S := S) hD hi
  have c2 := coA_b (cs := cs) (dead := S.1.2.2.1) (w := S.1.1) (age := 0) hD hi
  have z0 : (0 : Int32).toInt = 0 := (by decide)
  refine pv_aloadn (pc := 0) (n := 0) 0 rfl rfl (fm_dec dtX11_saved 0 rfl) ?_
  refine pv_aloadn (pc := 1) (n := 1) 1 rfl rfl (fm_dec dtX11_saved 1 rfl) ?_
  refine pv_iloadn (pc := 2) (n := 2) 2 rfl rfl (fm_dec dtX11_saved 2 rfl) ?_
  refine pv_invV2 (k := 0) (d' := 1) (pc := 3) pcv_X11_296 (by decide) rfl (Nat.le_of_ble_eq_true rfl) (by decide) (fm_dec dtX11_saved 3 rfl) ?_
  refine c_mmay hD ht ho hi (fun h3a h3b => ?_) (fun h3 => ?_)
  · refine pv_then1 ?_
    refine pv_if_eq (pc := 6) 46 (by decide) (fm_dec dtX11_saved 4 rfl) (fun hc6 => by exfalso; revert hc6; decide) (fun _ => ?_)
    refine pv_iconst (pc := 9) (v := 0) (by decide) (fm_dec dtX11_saved 5 rfl) ?_
    refine pv_aloadn (pc := 10) (n := 0) 0 rfl rfl (fm_dec dtX11_saved 6 rfl) ?_
    refine pv_getR (k := 0) (j := 14) (ci := 11) (pc := 11) 17 rfl (by decide) pfl_X11_31 (by decide) rfl (by decide) (fm_dec dtX11_saved 7 rfl) ?_
    refine pv_iloadn (pc := 14) (n := 2) 2 rfl rfl (fm_dec dtX11_saved 8 rfl) ?_
    refine pv_aald (k := 17) (n := 8) (r := (35 + i)) (pc := 15) (by decide) (Or.inr (Or.inr rfl)) rfl (rw_life.inb hi9 hi8) (rw_life.at hi9 hi8) (rw_life.2.2.2 _ hi8).2.1 (fm_dec dtX11_saved 9 rfl) ?_
    refine pv_iconst (pc := 16) (v := 1) (by decide) (fm_dec dtX11_saved 10 rfl) ?_
    refine pv_iald (k := (35 + i)) (n := 6) (pc := 17) (rw_life.2.2.2 _ hi8).2.2.1 (rw_life.2.2.2 _ hi8).2.2.2.1 (rw_life.2.2.2 _ hi8).2.2.2.2 (fm_inl (by decide)) (fm_dec dtX11_saved 11 rfl) ?_
    refine pv_aloadn (pc := 18) (n := 0) 0 rfl rfl (fm_dec dtX11_saved 12 rfl) ?_
    refine pv_aloadn (pc := 19) (n := 1) 1 rfl rfl (fm_dec dtX11_saved 13 rfl) ?_
    refine pv_iloadn (pc := 20) (n := 2) 2 rfl rfl (fm_dec dtX11_saved 14 rfl) ?_
    refine pv_invV2 (k := 0) (d' := 8) (pc := 21) pcv_X11_293 (by decide) rfl (Nat.le_of_ble_eq_true rfl) (by decide) (fm_dec dtX11_saved 15 rfl) ?_
    refine c_mcofA hmq hi (fun M21 r21 g21 h21 e21 => ?_)
    refine pv_then1 ?_
    have hm21 := hmq.low (fun k j _ a b => g21 k j a b) (g21 0 17 (by decide) (by decide))
    have g10 : (M21.1 7 (Int32.toNatClampNeg 10)).toInt = (S.1.1 : Int) := hm21.2.2.2.2.1.2.1
    refine pv_aloadn (pc := 24) (n := 0) 0 rfl rfl (fm_dec dtX11_saved 16 rfl) ?_
    refine pv_aloadn (pc := 25) (n := 1) 1 rfl rfl (fm_dec dtX11_saved 17 rfl) ?_
    refine pv_iloadn (pc := 26) (n := 2) 2 rfl rfl (fm_dec dtX11_saved 18 rfl) ?_
    refine pv_aloadn (pc := 27) (n := 1) 1 rfl rfl (fm_dec dtX11_saved 19 rfl) ?_
    refine pv_bipush (pc := 28) (v := 10) (by decide) (fm_dec dtX11_saved 20 rfl) ?_
    refine pv_iald (k := 7) (n := 14) (pc := 30) (by decide) rfl rfl (fm_inl (by decide)) (fm_dec dtX11_saved 21 rfl) ?_
    refine pv_aloadn (pc := 31) (n := 1) 1 rfl rfl (fm_dec dtX11_saved 22 rfl) ?_
    refine pv_bipush (pc := 32) (v := 10) (by decide) (fm_dec dtX11_saved 23 rfl) ?_
    refine pv_iald (k := 7) (n := 14) (pc := 34) (by decide) rfl rfl (fm_inl (by decide)) (fm_dec dtX11_saved 24 rfl) ?_
    refine pv_invV4 (k := 0) (d' := 6) (pc := 35) pcv_X11_280 (by decide) rfl (Nat.le_of_ble_eq_true rfl) (by decide) (fm_dec dtX11_saved 25 rfl) ?_
    refine c_mcoG (ag := 0) hD hm21.2.1 hm21.2.2.1 hd hm21.2.2.2.2.1 ho hi g10 (by have := ho.1; omega) (by rw [g10, if_neg (by decide)]; omega) (by decide) (fun M35 r35 g35 h35 e35 => ?_)
    refine pv_then1 ?_
    refine pv_isub (pc := 38) (fm_dec dtX11_saved 26 rfl) ?_
    refine pv_imul (pc := 39) (fm_dec dtX11_saved 27 rfl) ?_
    refine pv_mm (pc := 40) pmm_X11_240 (by decide) (Nat.le_of_ble_eq_true rfl) (fm_dec dtX11_saved 28 rfl) ?_
    refine pv_goto (pc := 43) 47 (by decide) (fm_dec dtX11_saved 29 rfl) ?_
    exact pv_ireturn (pc := 47) rfl (fm_dec dtX11_saved 31 rfl) (hq M35 _ (fun k j a b => (g35 k j a b).trans (g21 k j a b)) (h35.trans h21) (by have e3 : r21.toInt = coS D cs S i := (by rw [e21, if_neg h3a]); have e4 : (r21 - r35).toInt = coS D cs S i - coA D cs S.1.2.2.1 S.1.1 i 0 := (by rw [sc_sub (by omega) (by omega), e3, e35]); rw [mxt, sa_1 h3a h3b, z0, sc_mul (by rw [g5, e4]; omega) (by rw [g5, e4]; omega), g5, e4]))
  · refine pv_then1 ?_
    refine pv_if_eq (pc := 6) 46 (by decide) (fm_dec dtX11_saved 4 rfl) (fun _ => ?_) (fun hc6 => by exfalso; revert hc6; decide)
    refine pv_iconst (pc := 46) (v := 0) (by decide) (fm_dec dtX11_saved 30 rfl) ?_
    exact pv_ireturn (pc := 47) rfl (fm_dec dtX11_saved 31 rfl) (hq M 0 (fun _ _ _ _ => rfl) rfl (by rw [sa_0 h3]; decide))
theorem sv_d {r : Int32} {n : Nat} (h : r.toInt = (n : Int)) (h1 : 1 ≤ n) (h9 : n ≤ 9) : (4096 : Int64) * r.toInt64 = jZ (4096 * (n : Int)) ∧ 0 < (jZ (4096 * (n : Int))).toInt := by
  have e : ((4096 : Int64) * r.toInt64).toInt = 4096 * (n : Int) := by
    have z : (4096 : Int64).toInt = 4096 := by decide
    rw [Int64.toInt_mul, Int32.toInt_toInt64, z, h]
    exact Int.bmod_eq_of_le (by omega) (by omega)
  have e2 := jZ_is e
  refine ⟨e2, ?_⟩
  rw [← e2, e]
  omega
theorem sv_n {v : Int} (h : 0 ≤ v ∧ v ≤ 3649536) : 0 ≤ (jZ v).toInt := by
  have e : (jZ v).toInt = v := by
    unfold jZ
    rw [Int64.toInt_ofInt, show Int64.size = 18446744073709551616 from rfl]
    exact Int.bmod_eq_of_le (by omega) (by omega)
  omega
set_option maxRecDepth 20000 in
theorem c_xsaves {M : fmM} {Q : fmR → fmM → Prop} {D : dD} {cs : tC} {S : aS} {x p : Int32} (h : xAq M D cs S) (hn1 : ¬ inL D x → Q (.inr fmNSE) (fmI M 0 15 (M.1 0 15 + 1))) (hn2 : inL D x → ¬ (inW p 0 1) → Q (.inr fmIAE) (fmI M 0 16 (M.1 0 16 + 1))) (hq : inL D x → inW p 0 1 → ∀ M' : fmM, Q (.inl (some (.long (frV (jZ (saS D cs S x.toInt.toNat)) (jZ (4096 * (hoS D S x.toInt.toNat : Int))) p)))) M') : pvGood Tx 42 qX10_saves [.ref 0, .int x, .int p] M Q := by
  refine pvGood_of (Nat.le_of_ble_eq_true rfl) ?_
  show pvEv Tx 42 qX10_saves 0 [some (.ref 0), some (.int x), some (.int p), none, none] [] M Q
  have hxq := h
  obtain ⟨hD, hX, hL, hs, ho⟩ := h
  have d8 := hD.1
  have hl9 : (M.1 3 9).toInt = (D.1 : Int) := hX.1.1
  refine pv_aloadn (pc := 0) (n := 0) 0 rfl rfl (fm_dec dtX10_saves 0 rfl) ?_
  refine pv_iloadn (pc := 1) (n := 1) 1 rfl rfl (fm_dec dtX10_saves 1 rfl) ?_
  refine pv_invV1 (k := 0) (d' := 0) (pc := 2) pcv_X10_197 (by decide) rfl (Nat.le_of_ble_eq_true rfl) (by decide) (fm_dec dtX10_saves 2 rfl) ?_
  refine c_needL (fun h2a h2b => ?_) (fun h2 => ?_)
  · refine pv_then0 ?_
    refine pv_aloadn (pc := 5) (n := 0) 0 rfl rfl (fm_dec dtX10_saves 3 rfl) ?_
    refine pv_iloadn (pc := 6) (n := 2) 2 rfl rfl (fm_dec dtX10_saves 4 rfl) ?_
    refine pv_invV1 (k := 0) (d' := 1) (pc := 7) pcv_X10_244 (by decide) rfl (Nat.le_of_ble_eq_true rfl) (by decide) (fm_dec dtX10_saves 5 rfl) ?_
    refine c_needP (fun h7 => ?_) (fun h7 => ?_)
    · refine pv_then0 ?_
      have hn : inL D x := ⟨h2a, by omega⟩
      obtain ⟨i, hi, rfl, ei⟩ := hn.n hD
      rw [ei] at hq
      have hi9 : (nI i).toInt = (i : Int) := nI_toInt (by omega)
      have hi8 : i < 8 := (by omega)
      have hb9 := ho_b (S := S) hD hi
      have sb9 := sa_b (cs := cs) (S := S) hD hi
      refine pv_ldc2 (pc := 10) pkc_X10_265 (fm_dec dtX10_saves 6 rfl) ?_
      refine pv_aloadn (pc := 13) (n := 0) 0 rfl rfl (fm_dec dtX10_saves 7 rfl) ?_
      refine pv_getR (k := 0) (j := 6) (ci := 10) (pc := 14) 32 rfl (by decide) pfl_X10_52 (by decide) rfl (by decide) (fm_dec dtX10_saves 8 rfl) ?_
      refine pv_aloadn (pc := 17) (n := 0) 0 rfl rfl (fm_dec dtX10_saves 9 rfl) ?_
      refine pv_getR (k := 0) (j := 9) (ci := 10) (pc := 18) 46 rfl (by decide) pfl_X10_75 (by decide) rfl (by decide) (fm_dec dtX10_saves 10 rfl) ?_
      refine pv_getR (k := 46) (j := 0) (ci := 5) (pc := 21) 47 rfl (by decide) pfl_X10_90 (by decide) rfl (by decide) (fm_dec dtX10_saves 11 rfl) ?_
      refine pv_iloadn (pc := 24) (n := 1) 1 rfl rfl (fm_dec dtX10_saves 12 rfl) ?_
      refine pv_invV2 (k := 32) (d' := 2) (pc := 25) pcv_X10_267 (by decide) rfl (Nat.le_of_ble_eq_true rfl) (by decide) (fm_dec dtX10_saves 13 rfl) ?_
      refine c_xhours hD hX hs hi (fun r25 h25 => ?_)
      refine pv_then1 ?_
      refine pv_i2l (pc := 28) (fm_dec dtX10_saves 14 rfl) ?_
      refine pv_lmul (pc := 29) (fm_dec dtX10_saves 15 rfl) ?_
      rw [(sv_d h25 hb9.1 hb9.2).1]
      refine pv_lstoren (pc := 30) (n := 3) 3 rfl (by decide) rfl (fm_dec dtX10_saves 16 rfl) ?_
      dsimp only [List.set_cons_zero, List.set_cons_succ]
      refine pv_aloadn (pc := 31) (n := 0) 0 rfl rfl (fm_dec dtX10_saves 17 rfl) ?_
      refine pv_getR (k := 0) (j := 6) (ci := 10) (pc := 32) 32 rfl (by decide) pfl_X10_52 (by decide) rfl (by decide) (fm_dec dtX10_saves 18 rfl) ?_
      refine pv_aloadn (pc := 35) (n := 0) 0 rfl rfl (fm_dec dtX10_saves 19 rfl) ?_
      refine pv_getR (k := 0) (j := 9) (ci := 10) (pc := 36) 46 rfl (by decide) pfl_X10_75 (by decide) rfl (by decide) (fm_dec dtX10_saves 20 rfl) ?_
      refine pv_getR (k := 46) (j := 0) (ci := 5) (pc := 39) 47 rfl (by decide) pfl_X10_90 (by decide) rfl (by decide) (fm_dec dtX10_saves 21 rfl) ?_
      refine pv_iloadn (pc := 42) (n := 1) 1 rfl rfl (fm_dec dtX10_saves 22 rfl) ?_
      refine pv_invV2 (k := 32) (d' := 10) (pc := 43) pcv_X10_270 (by decide) rfl (Nat.le_of_ble_eq_true rfl) (by decide) (fm_dec dtX10_saves 23 rfl) ?_
      refine c_xsv hxq hi (fun M43 r43 g43 h43 e43 => ?_)
      refine pv_then1 ?_
      rw [jZ_is e43]
      refine pv_lloadn (pc := 46) (n := 3) 3 rfl rfl (fm_dec dtX10_saves 24 rfl) ?_
      refine pv_iloadn (pc := 47) (n := 2) 2 rfl rfl (fm_dec dtX10_saves 25 rfl) ?_
      refine pv_iS3 (d' := 0) (pc := 48) pcs_X10_253 (Nat.le_of_ble_eq_true rfl) (by decide) (fm_dec dtX10_saves 26 rfl) ?_
      refine c_xterm (sv_n sb9) (sv_d h25 hb9.1 hb9.2).2 ?_
      refine pv_then1 ?_
      exact pv_lreturn (pc := 51) rfl (fm_dec dtX10_saves 27 rfl) (hq hn h7 _)
    · refine pv_thenX ?_
      first | exact hn2 ⟨h2a, by omega⟩ h7 | exact hn1 (fun h8 => h2 ⟨h8.1, by have := h8.2; omega⟩)
  · refine pv_thenX ?_
    first | exact hn2 ⟨h2a, by omega⟩ h7 | exact hn1 (fun h8 => h2 ⟨h8.1, by have := h8.2; omega⟩)
set_option maxRecDepth 20000 in
theorem c_msaves {M : fmM} {Q : fmR → fmM → Prop} {D : dD} {cs : tC} {S : aS} {x p : Int32} (h : mAq M D cs S) (hn1 : ¬ inL D x → ∀ (z : Int64) (M' : fmM), M'.1 0 0 = 1 → Q (.inl (some (.long z))) M') (hn2 : inL D x → ¬ (inW p 0 1) → ∀ (z : Int64) (M' : fmM), M'.1 0 0 = 2 → Q (.inl (some (.long z))) M') (hq : inL D x → inW p 0 1 → ∀ M' : fmM, M'.1 0 0 = 0 → Q (.inl (some (.long (frV (jZ (saS D cs S x.toInt.toNat)) (jZ (4096 * (hoS D S x.toInt.toNat : Int))) p)))) M') : pvGood Tm 42 qX11_saves [.ref 0, .int x, .int p] M Q := by
  refine pvGood_of (Nat.le_of_ble_eq_true rfl) ?_
  show pvEv Tm 42 qX11_saves 0 [some (.ref 0), some (.int x), some (.int p)] [] M Q
  have hmq := h.z (x := 0)
  obtain ⟨hD, hY, hM, hd, ht, ho⟩ := hmq
  have d8 := hD.1
  have h4 : (M.1 4 0).toInt = (D.1 : Int) := hY.1
  have hl := hD.1
  refine pv_aloadn (pc := 0) (n := 0) 0 rfl rfl (fm_dec dtX11_saves 0 rfl) ?_
  refine pv_iconst (pc := 1) (v := 0) (by decide) (fm_dec dtX11_saves 1 rfl) ?_
  refine pv_putI (k := 0) (j := 0) (ci := 11) (pc := 2) pfl_X11_101 (by decide) rfl (by decide) (fm_dec dtX11_saves 2 rfl) ?_
  refine pv_aloadn (pc := 5) (n := 0) 0 rfl rfl (fm_dec dtX11_saves 3 rfl) ?_
  refine pv_aloadn (pc := 6) (n := 0) 0 rfl rfl (fm_dec dtX11_saves 4 rfl) ?_
  refine pv_iloadn (pc := 7) (n := 1) 1 rfl rfl (fm_dec dtX11_saves 5 rfl) ?_
  refine pv_invV1 (k := 0) (d' := 1) (pc := 8) pcv_X11_331 (by decide) rfl (Nat.le_of_ble_eq_true rfl) (by decide) (fm_dec dtX11_saves 6 rfl) ?_
  refine c_isLife (M := fmI M 0 0 0) h4 hl (fun k hk hkl => ?_) (fun hno => ?_)
  · refine pv_then1 ?_
    refine pv_if_ne (pc := 11) 18 (by decide) (fm_dec dtX11_saves 7 rfl) (fun _ => ?_) (fun hc11 => by exfalso; revert hc11; decide)
    refine pv_iconst (pc := 18) (v := 0) (by decide) (fm_dec dtX11_saves 10 rfl) ?_
    refine pv_iconst (pc := 19) (v := 1) (by decide) (fm_dec dtX11_saves 11 rfl) ?_
    refine pv_iconst (pc := 20) (v := 0) (by decide) (fm_dec dtX11_saves 12 rfl) ?_
    refine pv_invV3 (k := 0) (d' := 0) (pc := 21) pcv_X11_177 (by decide) rfl (Nat.le_of_ble_eq_true rfl) (by decide) (fm_dec dtX11_saves 13 rfl) ?_
    refine c_badF0 rfl ?_
    refine pv_then1 ?_
    refine pv_if_ne (pc := 24) 36 (by decide) (fm_dec dtX11_saves 14 rfl) (fun hc24 => by exfalso; revert hc24; decide) (fun _ => ?_)
    have hn : inL D x := ⟨by omega, by omega⟩
    obtain ⟨i, hi, rfl, ei⟩ := hn.n hD
    rw [ei] at hq
    have hi9 : (nI i).toInt = (i : Int) := nI_toInt (by omega)
    have hi8 : i < 8 := (by omega)
    have hb9 := ho_b (S := S) hD hi
    have sb9 := sa_b (cs := cs) (S := S) hD hi
    refine pv_aloadn (pc := 27) (n := 0) 0 rfl rfl (fm_dec dtX11_saves 15 rfl) ?_
    refine pv_iloadn (pc := 28) (n := 2) 2 rfl rfl (fm_dec dtX11_saves 16 rfl) ?_
    refine pv_iconst (pc := 29) (v := 2) (by decide) (fm_dec dtX11_saves 17 rfl) ?_
    refine pv_invV2 (k := 0) (d' := 1) (pc := 30) pcv_X11_340 (by decide) rfl (Nat.le_of_ble_eq_true rfl) (by decide) (fm_dec dtX11_saves 18 rfl) ?_
    refine c_noP rfl (by decide) (fun h30 => ?_) (fun h30 => ?_)
    · refine pv_then1 ?_
      refine pv_if_eq (pc := 33) 38 (by decide) (fm_dec dtX11_saves 19 rfl) (fun _ => ?_) (fun hc33 => by exfalso; revert hc33; decide)
      refine pv_aloadn (pc := 38) (n := 0) 0 rfl rfl (fm_dec dtX11_saves 22 rfl) ?_
      refine pv_aloadn (pc := 39) (n := 0) 0 rfl rfl (fm_dec dtX11_saves 23 rfl) ?_
      refine pv_getR (k := 0) (j := 27) (ci := 11) (pc := 40) 7 rfl (by decide) pfl_X11_61 (by decide) rfl (by decide) (fm_dec dtX11_saves 24 rfl) ?_
      refine pv_iloadn (pc := 43) (n := 1) 1 rfl rfl (fm_dec dtX11_saves 25 rfl) ?_
      refine pv_invV2 (k := 0) (d' := 10) (pc := 44) pcv_X11_355 (by decide) rfl (Nat.le_of_ble_eq_true rfl) (by decide) (fm_dec dtX11_saves 26 rfl) ?_
      refine c_msv ⟨hD, hY, hM, hd, ht, ho⟩ hi (fun M44 r44 g44 h44 e44 => ?_)
      refine pv_then1 ?_
      refine pv_i2l (pc := 47) (fm_dec dtX11_saves 27 rfl) ?_
      rw [jZ_is (show r44.toInt64.toInt = saS D cs S i by rw [Int32.toInt_toInt64]; exact e44)]
      have hm44 := (show mAq (fmI M 0 0 0) D cs S from ⟨hD, hY, hM, hd, ht, ho⟩).low (fun k j _ a b => g44 k j a b) (g44 0 17 (by decide) (by decide))
      refine pv_ldc2 (pc := 48) pkc_X11_353 (fm_dec dtX11_saves 28 rfl) ?_
      refine pv_aloadn (pc := 51) (n := 0) 0 rfl rfl (fm_dec dtX11_saves 29 rfl) ?_
      refine pv_aloadn (pc := 52) (n := 0) 0 rfl rfl (fm_dec dtX11_saves 30 rfl) ?_
      refine pv_getR (k := 0) (j := 27) (ci := 11) (pc := 53) 7 rfl (by decide) pfl_X11_61 (by decide) rfl (by decide) (fm_dec dtX11_saves 31 rfl) ?_
      refine pv_iloadn (pc := 56) (n := 1) 1 rfl rfl (fm_dec dtX11_saves 32 rfl) ?_
      refine pv_invV2 (k := 0) (d' := 2) (pc := 57) pcv_X11_290 (by decide) rfl (Nat.le_of_ble_eq_true rfl) (by decide) (fm_dec dtX11_saves 33 rfl) ?_
      refine c_hours7 hi9 hi8 (h5_ne hD hm44.2.1) ?_
      refine pv_then1 ?_
      refine pv_i2l (pc := 60) (fm_dec dtX11_saves 34 rfl) ?_
      refine pv_lmul (pc := 61) (fm_dec dtX11_saves 35 rfl) ?_
      rw [(sv_d (hrV_n hD hm44.2.1 hm44.2.2.2.2.1 ho hi) hb9.1 hb9.2).1]
      refine pv_iloadn (pc := 62) (n := 2) 2 rfl rfl (fm_dec dtX11_saves 36 rfl) ?_
      refine pv_iS3 (d' := 0) (pc := 63) pcs_X11_345 (Nat.le_of_ble_eq_true rfl) (by decide) (fm_dec dtX11_saves 37 rfl) ?_
      refine c_mterm (sv_n sb9) (sv_d (hrV_n hD hm44.2.1 hm44.2.2.2.2.1 ho hi) hb9.1 hb9.2).2 ?_
      refine pv_then1 ?_
      exact pv_lreturn (pc := 66) rfl (fm_dec dtX11_saves 38 rfl) (hq hn h30 _ ((g44 0 0 (by decide) (by decide)).trans rfl))
    · refine pv_then1 ?_
      refine pv_if_eq (pc := 33) 38 (by decide) (fm_dec dtX11_saves 19 rfl) (fun hc33 => by exfalso; revert hc33; decide) (fun _ => ?_)
      refine pv_lconst (pc := 36) (v := 0) (by decide) (fm_dec dtX11_saves 20 rfl) ?_
      exact pv_lreturn (pc := 37) rfl (fm_dec dtX11_saves 21 rfl) (hn2 hn h30 _ _ rfl)
  · refine pv_then1 ?_
    refine pv_if_ne (pc := 11) 18 (by decide) (fm_dec dtX11_saves 7 rfl) (fun hc11 => by exfalso; revert hc11; decide) (fun _ => ?_)
    refine pv_iconst (pc := 14) (v := 1) (by decide) (fm_dec dtX11_saves 8 rfl) ?_
    refine pv_goto (pc := 15) 19 (by decide) (fm_dec dtX11_saves 9 rfl) ?_
    refine pv_iconst (pc := 19) (v := 1) (by decide) (fm_dec dtX11_saves 11 rfl) ?_
    refine pv_iconst (pc := 20) (v := 0) (by decide) (fm_dec dtX11_saves 12 rfl) ?_
    refine pv_invV3 (k := 0) (d' := 0) (pc := 21) pcv_X11_177 (by decide) rfl (Nat.le_of_ble_eq_true rfl) (by decide) (fm_dec dtX11_saves 13 rfl) ?_
    refine c_badT0 rfl (by decide) ?_
    refine pv_then1 ?_
    refine pv_if_ne (pc := 24) 36 (by decide) (fm_dec dtX11_saves 14 rfl) (fun _ => ?_) (fun hc24 => by exfalso; revert hc24; decide)
    refine pv_lconst (pc := 36) (v := 0) (by decide) (fm_dec dtX11_saves 20 rfl) ?_
    exact pv_lreturn (pc := 37) rfl (fm_dec dtX11_saves 21 rfl) (hn1 hno _ _ rfl)
theorem xe_saves {M : fmM} {D : dD} {cs : tC} {S : aS} {x p : Int32} (h : xAq M D cs S) : pvGood Tx 250 qX10_saves [.ref 0, .int x, .int p] M (fun r _ => (inL D x ∧ (inW p 0 1) ∧ r = .inl (some (.long (frV (jZ (saS D cs S x.toInt.toNat)) (jZ (4096 * (hoS D S x.toInt.toNat : Int))) p)))) ∨ (¬ inL D x ∧ r = .inr fmNSE) ∨ (inL D x ∧ ¬ (inW p 0 1) ∧ r = .inr fmIAE)) := (c_xsaves h (fun h => Or.inr (Or.inl ⟨h, rfl⟩)) (fun h h' => Or.inr (Or.inr ⟨h, h', rfl⟩)) (fun h h' M' => Or.inl ⟨h, h', rfl⟩)).up (by decide)
theorem me_saves {M : fmM} {D : dD} {cs : tC} {S : aS} {x p : Int32} (h : mAq M D cs S) : pvGood Tm 250 qX11_saves [.ref 0, .int x, .int p] M (fun r M' => (inL D x ∧ (inW p 0 1) ∧ r = .inl (some (.long (frV (jZ (saS D cs S x.toInt.toNat)) (jZ (4096 * (hoS D S x.toInt.toNat : Int))) p))) ∧ M'.1 0 0 = 0) ∨ (¬ inL D x ∧ M'.1 0 0 = 1) ∨ (inL D x ∧ ¬ (inW p 0 1) ∧ M'.1 0 0 = 2)) := (c_msaves h (fun h z M' e => Or.inr (Or.inl ⟨h, e⟩)) (fun h h' z M' e => Or.inr (Or.inr ⟨h, h', e⟩)) (fun h h' M' z => Or.inl ⟨h, h', rfl, z⟩)).up (by decide)
