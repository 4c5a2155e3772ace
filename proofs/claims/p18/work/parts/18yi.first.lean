theorem al_b {t : Bool} (h : bI (!t) = 0) : t = true := by
  cases t with
  | true => rfl
  | false => exact absurd h (by decide)
theorem al_n {t : Bool} (h : ¬ bI (!t) = 0) : t = false := by
  cases t with
  | false => rfl
  | true => exact absurd (by decide) h
/-- 4096ths of the risk of the first n lives in lt weeks -/
def riG (D : dD) (cs : tC) (S : aS) (lt : Nat) : Nat → Int
  | 0 => 0
  | n + 1 => if S.1.2.2.1.testBit n then riG D cs S lt n else riG D cs S lt n + D.2.1 n 1 * coA D cs S.1.2.2.1 (S.1.1 + lt) n (if S.2 n = -1 then -1 else S.2 n + lt)
theorem ri_t {D : dD} {cs : tC} {S : aS} {lt n : Nat} (h : S.1.2.2.1.testBit n = true) : riG D cs S lt (n + 1) = riG D cs S lt n := if_pos h
theorem ri_f {D : dD} {cs : tC} {S : aS} {lt n : Nat} (h : S.1.2.2.1.testBit n = false) : riG D cs S lt (n + 1) = riG D cs S lt n + D.2.1 n 1 * coA D cs S.1.2.2.1 (S.1.1 + lt) n (if S.2 n = -1 then -1 else S.2 n + lt) := if_neg (by rw [h]; decide)
theorem ri_1 {D : dD} {cs : tC} {dead w n : Nat} {ag : Int} (hD : dOk D) (hn : n < D.1) : 0 ≤ D.2.1 n 1 * coA D cs dead w n ag ∧ D.2.1 n 1 * coA D cs dead w n ag ≤ 3649536 := by
  have b1 := (hD.2.2.1 n hn).2.1
  have c1 := coA_b (cs := cs) (dead := dead) (w := w) (age := ag) hD hn
  have h1 := mul_b (a := D.2.1 n 1) (b := coA D cs dead w n ag) (m := 64) (n := 57024) (by omega) (by omega) c1.1 c1.2
  omega
theorem ri_b {D : dD} {cs : tC} {S : aS} {lt : Nat} (hD : dOk D) : ∀ n, n ≤ D.1 → 0 ≤ riG D cs S lt n ∧ riG D cs S lt n ≤ 3649536 * (n : Int) := by
  intro n
  induction n with
  | zero => intro _; exact ⟨Int.le_refl _, (by show (0 : Int) ≤ 3649536 * ((0 : Nat) : Int); decide)⟩
  | succ n ih =>
    intro hn
    have h1 := ih (by omega)
    have h2 := ri_1 (cs := cs) (dead := S.1.2.2.1) (w := S.1.1 + lt) (ag := if S.2 n = -1 then -1 else S.2 n + lt) hD (show n < D.1 by omega)
    cases ht : S.1.2.2.1.testBit n with
    | true =>
      rw [ri_t ht]
      omega
    | false =>
      rw [ri_f ht]
      omega
theorem ml_i {x : Int32} {z : Int64} {a b : Int} (hx : x.toInt = a) (hz : z.toInt = b) (h1 : -1000000000 ≤ a * b) (h2 : a * b ≤ 1000000000) : (x.toInt64 * z).toInt = a * b := by
  rw [Int64.toInt_mul, Int32.toInt_toInt64, hx, hz]
  exact Int.bmod_eq_of_le (by omega) (by omega)
theorem ad_j {x z : Int64} {a b : Int} (hx : x.toInt = a) (hz : z.toInt = b) (h1 : -4000000000000 ≤ a + b) (h2 : a + b ≤ 4000000000000) : (x + z).toInt = a + b := by
  rw [Int64.toInt_add, hx, hz]
  exact Int.bmod_eq_of_le (by omega) (by omega)
/-- 4096ths that a piece put now would save -/
def saS (D : dD) (cs : tC) (S : aS) (i : Nat) : Int := if S.1.2.2.1.testBit i = true ∨ S.2 i = 0 then 0 else max 0 (D.2.1 i 1 * (coS D cs S i - coA D cs S.1.2.2.1 S.1.1 i 0))
theorem sa_0 {D : dD} {cs : tC} {S : aS} {i : Nat} (h : S.1.2.2.1.testBit i = true ∨ S.2 i = 0) : saS D cs S i = 0 := if_pos h
theorem sa_1 {D : dD} {cs : tC} {S : aS} {i : Nat} (h : ¬ S.1.2.2.1.testBit i = true) (h2 : ¬ S.2 i = 0) : saS D cs S i = max 0 (D.2.1 i 1 * (coS D cs S i - coA D cs S.1.2.2.1 S.1.1 i 0)) := if_neg (by rintro (e | e); exact h e; exact h2 e)
theorem mul_bb {a b : Int} (ha : 0 ≤ a ∧ a ≤ 64) (hb : -57024 ≤ b ∧ b ≤ 57024) : -3649536 ≤ a * b ∧ a * b ≤ 3649536 := by
  have h1 : a * b ≤ a * 57024 := Int.mul_le_mul_of_nonneg_left hb.2 ha.1
  have h2 : a * (-57024) ≤ a * b := Int.mul_le_mul_of_nonneg_left hb.1 ha.1
  omega
theorem sa_m {D : dD} {cs : tC} {S : aS} {i : Nat} (hD : dOk D) (hi : i < D.1) : -3649536 ≤ D.2.1 i 1 * (coS D cs S i - coA D cs S.1.2.2.1 S.1.1 i 0) ∧ D.2.1 i 1 * (coS D cs S i - coA D cs S.1.2.2.1 S.1.1 i 0) ≤ 3649536 := by
  have b1 := (hD.2.2.1 i hi).2.1
  have c1 := coS_b (cs := cs) (S := S) hD hi
  have c2 := coA_b (cs := cs) (dead := S.1.2.2.1) (w := S.1.1) (age := 0) hD hi
  exact mul_bb ⟨by omega, by omega⟩ ⟨by omega, by omega⟩
theorem sa_b {D : dD} {cs : tC} {S : aS} {i : Nat} (hD : dOk D) (hi : i < D.1) : 0 ≤ saS D cs S i ∧ saS D cs S i ≤ 3649536 := by
  have h := sa_m (cs := cs) (S := S) hD hi
  unfold saS
  split <;> omega
theorem mxl_0 {z : Int64} : (pvMxl true 0 z).toInt = max 0 z.toInt := by
  have z0 : (0 : Int64).toInt = 0 := by decide
  show (if z < 0 then (0 : Int64) else z).toInt = _
  split
  · rename_i h
    have h8 := Int64.lt_iff_toInt_lt.mp h
    omega
  · rename_i h
    have h8 : ¬ z.toInt < (0 : Int64).toInt := fun e => h (Int64.lt_iff_toInt_lt.mpr e)
    omega
theorem sb_j {x z : Int64} {a b : Int} (hx : x.toInt = a) (hz : z.toInt = b) (h1 : -4000000000000 ≤ a - b) (h2 : a - b ≤ 4000000000000) : (x - z).toInt = a - b := by
  rw [Int64.toInt_sub, hx, hz]
  exact Int.bmod_eq_of_le (by omega) (by omega)
theorem ho_b {D : dD} {S : aS} {i : Nat} (hD : dOk D) (hi : i < D.1) : 1 ≤ hoS D S i ∧ hoS D S i ≤ 9 := by
  have b3 := (hD.2.2.1 i hi).2.2.2.1
  have h1 : (D.2.1 i 3).toNat / (D.2.2.2.2 5).toNat ≤ (D.2.1 i 3).toNat := Nat.div_le_self _ _
  unfold hoS
  split <;> omega
/-- the same, with any long cells but the state's own -/
theorem xAq.lowJ {M M' : fmM} {D : dD} {cs : tC} {S : aS} (h : xAq M D cs S) (hk : ∀ k j, k ≠ 26 → M'.1 k j = M.1 k j) (h2 : M'.2 47 6 = M.2 47 6) : xAq M' D cs S := ⟨h.1, h.2.1.of (fun k j a b => hk k j (by omega)), h.2.2.1.f (hk 23 3 (by decide)) (fun i => hk 24 i (by decide)), h.2.2.2.1.of (fun k j a => hk k j (by omega)) h2, h.2.2.2.2⟩
/-- who saves the most by the hour, of the first n -/
def fiS (sv : Nat → Int) (hr : Nat → Nat) (most : Nat) : Nat → Int
  | 0 => -1
  | n + 1 => if hr n ≤ most ∧ 0 < sv n ∧ (fiS sv hr most n = -1 ∨ sv (fiS sv hr most n).toNat * hr n < sv n * hr (fiS sv hr most n).toNat) then (n : Int) else fiS sv hr most n
theorem fi_t {sv : Nat → Int} {hr : Nat → Nat} {most n : Nat} (h : hr n ≤ most ∧ 0 < sv n ∧ (fiS sv hr most n = -1 ∨ sv (fiS sv hr most n).toNat * hr n < sv n * hr (fiS sv hr most n).toNat)) : fiS sv hr most (n + 1) = (n : Int) := if_pos h
theorem fi_f {sv : Nat → Int} {hr : Nat → Nat} {most n : Nat} (h : ¬ (hr n ≤ most ∧ 0 < sv n ∧ (fiS sv hr most n = -1 ∨ sv (fiS sv hr most n).toNat * hr n < sv n * hr (fiS sv hr most n).toNat))) : fiS sv hr most (n + 1) = fiS sv hr most n := if_neg h
theorem fi_b {sv : Nat → Int} {hr : Nat → Nat} {most : Nat} : ∀ n, -1 ≤ fiS sv hr most n ∧ fiS sv hr most n < (n : Int) ∧ (fiS sv hr most n ≠ -1 → 0 < sv (fiS sv hr most n).toNat) := by
  intro n
  induction n with
  | zero => exact ⟨Int.le_refl _, (by show (-1 : Int) < ((0 : Nat) : Int); decide), fun h => absurd rfl h⟩
  | succ n ih =>
    by_cases h : hr n ≤ most ∧ 0 < sv n ∧ (fiS sv hr most n = -1 ∨ sv (fiS sv hr most n).toNat * hr n < sv n * hr (fiS sv hr most n).toNat)
    · rw [fi_t h, Int.toNat_natCast]
      exact ⟨by omega, by omega, fun _ => h.2.1⟩
    · rw [fi_f h]
      exact ⟨ih.1, by omega, ih.2.2⟩
theorem mj_b {a : Int} {n : Nat} (ha : 0 ≤ a ∧ a ≤ 3649536) (hn : n ≤ 9) : 0 ≤ a * (n : Int) ∧ a * (n : Int) ≤ 32845824 := by
  have h1 := mul_b (a := a) (b := (n : Int)) (m := 3649536) (n := 9) ha.1 ha.2 (Int.natCast_nonneg _) (by omega)
  omega
theorem mj_i {x : Int64} {z : Int32} {a : Int} {n : Nat} (hx : x.toInt = a) (hz : z.toInt = (n : Int)) (ha : 0 ≤ a ∧ a ≤ 3649536) (hn : n ≤ 9) : (x * z.toInt64).toInt = a * (n : Int) := by
  have h := mj_b ha hn
  rw [Int64.toInt_mul, Int32.toInt_toInt64, hx, hz]
  exact Int.bmod_eq_of_le (by omega) (by omega)
theorem lc_gt {x z : Int64} : lg_cmp x z ≤ 0 ↔ x.toInt ≤ z.toInt := by
  unfold lg_cmp
  split
  · rename_i h
    have h8 : z.toInt < x.toInt := Int64.lt_iff_toInt_lt.mp h
    exact ⟨fun h9 => absurd h9 (by decide), fun h9 => absurd h9 (by omega)⟩
  · rename_i h
    have h8 : ¬ z.toInt < x.toInt := fun e => h (Int64.lt_iff_toInt_lt.mpr e)
    split
    · exact ⟨fun _ => by omega, fun _ => by decide⟩
    · exact ⟨fun _ => by omega, fun _ => by decide⟩
set_option maxRecDepth 20000 in
theorem c_mcofA {M : fmM} {Q : fmR → fmM → Prop} {D : dD} {cs : tC} {S : aS} {i : Nat} (h : mAq M D cs S) (hi : i < D.1) (hq : ∀ (M' : fmM) (r : Int32), (∀ k j, k ≠ 5 → k ≠ 6 → M'.1 k j = M.1 k j) → M'.2 = M.2 → r.toInt = (if S.1.2.2.1.testBit i then 0 else coS D cs S i) → Q (.inl (some (.int r))) M') : pvGood Tm 8 qX11_costOf [.ref 0, .ref 7, .int (nI i)] M Q := by
  refine pvGood_of (Nat.le_of_ble_eq_true rfl) ?_
  show pvEv Tm 8 qX11_costOf 0 [some (.ref 0), some (.ref 7), some (.int (nI i))] [] M Q
  obtain ⟨hD, hY, hM, hd, ht, ho⟩ := h
  have d8 := hD.1
  have hi9 : (nI i).toInt = (i : Int) := nI_toInt (by omega)
  have hi8 : i < 8 := (by omega)
  have h1i := one_i hi8
  have e0 : M.1 7 (Int32.toNatClampNeg 0) = nI S.1.2.2.1 := nI_is ht.1 (by have := ho.2.2.1; omega)
  refine pv_aloadn (pc := 0) (n := 1) 1 rfl rfl (fm_dec dtX11_costOf 0 rfl) ?_
  refine pv_iconst (pc := 1) (v := 0) (by decide) (fm_dec dtX11_costOf 1 rfl) ?_
  refine pv_iald (k := 7) (n := 14) (pc := 2) (by decide) rfl rfl (fm_inl (by decide)) (fm_dec dtX11_costOf 2 rfl) ?_
  refine pv_iloadn (pc := 3) (n := 2) 2 rfl rfl (fm_dec dtX11_costOf 3 rfl) ?_
  refine pv_iS2 (d' := 0) (pc := 4) pcs_X11_256 (Nat.le_of_ble_eq_true rfl) (by decide) (fm_dec dtX11_costOf 4 rfl) ?_
  refine c_has (fun h4 => ?_) (fun h4 => ?_)
  · refine pv_then1 ?_
    refine pv_if_eq (pc := 7) 14 (by decide) (fm_dec dtX11_costOf 5 rfl) (fun hc7 => by exfalso; revert hc7; decide) (fun _ => ?_)
    refine pv_iconst (pc := 10) (v := 0) (by decide) (fm_dec dtX11_costOf 6 rfl) ?_
    refine pv_goto (pc := 11) 29 (by decide) (fm_dec dtX11_costOf 7 rfl) ?_
    exact pv_ireturn (pc := 29) rfl (fm_dec dtX11_costOf 20 rfl) (hq _ _ (fun _ _ _ _ => rfl) rfl (by rw [if_pos ((has8 _ ho.2.2.1 i hi8).mp (by rw [← e0]; exact h4))]; decide))
  · refine pv_then1 ?_
    refine pv_if_eq (pc := 7) 14 (by decide) (fm_dec dtX11_costOf 5 rfl) (fun _ => ?_) (fun hc7 => by exfalso; revert hc7; decide)
    refine pv_aloadn (pc := 14) (n := 0) 0 rfl rfl (fm_dec dtX11_costOf 8 rfl) ?_
    refine pv_aloadn (pc := 15) (n := 1) 1 rfl rfl (fm_dec dtX11_costOf 9 rfl) ?_
    refine pv_iloadn (pc := 16) (n := 2) 2 rfl rfl (fm_dec dtX11_costOf 10 rfl) ?_
    refine pv_aloadn (pc := 17) (n := 1) 1 rfl rfl (fm_dec dtX11_costOf 11 rfl) ?_
    refine pv_iconst (pc := 18) (v := 1) (by decide) (fm_dec dtX11_costOf 12 rfl) ?_
    refine pv_iloadn (pc := 19) (n := 2) 2 rfl rfl (fm_dec dtX11_costOf 13 rfl) ?_
    refine pv_iadd (pc := 20) (fm_dec dtX11_costOf 14 rfl) ?_
    refine pv_iald (k := 7) (n := 14) (pc := 21) (by decide) rfl rfl (ix_in h1i (by omega)) (fm_dec dtX11_costOf 15 rfl) ?_
    rw [i32_cl h1i]
    refine pv_aloadn (pc := 22) (n := 1) 1 rfl rfl (fm_dec dtX11_costOf 16 rfl) ?_
    refine pv_bipush (pc := 23) (v := 10) (by decide) (fm_dec dtX11_costOf 17 rfl) ?_
    refine pv_iald (k := 7) (n := 14) (pc := 25) (by decide) rfl rfl (fm_inl (by decide)) (fm_dec dtX11_costOf 18 rfl) ?_
    refine pv_invV4 (k := 0) (d' := 6) (pc := 26) pcv_X11_280 (by decide) rfl (Nat.le_of_ble_eq_true rfl) (by decide) (fm_dec dtX11_costOf 19 rfl) ?_
    refine c_mco hD hY hM hd ht ho hi ht.2.1 (ht.2.2.2.2.2.2 i hi) (fun M26 r26 g26 h26 e26 => ?_)
    refine pv_then1 ?_
    exact pv_ireturn (pc := 29) rfl (fm_dec dtX11_costOf 20 rfl) (hq _ _ g26 h26 (by rw [if_neg (fun h9 => h4 (by rw [e0]; exact (has8 _ ho.2.2.1 i hi8).mpr h9))]; exact e26))
set_option maxRecDepth 20000 in
theorem c_xsv {M : fmM} {Q : fmR → fmM → Prop} {D : dD} {cs : tC} {S : aS} {i : Nat} (h : xAq M D cs S) (hi : i < D.1) (hq : ∀ (M' : fmM) (r : Int64), (∀ k j, k ≠ 26 → M'.1 k j = M.1 k j) → M'.2 = M.2 → r.toInt = saS D cs S i → Q (.inl (some (.long r))) M') : pvGood Tx 10 qX0_savedRisk [.ref 32, .ref 47, .int (nI i)] M Q := by
  refine pvGood_of (Nat.le_of_ble_eq_true rfl) ?_
  show pvEv Tx 10 qX0_savedRisk 0 [some (.ref 32), some (.ref 47), some (.int (nI i)), none, none] [] M Q
  have hxq := h
  obtain ⟨hD, hX, hL, hs, ho⟩ := h
  have d8 := hD.1
  have hi9 : (nI i).toInt = (i : Int) := nI_toInt (by omega)
  have hi8 : i < 8 := (by omega)
  have g := ag_x hs hi
  have g5 : (M.1 5 i).toInt = D.2.1 i 1 := hX.2.1 i hi 1 (by decide)
  have sm := sa_m (cs := cs) (S := S) hD hi
  have c1 := coS_b (cs := cs) (S := S) hD hi
  have c2 := coA_b (cs := cs) (dead := S.1.2.2.1) (w := S.1.1) (age := 0) hD hi
  have z0 : (0 : Int32).toInt = 0 := (by decide)
  refine pv_aloadn (pc := 0) (n := 0) 0 rfl rfl (fm_dec dtX0_savedRisk 0 rfl) ?_
  refine pv_aloadn (pc := 1) (n := 1) 1 rfl rfl (fm_dec dtX0_savedRisk 1 rfl) ?_
  refine pv_iloadn (pc := 2) (n := 2) 2 rfl rfl (fm_dec dtX0_savedRisk 2 rfl) ?_
  refine pv_invV2 (k := 32) (d' := 1) (pc := 3) pcv_X0_95 (by decide) rfl (Nat.le_of_ble_eq_true rfl) (by decide) (fm_dec dtX0_savedRisk 3 rfl) ?_
  refine c_xcan hD hs ho hi (fun h3a h3b => ?_) (fun h3 => ?_)
  · refine pv_then1 ?_
    refine pv_if_eq (pc := 6) 21 (by decide) (fm_dec dtX0_savedRisk 4 rfl) (fun hc6 => by exfalso; revert hc6; decide) (fun _ => ?_)
    refine pv_aloadn (pc := 9) (n := 0) 0 rfl rfl (fm_dec dtX0_savedRisk 5 rfl) ?_
    refine pv_getR (k := 32) (j := 0) (ci := 0) (pc := 10) 3 rfl (by decide) pfl_X0_15 (by decide) rfl (by decide) (fm_dec dtX0_savedRisk 6 rfl) ?_
    refine pv_getR (k := 3) (j := 1) (ci := 8) (pc := 13) 5 rfl (by decide) pfl_X0_81 (by decide) rfl (by decide) (fm_dec dtX0_savedRisk 7 rfl) ?_
    refine pv_iloadn (pc := 16) (n := 2) 2 rfl rfl (fm_dec dtX0_savedRisk 8 rfl) ?_
    refine pv_iald (k := 5) (n := 8) (pc := 17) (by decide) rfl rfl (ix_in hi9 (by omega)) (fm_dec dtX0_savedRisk 9 rfl) ?_
    rw [i32_cl hi9]
    refine pv_if_ne (pc := 18) 23 (by decide) (fm_dec dtX0_savedRisk 10 rfl) (fun hc18 => ?_) (fun hc18 => ?_)
    · refine pv_aloadn (pc := 23) (n := 0) 0 rfl rfl (fm_dec dtX0_savedRisk 13 rfl) ?_
      refine pv_aloadn (pc := 24) (n := 1) 1 rfl rfl (fm_dec dtX0_savedRisk 14 rfl) ?_
      refine pv_iloadn (pc := 25) (n := 2) 2 rfl rfl (fm_dec dtX0_savedRisk 15 rfl) ?_
      refine pv_iconst (pc := 26) (v := 0) (by decide) (fm_dec dtX0_savedRisk 16 rfl) ?_
      refine pv_aloadn (pc := 27) (n := 1) 1 rfl rfl (fm_dec dtX0_savedRisk 17 rfl) ?_
      refine pv_getR (k := 47) (j := 0) (ci := 6) (pc := 28) 48 rfl (by decide) pfl_X0_78 (by decide) rfl (by decide) (fm_dec dtX0_savedRisk 18 rfl) ?_
      refine pv_iloadn (pc := 31) (n := 2) 2 rfl rfl (fm_dec dtX0_savedRisk 19 rfl) ?_
      refine pv_iald (k := 48) (n := 8) (pc := 32) (by decide) rfl rfl (ix_in hi9 (by omega)) (fm_dec dtX0_savedRisk 20 rfl) ?_
      rw [i32_cl hi9]
      refine pv_invV4 (k := 32) (d' := 3) (pc := 33) pcv_X0_84 (by decide) rfl (Nat.le_of_ble_eq_true rfl) (by decide) (fm_dec dtX0_savedRisk 21 rfl) ?_
      refine c_xcost hD hX hL hs ho hi g (fun M33 r33 g33 h33 e33 => ?_)
      refine pv_then1 ?_
      refine pv_aloadn (pc := 36) (n := 0) 0 rfl rfl (fm_dec dtX0_savedRisk 22 rfl) ?_
      refine pv_aloadn (pc := 37) (n := 1) 1 rfl rfl (fm_dec dtX0_savedRisk 23 rfl) ?_
      refine pv_iloadn (pc := 38) (n := 2) 2 rfl rfl (fm_dec dtX0_savedRisk 24 rfl) ?_
      refine pv_iconst (pc := 39) (v := 0) (by decide) (fm_dec dtX0_savedRisk 25 rfl) ?_
      refine pv_iconst (pc := 40) (v := 0) (by decide) (fm_dec dtX0_savedRisk 26 rfl) ?_
      refine pv_invV4 (k := 32) (d' := 3) (pc := 41) pcv_X0_84 (by decide) rfl (Nat.le_of_ble_eq_true rfl) (by decide) (fm_dec dtX0_savedRisk 27 rfl) ?_
      refine c_xcostG (ag := 0) (hxq.low g33 h33).1 (hxq.low g33 h33).2.1 (hxq.low g33 h33).2.2.1 (hxq.low g33 h33).2.2.2.1 ho hi (wk_z0 (hxq.low g33 h33).2.2.2.1 ho) (by have := ho.1; omega) (by decide) (by decide) (fun M41 r41 g41 h41 e41 => ?_)
      refine pv_then1 ?_
      refine pv_lsub (pc := 44) (fm_dec dtX0_savedRisk 28 rfl) ?_
      refine pv_lstoren (pc := 45) (n := 3) 3 rfl (by decide) rfl (fm_dec dtX0_savedRisk 29 rfl) ?_
      dsimp only [List.set_cons_zero, List.set_cons_succ]
      refine pv_lconst (pc := 46) (v := 0) (by decide) (fm_dec dtX0_savedRisk 30 rfl) ?_
      refine pv_aloadn (pc := 47) (n := 0) 0 rfl rfl (fm_dec dtX0_savedRisk 31 rfl) ?_
      refine pv_getR (k := 32) (j := 0) (ci := 0) (pc := 48) 3 rfl (by decide) pfl_X0_15 (by decide) rfl (by decide) (fm_dec dtX0_savedRisk 32 rfl) ?_
      refine pv_getR (k := 3) (j := 1) (ci := 8) (pc := 51) 5 rfl (by decide) pfl_X0_81 (by decide) rfl (by decide) (fm_dec dtX0_savedRisk 33 rfl) ?_
      refine pv_iloadn (pc := 54) (n := 2) 2 rfl rfl (fm_dec dtX0_savedRisk 34 rfl) ?_
      refine pv_iald (k := 5) (n := 8) (pc := 55) (by decide) rfl rfl (ix_in hi9 (by omega)) (fm_dec dtX0_savedRisk 35 rfl) ?_
      rw [i32_cl hi9, (show (M41.1 5 i) = M.1 5 i by rw [g41 5 i (by decide), g33 5 i (by decide)])]
      refine pv_i2l (pc := 56) (fm_dec dtX0_savedRisk 36 rfl) ?_
      refine pv_lloadn (pc := 57) (n := 3) 3 rfl rfl (fm_dec dtX0_savedRisk 37 rfl) ?_
      refine pv_lmul (pc := 58) (fm_dec dtX0_savedRisk 38 rfl) ?_
      refine pv_ml (pc := 59) pln_X0_99 plc_X0_99 pml_X0_99 (by decide) (Nat.le_of_ble_eq_true rfl) (fm_dec dtX0_savedRisk 39 rfl) ?_
      exact pv_lreturn (pc := 62) rfl (fm_dec dtX0_savedRisk 40 rfl) (hq M41 _ (fun k j a => (g41 k j a).trans (g33 k j a)) (h41.trans h33) (by rw [mxl_0, sa_1 h3a h3b, ml_i g5 (sb_j e33 e41 (by omega) (by omega)) (by omega) (by omega)]))
    · refine pv_lconst (pc := 21) (v := 0) (by decide) (fm_dec dtX0_savedRisk 11 rfl) ?_
      exact pv_lreturn (pc := 22) rfl (fm_dec dtX0_savedRisk 12 rfl) (hq M 0 (fun _ _ _ => rfl) rfl (by have e1 : D.2.1 i 1 = 0 := (by rw [← g5, hc18]; exact z0); rw [sa_1 h3a h3b, e1, Int.zero_mul]; decide))
  · refine pv_then1 ?_
    refine pv_if_eq (pc := 6) 21 (by decide) (fm_dec dtX0_savedRisk 4 rfl) (fun _ => ?_) (fun hc6 => by exfalso; revert hc6; decide)
    refine pv_lconst (pc := 21) (v := 0) (by decide) (fm_dec dtX0_savedRisk 11 rfl) ?_
    exact pv_lreturn (pc := 22) rfl (fm_dec dtX0_savedRisk 12 rfl) (hq M 0 (fun _ _ _ => rfl) rfl (by rw [sa_0 h3]; decide))
set_option maxRecDepth 20000 in
theorem c_msv {M : fmM} {Q : fmR → fmM → Prop} {D : dD} {cs : tC} {S : aS} {i : Nat} (h : mAq M D cs S) (hi : i < D.1) (hq : ∀ (M' : fmM) (r : Int32), (∀ k j, k ≠ 5 → k ≠ 6 → M'.1 k j = M.1 k j) → M'.2 = M.2 → r.toInt = saS D cs S i → Q (.inl (some (.int r))) M') : pvGood Tm 10 qX11_saved [.ref 0, .ref 7, .int (nI i)] M Q := by
  refine pvGood_of (Nat.le_of_ble_eq_true rfl) ?_
  show pvEv Tm 10 qX11_saved 0 [some (.ref 0), some (.ref 7), some (.int (nI i))] [] M Q
  have hmq := h
  obtain ⟨hD, hY, hM, hd, ht, ho⟩ := h
  have d8 := hD.1
  have hi9 : (nI i).toInt = (i : Int) := nI_toInt (by omega)
  have hi8 : i < 8 := (by omega)
  have g5 : (M.1 (35 + i) (Int32.toNatClampNeg 1)).toInt = D.2.1 i 1 := hY.2.2.2.1 i hi 1 (by decide)
  have sm := sa_m (cs := cs) (S := S) hD hi
  have c1 := coS_b (cs := cs) (S := S) hD hi
  have c2 := coA_b (cs := cs) (dead := S.1.2.2.1) (w := S.1.1) (age := 0) hD hi
  have z0 : (0 : Int32).toInt = 0 := (by decide)
  refine pv_aloadn (pc := 0) (n := 0) 0 rfl rfl (fm_dec dtX11_saved 0 rfl) ?_
  refine pv_aloadn (pc := 1) (n := 1) 1 rfl rfl (fm_dec dtX11_saved 1 rfl) ?_
  refine pv_iloadn (pc := 2) (n := 2) 2 rfl rfl (fm_dec dtX11_saved 2 rfl) ?_
  refine pv_invV2 (k := 0) (d' := 1) (pc := 3) pcv_X11_296 (by decide) rfl (Nat.le_of_ble_eq_true rfl) (by decide) (fm_dec dtX11_saved 3 rfl) ?_
  refine c_mmay hD ht ho hi (fun h3a h3b => ?_) (fun h3 => ?_)
  · refine pv_then1 ?_
    refine pv_if_eq (pc := 6) 46 (by decide) (fm_dec dtX11_saved 4 rfl) (fun hc6 => by exfalso; revert hc6; decide) (fun _ => ?_)
    refine pv_iconst (pc := 9) (v := 0) (by decide) (fm_dec dtX11_saved 5 rfl) ?_
    refine pv_aloadn (pc := 10) (n := 0) 0 rfl rfl (fm_dec dtX11_saved 6 rfl) ?_
    refine pv_getR (k := 0) (j := 14) (ci := 11) (pc := 11) 17 rfl (by decide) pfl_X11_31 (by decide) rfl (by decide) (fm_dec dtX11_saved 7 rfl) ?_
    refine pv_iloadn (pc := 14) (n := 2) 2 rfl rfl (fm_dec dtX11_saved 8 rfl) ?_
    refine pv_aald (k := 17) (n := 8) (r := (35 + i)) (pc := 15) (by decide) (Or.inr (Or.inr rfl)) rfl (rw_life.inb hi9 hi8) (rw_life.at hi9 hi8) (rw_life.2.2.2 _ hi8).2.1 (fm_dec dtX11_saved 9 rfl) ?_
    refine pv_iconst (pc := 16) (v := 1) (by decide) (fm_dec dtX11_saved 10 rfl) ?_
    refine pv_iald (k := (35 + i)) (n := 6) (pc := 17) (rw_life.2.2.2 _ hi8).2.2.1 (rw_life.2.2.2 _ hi8).2.2.2.1 (rw_life.2.2.2 _ hi8).2.2.2.2 (fm_inl (by decide)) (fm_dec dtX11_saved 11 rfl) ?_
    refine pv_aloadn (pc := 18) (n := 0) 0 rfl rfl (fm_dec dtX11_saved 12 rfl) ?_
    refine pv_aloadn (pc := 19) (n := 1) 1 rfl rfl (fm_dec dtX11_saved 13 rfl) ?_
    refine pv_iloadn (pc := 20) (n := 2) 2 rfl rfl (fm_dec dtX11_saved 14 rfl) ?_
    refine pv_invV2 (k := 0) (d' := 8) (pc := 21) pcv_X11_293 (by decide) rfl (Nat.le_of_ble_eq_true rfl) (by decide) (fm_dec dtX11_saved 15 rfl) ?_
    refine c_mcofA hmq hi (fun M21 r21 g21 h21 e21 => ?_)
    refine pv_then1 ?_
    have hm21 := hmq.low (fun k j _ a b => g21 k j a b) (g21 0 17 (by decide) (by decide))
    have g10 : (M21.1 7 (Int32.toNatClampNeg 10)).toInt = (S.1.1 : Int) := hm21.2.2.2.2.1.2.1
    refine pv_aloadn (pc := 24) (n := 0) 0 rfl rfl (fm_dec dtX11_saved 16 rfl) ?_
    refine pv_aloadn (pc := 25) (n := 1) 1 rfl rfl (fm_dec dtX11_saved 17 rfl) ?_
    refine pv_iloadn (pc := 26) (n := 2) 2 rfl rfl (fm_dec dtX11_saved 18 rfl) ?_
    refine pv_aloadn (pc := 27) (n := 1) 1 rfl rfl (fm_dec dtX11_saved 19 rfl) ?_
    refine pv_bipush (pc := 28) (v := 10) (by decide) (fm_dec dtX11_saved 20 rfl) ?_
    refine pv_iald (k := 7) (n := 14) (pc := 30) (by decide) rfl rfl (fm_inl (by decide)) (fm_dec dtX11_saved 21 rfl) ?_
    refine pv_aloadn (pc := 31) (n := 1) 1 rfl rfl (fm_dec dtX11_saved 22 rfl) ?_
    refine pv_bipush (pc := 32) (v := 10) (by decide) (fm_dec dtX11_saved 23 rfl) ?_
    refine pv_iald (k := 7) (n := 14) (pc := 34) (by decide) rfl rfl (fm_inl (by decide)) (fm_dec dtX11_saved 24 rfl) ?_
    refine pv_invV4 (k := 0) (d' := 6) (pc := 35) pcv_X11_280 (by decide) rfl (Nat.le_of_ble_eq_true rfl) (by decide) (fm_dec dtX11_saved 25 rfl) ?_
    refine c_mcoG (ag := 0) hD hm21.2.1 hm21.2.2.1 hd hm21.2.2.2.2.1 ho hi g10 (by have := ho.1; omega) (by rw [g10, if_neg (by decide)]; omega) (by decide) (fun M35 r35 g35 h35 e35 => ?_)
    refine pv_then1 ?_
    refine pv_isub (pc := 38) (fm_dec dtX11_saved 26 rfl) ?_
    refine pv_imul (pc := 39) (fm_dec dtX11_saved 27 rfl) ?_
    refine pv_mm (pc := 40) pmm_X11_240 (by decide) (Nat.le_of_ble_eq_true rfl) (fm_dec dtX11_saved 28 rfl) ?_
    refine pv_goto (pc := 43) 47 (by decide) (fm_dec dtX11_saved 29 rfl) ?_
    exact pv_ireturn (pc := 47) rfl (fm_dec dtX11_saved 31 rfl) (hq M35 _ (fun k j a b => (g35 k j a b).trans (g21 k j a b)) (h35.trans h21) (by have e3 : r21.toInt = coS D cs S i := (by rw [e21, if_neg h3a]); have e4 : (r21 - r35).toInt = coS D cs S i - coA D cs S.1.2.2.1 S.1.1 i 0 := (by rw [sc_sub (by omega) (by omega), e3, e35]); rw [mxt, sa_1 h3a h3b, z0, sc_mul (by rw [g5, e4]; omega) (by rw [g5, e4]; omega), g5, e4]))
  · refine pv_then1 ?_
    refine pv_if_eq (pc := 6) 46 (by decide) (fm_dec dtX11_saved 4 rfl) (fun _ => ?_) (fun hc6 => by exfalso; revert hc6; decide)
    refine pv_iconst (pc := 46) (v := 0) (by decide) (fm_dec dtX11_saved 30 rfl) ?_
    exact pv_ireturn (pc := 47) rfl (fm_dec dtX11_saved 31 rfl) (hq M 0 (fun _ _ _ _ => rfl) rfl (by rw [sa_0 h3]; decide))
set_option maxRecDepth 20000 in
theorem xfi_loop {Q : fmR → fmM → Prop} {M : fmM} {D : dD} {cs : tC} {S : aS} {hm : Int32} {mo : Nat} (h : xAq M D cs S) (hm9 : hm.toInt = (mo : Int)) (hsv : ∀ j, j < D.1 → (M.2 33 j).toInt = saS D cs S j) : ∀ (m : Nat) (n : Nat) (w : Int32) (a : Int64) (b : Int32) (v9 : Option Value), n ≤ D.1 → D.1 - n = m → w.toInt = fiS (saS D cs S) (hoS D S) mo n → (fiS (saS D cs S) (hoS D S) mo n = -1 → a = 0 ∧ b = 1) ∧ (fiS (saS D cs S) (hoS D S) mo n ≠ -1 → a.toInt = saS D cs S (fiS (saS D cs S) (hoS D S) mo n).toNat ∧ b.toInt = ((hoS D S (fiS (saS D cs S) (hoS D S) mo n).toNat : Nat) : Int)) → (∀ r : Int32, r.toInt = fiS (saS D cs S) (hoS D S) mo D.1 → Q (.inl (some (.int r))) M) → pvEv Tx 20 qX0_firstOf 12 [some (.ref 32), some (.ref 47), some (.ref 33), some (.int hm), some (.int w), some (.long a), none, some (.int b), some (.int (nI n)), v9] [] M Q := by
  intro m
  induction m using Nat.strongRecOn with
  | _ m ih =>
    intro n w a b v9 hnD hm0 hw hab hq
    obtain ⟨hD, hX, hL, hs, ho⟩ := h
    have d8 := hD.1
    have hn9 : (nI n).toInt = (n : Int) := nI_toInt (by omega)
    have h39 : (M.1 3 9).toInt = (D.1 : Int) := hX.1.1
    refine pv_iload (pc := 12) (i := 8) rfl (fm_dec dtX0_firstOf 8 rfl) ?_
    refine pv_aloadn (pc := 14) (n := 0) 0 rfl rfl (fm_dec dtX0_firstOf 9 rfl) ?_
    refine pv_getR (k := 32) (j := 0) (ci := 0) (pc := 15) 3 rfl (by decide) pfl_X0_15 (by decide) rfl (by decide) (fm_dec dtX0_firstOf 10 rfl) ?_
    refine pv_getI (k := 3) (j := 9) (ci := 8) (pc := 18) pfl_X0_75 (by decide) rfl (by decide) (fm_dec dtX0_firstOf 11 rfl) ?_
    refine pv_icmp_ge (pc := 21) 84 (by decide) (fm_dec dtX0_firstOf 12 rfl) (fun hc21 => ?_) (fun hc21 => ?_)
    · refine pv_iload (pc := 84) (i := 4) rfl (fm_dec dtX0_firstOf 47 rfl) ?_
      exact pv_ireturn (pc := 86) rfl (fm_dec dtX0_firstOf 48 rfl) (by have e9 : n = D.1 := (by rw [sc_le] at hc21; omega); subst e9; exact hq _ hw)
    · have hn : n < D.1 := (by rw [sc_le] at hc21; omega)
      have fb := fi_b (sv := saS D cs S) (hr := hoS D S) (most := mo) n
      have sbn := sa_b (cs := cs) (S := S) hD hn
      have hbn := ho_b (S := S) hD hn
      have gn : (M.2 33 n).toInt = saS D cs S n := hsv n hn
      refine pv_iload (pc := 24) (i := 8) rfl (fm_dec dtX0_firstOf 13 rfl) ?_
      refine pv_aloadn (pc := 26) (n := 2) 2 rfl rfl (fm_dec dtX0_firstOf 14 rfl) ?_
      refine pv_alenJ (k := 33) (n := 8) (v := 8) (pc := 27) (by decide) rfl rfl (by decide) (fm_dec dtX0_firstOf 15 rfl) ?_
      refine pv_icmp_ge (pc := 28) 84 (by decide) (fm_dec dtX0_firstOf 16 rfl) (fun hc28 => by exfalso; rw [sc_le] at hc28; have z8 : (8 : Int32).toInt = 8 := (by decide); omega) (fun _ => ?_)
      refine pv_aloadn (pc := 31) (n := 0) 0 rfl rfl (fm_dec dtX0_firstOf 17 rfl) ?_
      refine pv_aloadn (pc := 32) (n := 1) 1 rfl rfl (fm_dec dtX0_firstOf 18 rfl) ?_
      refine pv_iload (pc := 33) (i := 8) rfl (fm_dec dtX0_firstOf 19 rfl) ?_
      refine pv_invV2 (k := 32) (d' := 2) (pc := 35) pcv_X0_113 (by decide) rfl (Nat.le_of_ble_eq_true rfl) (by decide) (fm_dec dtX0_firstOf 20 rfl) ?_
      refine c_xhours hD hX hs hn (fun r35 h35 => ?_)
      refine pv_then1 ?_
      refine pv_istore (pc := 38) (i := 9) (by decide) rfl (fm_dec dtX0_firstOf 21 rfl) ?_
      dsimp only [List.set_cons_zero, List.set_cons_succ]
      refine pv_iload (pc := 40) (i := 9) rfl (fm_dec dtX0_firstOf 22 rfl) ?_
      refine pv_iloadn (pc := 42) (n := 3) 3 rfl rfl (fm_dec dtX0_firstOf 23 rfl) ?_
      refine pv_icmp_gt (pc := 43) 78 (by decide) (fm_dec dtX0_firstOf 24 rfl) (fun hc43 => ?_) (fun hc43 => ?_)
      · refine pv_iincc (pc := 78) 8 1 (by decide) rfl (by decide) rfl (fm_dec dtX0_firstOf 45 rfl) ?_
        dsimp only [List.set_cons_zero, List.set_cons_succ]
        refine pv_goto (pc := 81) 12 (by decide) (fm_dec dtX0_firstOf 46 rfl) ?_
        have e9 : fiS (saS D cs S) (hoS D S) mo (n + 1) = fiS (saS D cs S) (hoS D S) mo n := fi_f (by rintro ⟨h1, -⟩; rw [sc_lt] at hc43; omega)
        rw [nI_succ1]
        exact ih (D.1 - (n + 1)) (by omega) (n + 1) _ _ _ _ (by omega) rfl (by rw [e9]; exact hw) (by rw [e9]; exact hab) hq
      · have p1 : (M.2 33 n * b.toInt64).toInt ≤ (a * r35.toInt64).toInt ↔ ¬ (0 < saS D cs S n ∧ (fiS (saS D cs S) (hoS D S) mo n = -1 ∨ saS D cs S (fiS (saS D cs S) (hoS D S) mo n).toNat * hoS D S n < saS D cs S n * hoS D S (fiS (saS D cs S) (hoS D S) mo n).toNat)) := (by
          by_cases e : fiS (saS D cs S) (hoS D S) mo n = -1
          · obtain ⟨ea, eb⟩ := hab.1 e
            rw [ea, eb, mj_i (n := 1) gn (by decide) sbn (by decide), mj_i (a := 0) (n := hoS D S n) (by decide) h35 (by decide) hbn.2, Int.zero_mul]
            constructor
            · rintro h1 ⟨h2, -⟩
              omega
            · intro h1
              have h3 : ¬ 0 < saS D cs S n := fun h4 => h1 ⟨h4, Or.inl e⟩
              omega
          · obtain ⟨ea, eb⟩ := hab.2 e
            have sbb := sa_b (cs := cs) (S := S) (i := (fiS (saS D cs S) (hoS D S) mo n).toNat) hD (by omega)
            have hbb := ho_b (S := S) (i := (fiS (saS D cs S) (hoS D S) mo n).toNat) hD (by omega)
            have hp := fb.2.2 e
            rw [mj_i gn eb sbn hbb.2, mj_i ea h35 sbb hbn.2]
            constructor
            · rintro h1 ⟨-, h2 | h2⟩
              · exact e h2
              · omega
            · intro h1
              rcases Int.lt_or_le (saS D cs S (fiS (saS D cs S) (hoS D S) mo n).toNat * (hoS D S n : Int)) (saS D cs S n * (hoS D S (fiS (saS D cs S) (hoS D S) mo n).toNat : Int)) with h2 | h2
              · refine absurd ⟨?_, Or.inr h2⟩ h1
                rcases Int.lt_or_le 0 (saS D cs S n) with h3 | h3
                · exact h3
                · have h4 : saS D cs S n = 0 := (by omega)
                  rw [h4, Int.zero_mul] at h2
                  have h5 := (mj_b sbb hbn.2).1
                  omega
              · exact h2)
        refine pv_aloadn (pc := 46) (n := 2) 2 rfl rfl (fm_dec dtX0_firstOf 25 rfl) ?_
        refine pv_iload (pc := 47) (i := 8) rfl (fm_dec dtX0_firstOf 26 rfl) ?_
        refine pv_lald (k := 33) (n := 8) (pc := 49) (by decide) rfl rfl (ix_in hn9 (by omega)) (fm_dec dtX0_firstOf 27 rfl) ?_
        rw [i32_cl hn9]
        refine pv_iload (pc := 50) (i := 7) rfl (fm_dec dtX0_firstOf 28 rfl) ?_
        refine pv_i2l (pc := 52) (fm_dec dtX0_firstOf 29 rfl) ?_
        refine pv_lmul (pc := 53) (fm_dec dtX0_firstOf 30 rfl) ?_
        refine pv_lload (pc := 54) (i := 5) rfl (fm_dec dtX0_firstOf 31 rfl) ?_
        refine pv_iload (pc := 56) (i := 9) rfl (fm_dec dtX0_firstOf 32 rfl) ?_
        refine pv_i2l (pc := 58) (fm_dec dtX0_firstOf 33 rfl) ?_
        refine pv_lmul (pc := 59) (fm_dec dtX0_firstOf 34 rfl) ?_
        refine pv_lcmp (pc := 60) (fm_dec dtX0_firstOf 35 rfl) ?_
        refine pv_if_le (pc := 61) 78 (by decide) (fm_dec dtX0_firstOf 36 rfl) (fun hc61 => ?_) (fun hc61 => ?_)
        · refine pv_iincc (pc := 78) 8 1 (by decide) rfl (by decide) rfl (fm_dec dtX0_firstOf 45 rfl) ?_
          dsimp only [List.set_cons_zero, List.set_cons_succ]
          refine pv_goto (pc := 81) 12 (by decide) (fm_dec dtX0_firstOf 46 rfl) ?_
          have e9 : fiS (saS D cs S) (hoS D S) mo (n + 1) = fiS (saS D cs S) (hoS D S) mo n := fi_f (by rintro ⟨-, h1⟩; exact p1.mp (lc_gt.mp hc61) h1)
          rw [nI_succ1]
          exact ih (D.1 - (n + 1)) (by omega) (n + 1) _ _ _ _ (by omega) rfl (by rw [e9]; exact hw) (by rw [e9]; exact hab) hq
        · refine pv_iload (pc := 64) (i := 8) rfl (fm_dec dtX0_firstOf 37 rfl) ?_
          refine pv_istore (pc := 66) (i := 4) (by decide) rfl (fm_dec dtX0_firstOf 38 rfl) ?_
          dsimp only [List.set_cons_zero, List.set_cons_succ]
          refine pv_aloadn (pc := 68) (n := 2) 2 rfl rfl (fm_dec dtX0_firstOf 39 rfl) ?_
          refine pv_iload (pc := 69) (i := 8) rfl (fm_dec dtX0_firstOf 40 rfl) ?_
          refine pv_lald (k := 33) (n := 8) (pc := 71) (by decide) rfl rfl (ix_in hn9 (by omega)) (fm_dec dtX0_firstOf 41 rfl) ?_
          rw [i32_cl hn9]
          refine pv_lstore (pc := 72) (i := 5) (by decide) rfl (fm_dec dtX0_firstOf 42 rfl) ?_
          dsimp only [List.set_cons_zero, List.set_cons_succ]
          refine pv_iload (pc := 74) (i := 9) rfl (fm_dec dtX0_firstOf 43 rfl) ?_
          refine pv_istore (pc := 76) (i := 7) (by decide) rfl (fm_dec dtX0_firstOf 44 rfl) ?_
          dsimp only [List.set_cons_zero, List.set_cons_succ]
          refine pv_iincc (pc := 78) 8 1 (by decide) rfl (by decide) rfl (fm_dec dtX0_firstOf 45 rfl) ?_
          dsimp only [List.set_cons_zero, List.set_cons_succ]
          refine pv_goto (pc := 81) 12 (by decide) (fm_dec dtX0_firstOf 46 rfl) ?_
          have e9 : fiS (saS D cs S) (hoS D S) mo (n + 1) = (n : Int) := fi_t ⟨by rw [sc_lt] at hc43; omega, Classical.not_not.mp (fun h1 => hc61 (lc_gt.mpr (p1.mpr h1)))⟩
          rw [nI_succ1]
          exact ih (D.1 - (n + 1)) (by omega) (n + 1) _ _ _ _ (by omega) rfl (by rw [e9]; exact hn9) (by rw [e9, Int.toNat_natCast]; exact ⟨fun e => absurd e (by omega), fun _ => ⟨gn, h35⟩⟩) hq
set_option maxRecDepth 20000 in
theorem c_xfo {M : fmM} {Q : fmR → fmM → Prop} {D : dD} {cs : tC} {S : aS} {hm : Int32} {mo : Nat} (h : xAq M D cs S) (hm9 : hm.toInt = (mo : Int)) (hsv : ∀ j, j < D.1 → (M.2 33 j).toInt = saS D cs S j) (hq : ∀ r : Int32, r.toInt = fiS (saS D cs S) (hoS D S) mo D.1 → Q (.inl (some (.int r))) M) : pvGood Tx 21 qX0_firstOf [.ref 32, .ref 47, .ref 33, .int hm] M Q := by
  refine pvGood_of (Nat.le_of_ble_eq_true rfl) ?_
  show pvEv Tx 21 qX0_firstOf 0 [some (.ref 32), some (.ref 47), some (.ref 33), some (.int hm), none, none, none, none, none, none] [] M Q
  refine pv_iconst (pc := 0) (v := (-1)) (by decide) (fm_dec dtX0_firstOf 0 rfl) ?_
  refine pv_istore (pc := 1) (i := 4) (by decide) rfl (fm_dec dtX0_firstOf 1 rfl) ?_
  dsimp only [List.set_cons_zero, List.set_cons_succ]
  refine pv_lconst (pc := 3) (v := 0) (by decide) (fm_dec dtX0_firstOf 2 rfl) ?_
  refine pv_lstore (pc := 4) (i := 5) (by decide) rfl (fm_dec dtX0_firstOf 3 rfl) ?_
  dsimp only [List.set_cons_zero, List.set_cons_succ]
  refine pv_iconst (pc := 6) (v := 1) (by decide) (fm_dec dtX0_firstOf 4 rfl) ?_
  refine pv_istore (pc := 7) (i := 7) (by decide) rfl (fm_dec dtX0_firstOf 5 rfl) ?_
  dsimp only [List.set_cons_zero, List.set_cons_succ]
  refine pv_iconst (pc := 9) (v := 0) (by decide) (fm_dec dtX0_firstOf 6 rfl) ?_
  refine pv_istore (pc := 10) (i := 8) (by decide) rfl (fm_dec dtX0_firstOf 7 rfl) ?_
  dsimp only [List.set_cons_zero, List.set_cons_succ]
  exact (xfi_loop h hm9 hsv D.1 0 _ _ _ _ (Nat.zero_le _) rfl (by show (-1 : Int32).toInt = (-1 : Int); decide) ⟨fun _ => ⟨rfl, rfl⟩, fun e => absurd rfl e⟩ hq).up (by decide)
theorem fmJ_j2 {M : fmM} {k j j' : Nat} {x : Int64} (h : j' ≠ j) : (fmJ M k j x).2 k j' = M.2 k j' := by
  show (if k = k then vp_updL (M.2 k) j x else M.2 k) j' = _
  rw [if_pos rfl]
  simp [vp_updL, h]
set_option maxRecDepth 20000 in
theorem xfa_loop {Q : fmR → fmM → Prop} {D : dD} {cs : tC} {S : aS} : ∀ (m : Nat) (n : Nat) (M : fmM), xAq M D cs S → n ≤ D.1 → D.1 - n = m → (∀ j, j < n → (M.2 33 j).toInt = saS D cs S j) → (∀ (r : Int32) (M' : fmM), r.toInt = fiS (saS D cs S) (hoS D S) 12 D.1 → Q (.inl (some (.int r))) M') → pvEv Tx 22 qX0_firstOfAll 2 [some (.ref 32), some (.ref 47), some (.int (nI n))] [] M Q := by
  intro m
  induction m using Nat.strongRecOn with
  | _ m ih =>
    intro n M h hnD hm0 hsv hq
    have d8 := h.1.1
    have hn9 : (nI n).toInt = (n : Int) := nI_toInt (by omega)
    have h39 : (M.1 3 9).toInt = (D.1 : Int) := h.2.1.1.1
    refine pv_iloadn (pc := 2) (n := 2) 2 rfl rfl (fm_dec dtX0_firstOfAll 2 rfl) ?_
    refine pv_aloadn (pc := 3) (n := 0) 0 rfl rfl (fm_dec dtX0_firstOfAll 3 rfl) ?_
    refine pv_getR (k := 32) (j := 0) (ci := 0) (pc := 4) 3 rfl (by decide) pfl_X0_15 (by decide) rfl (by decide) (fm_dec dtX0_firstOfAll 4 rfl) ?_
    refine pv_getI (k := 3) (j := 9) (ci := 8) (pc := 7) pfl_X0_75 (by decide) rfl (by decide) (fm_dec dtX0_firstOfAll 5 rfl) ?_
    refine pv_icmp_ge (pc := 10) 31 (by decide) (fm_dec dtX0_firstOfAll 6 rfl) (fun hc10 => ?_) (fun hc10 => ?_)
    · refine pv_aloadn (pc := 31) (n := 0) 0 rfl rfl (fm_dec dtX0_firstOfAll 17 rfl) ?_
      refine pv_aloadn (pc := 32) (n := 1) 1 rfl rfl (fm_dec dtX0_firstOfAll 18 rfl) ?_
      refine pv_aloadn (pc := 33) (n := 0) 0 rfl rfl (fm_dec dtX0_firstOfAll 19 rfl) ?_
      refine pv_getR (k := 32) (j := 2) (ci := 0) (pc := 34) 33 rfl (by decide) pfl_X0_9 (by decide) rfl (by decide) (fm_dec dtX0_firstOfAll 20 rfl) ?_
      refine pv_bipush (pc := 37) (v := 12) (by decide) (fm_dec dtX0_firstOfAll 21 rfl) ?_
      refine pv_invV3 (k := 32) (d' := 21) (pc := 39) pcv_X0_109 (by decide) rfl (Nat.le_of_ble_eq_true rfl) (by decide) (fm_dec dtX0_firstOfAll 22 rfl) ?_
      refine c_xfo (mo := 12) h (by decide) (fun j hj => hsv j (by have h9 : n = D.1 := (by rw [sc_le] at hc10; omega); omega)) (fun r39 e39 => ?_)
      refine pv_then1 ?_
      exact pv_ireturn (pc := 42) rfl (fm_dec dtX0_firstOfAll 23 rfl) (hq _ M e39)
    · have hn : n < D.1 := (by rw [sc_le] at hc10; omega)
      refine pv_aloadn (pc := 13) (n := 0) 0 rfl rfl (fm_dec dtX0_firstOfAll 7 rfl) ?_
      refine pv_getR (k := 32) (j := 2) (ci := 0) (pc := 14) 33 rfl (by decide) pfl_X0_9 (by decide) rfl (by decide) (fm_dec dtX0_firstOfAll 8 rfl) ?_
      refine pv_iloadn (pc := 17) (n := 2) 2 rfl rfl (fm_dec dtX0_firstOfAll 9 rfl) ?_
      refine pv_aloadn (pc := 18) (n := 0) 0 rfl rfl (fm_dec dtX0_firstOfAll 10 rfl) ?_
      refine pv_aloadn (pc := 19) (n := 1) 1 rfl rfl (fm_dec dtX0_firstOfAll 11 rfl) ?_
      refine pv_iloadn (pc := 20) (n := 2) 2 rfl rfl (fm_dec dtX0_firstOfAll 12 rfl) ?_
      refine pv_invV2 (k := 32) (d' := 10) (pc := 21) pcv_X0_105 (by decide) rfl (Nat.le_of_ble_eq_true rfl) (by decide) (fm_dec dtX0_firstOfAll 13 rfl) ?_
      refine c_xsv h hn (fun M21 r21 g21 h21 e21 => ?_)
      refine pv_then1 ?_
      refine pv_last (k := 33) (n := 8) (pc := 24) (by decide) rfl rfl (ix_in hn9 (by omega)) (fm_dec dtX0_firstOfAll 14 rfl) ?_
      rw [i32_cl hn9]
      refine pv_iincc (pc := 25) 2 1 (by decide) rfl (by decide) rfl (fm_dec dtX0_firstOfAll 15 rfl) ?_
      dsimp only [List.set_cons_zero, List.set_cons_succ]
      refine pv_goto (pc := 28) 2 (by decide) (fm_dec dtX0_firstOfAll 16 rfl) ?_
      rw [nI_succ1]
      have hx9 : xAq (fmJ M21 33 n r21) D cs S := h.lowJ (fun k j a => g21 k j a) (by rw [fmJ_k2 (by decide), h21])
      exact ih (D.1 - (n + 1)) (by omega) (n + 1) _ hx9 (by omega) rfl (fun j hj => (by by_cases e : j = n; (subst e; rw [fmJ_s2]; exact e21); (rw [fmJ_j2 e, h21]; exact hsv j (by omega)))) hq
set_option maxRecDepth 20000 in
theorem c_xfall {M : fmM} {Q : fmR → fmM → Prop} {D : dD} {cs : tC} {S : aS} (h : xAq M D cs S) (hq : ∀ (r : Int32) (M' : fmM), r.toInt = fiS (saS D cs S) (hoS D S) 12 D.1 → Q (.inl (some (.int r))) M') : pvGood Tx 23 qX0_firstOfAll [.ref 32, .ref 47] M Q := by
  refine pvGood_of (Nat.le_of_ble_eq_true rfl) ?_
  show pvEv Tx 23 qX0_firstOfAll 0 [some (.ref 32), some (.ref 47), none] [] M Q
  refine pv_iconst (pc := 0) (v := 0) (by decide) (fm_dec dtX0_firstOfAll 0 rfl) ?_
  refine pv_istoren (pc := 1) (n := 2) 2 rfl (by decide) rfl (fm_dec dtX0_firstOfAll 1 rfl) ?_
  dsimp only [List.set_cons_zero, List.set_cons_succ]
  exact (xfa_loop D.1 0 M h (Nat.zero_le _) rfl (fun j hj => absurd hj (Nat.not_lt_zero j)) hq).up (by decide)
set_option maxRecDepth 20000 in
theorem mfi_loop {Q : fmR → fmM → Prop} {D : dD} {cs : tC} {S : aS} {hm : Int32} {mo : Nat} (hm9 : hm.toInt = (mo : Int)) : ∀ (m : Nat) (n : Nat) (M : fmM) (w : Int32), (mAq M D cs S ∧ M.1 0 0 = 0) → n ≤ D.1 → D.1 - n = m → w.toInt = fiS (saS D cs S) (hoS D S) mo n → (∀ (r : Int32) (M' : fmM), M'.1 0 0 = 0 → r.toInt = fiS (saS D cs S) (hoS D S) mo D.1 → Q (.inl (some (.int r))) M') → pvEv Tm 20 qX11_firstOf 5 [some (.ref 0), some (.ref 7), some (.int hm), some (.int w), some (.int (nI n))] [] M Q := by
  intro m
  induction m using Nat.strongRecOn with
  | _ m ih =>
    intro n M w h hnD hm0 hw hq
    have h9q := h.1
    obtain ⟨hD, hY, hM, hd, ht, ho⟩ := h9q
    have d8 := hD.1
    have hn9 : (nI n).toInt = (n : Int) := nI_toInt (by omega)
    have h39 : (M.1 4 (Int32.toNatClampNeg 0)).toInt = (D.1 : Int) := hY.1
    refine pv_iload (pc := 5) (i := 4) rfl (fm_dec dtX11_firstOf 4 rfl) ?_
    refine pv_aloadn (pc := 7) (n := 0) 0 rfl rfl (fm_dec dtX11_firstOf 5 rfl) ?_
    refine pv_getR (k := 0) (j := 12) (ci := 11) (pc := 8) 4 rfl (by decide) pfl_X11_23 (by decide) rfl (by decide) (fm_dec dtX11_firstOf 6 rfl) ?_
    refine pv_iconst (pc := 11) (v := 0) (by decide) (fm_dec dtX11_firstOf 7 rfl) ?_
    refine pv_iald (k := 4) (n := 6) (pc := 12) (by decide) rfl rfl (fm_inl (by decide)) (fm_dec dtX11_firstOf 8 rfl) ?_
    refine pv_icmp_ge (pc := 13) 90 (by decide) (fm_dec dtX11_firstOf 9 rfl) (fun hc13 => ?_) (fun hc13 => ?_)
    · refine pv_iloadn (pc := 90) (n := 3) 3 rfl rfl (fm_dec dtX11_firstOf 53 rfl) ?_
      exact pv_ireturn (pc := 91) rfl (fm_dec dtX11_firstOf 54 rfl) (by have e9 : n = D.1 := (by rw [sc_le] at hc13; omega); subst e9; exact hq _ _ h.2 hw)
    · have hn : n < D.1 := (by rw [sc_le] at hc13; omega)
      have hn8 : n < 8 := (by omega)
      have fb := fi_b (sv := saS D cs S) (hr := hoS D S) (most := mo) n
      have sbn := sa_b (cs := cs) (S := S) hD hn
      have hbn := ho_b (S := S) hD hn
      refine pv_aloadn (pc := 16) (n := 0) 0 rfl rfl (fm_dec dtX11_firstOf 10 rfl) ?_
      refine pv_aloadn (pc := 17) (n := 1) 1 rfl rfl (fm_dec dtX11_firstOf 11 rfl) ?_
      refine pv_iload (pc := 18) (i := 4) rfl (fm_dec dtX11_firstOf 12 rfl) ?_
      refine pv_invV2 (k := 0) (d' := 10) (pc := 20) pcv_X11_355 (by decide) rfl (Nat.le_of_ble_eq_true rfl) (by decide) (fm_dec dtX11_firstOf 13 rfl) ?_
      refine c_msv (i := n) h.1 hn (fun M20 r20 g20 k20 e20 => ?_)
      refine pv_then1 ?_
      have h20 := h.1.low (fun k j _ x y => g20 k j x y) (g20 0 17 (by decide) (by decide))
      have z20 : M20.1 0 0 = 0 := (g20 0 0 (by decide) (by decide)).trans h.2
      refine pv_if_eq (pc := 23) 84 (by decide) (fm_dec dtX11_firstOf 14 rfl) (fun hc23 => ?_) (fun hc23 => ?_)
      · refine pv_iincc (pc := 84) 4 1 (by decide) rfl (by decide) rfl (fm_dec dtX11_firstOf 51 rfl) ?_
        dsimp only [List.set_cons_zero, List.set_cons_succ]
        refine pv_goto (pc := 87) 5 (by decide) (fm_dec dtX11_firstOf 52 rfl) ?_
        have e0 : saS D cs S n = 0 := (by rw [← e20, hc23]; decide)
        have e9 : fiS (saS D cs S) (hoS D S) mo (n + 1) = fiS (saS D cs S) (hoS D S) mo n := fi_f (by rintro ⟨-, h1, -⟩; omega)
        rw [nI_succ1]
        exact ih (D.1 - (n + 1)) (by omega) (n + 1) M20 _ ⟨h20, z20⟩ (by omega) rfl (by rw [e9]; exact hw) hq
      · refine pv_aloadn (pc := 26) (n := 0) 0 rfl rfl (fm_dec dtX11_firstOf 15 rfl) ?_
        refine pv_aloadn (pc := 27) (n := 1) 1 rfl rfl (fm_dec dtX11_firstOf 16 rfl) ?_
        refine pv_iload (pc := 28) (i := 4) rfl (fm_dec dtX11_firstOf 17 rfl) ?_
        refine pv_invV2 (k := 0) (d' := 2) (pc := 30) pcv_X11_290 (by decide) rfl (Nat.le_of_ble_eq_true rfl) (by decide) (fm_dec dtX11_firstOf 18 rfl) ?_
        refine c_hours7 hn9 hn8 (h5_ne hD h20.2.1) ?_
        refine pv_then1 ?_
        have er : (hrV M20 n).toInt = ((hoS D S n : Nat) : Int) := hrV_n hD h20.2.1 h20.2.2.2.2.1 ho hn
        refine pv_iloadn (pc := 33) (n := 2) 2 rfl rfl (fm_dec dtX11_firstOf 19 rfl) ?_
        refine pv_icmp_le (pc := 34) 40 (by decide) (fm_dec dtX11_firstOf 20 rfl) (fun hc34 => ?_) (fun hc34 => ?_)
        · refine pv_iloadn (pc := 40) (n := 3) 3 rfl rfl (fm_dec dtX11_firstOf 22 rfl) ?_
          refine pv_iconst (pc := 41) (v := (-1)) (by decide) (fm_dec dtX11_firstOf 23 rfl) ?_
          refine pv_icmp_eq (pc := 42) 81 (by decide) (fm_dec dtX11_firstOf 24 rfl) (fun hc42 => ?_) (fun hc42 => ?_)
          · refine pv_iload (pc := 81) (i := 4) rfl (fm_dec dtX11_firstOf 49 rfl) ?_
            refine pv_istoren (pc := 83) (n := 3) 3 rfl (by decide) rfl (fm_dec dtX11_firstOf 50 rfl) ?_
            dsimp only [List.set_cons_zero, List.set_cons_succ]
            refine pv_iincc (pc := 84) 4 1 (by decide) rfl (by decide) rfl (fm_dec dtX11_firstOf 51 rfl) ?_
            dsimp only [List.set_cons_zero, List.set_cons_succ]
            refine pv_goto (pc := 87) 5 (by decide) (fm_dec dtX11_firstOf 52 rfl) ?_
            have e1 : ¬ saS D cs S n = 0 := (fun e => hc23 (i32_ext (e20.trans (by rw [e]; decide))))
            have e9 : fiS (saS D cs S) (hoS D S) mo (n + 1) = (n : Int) := fi_t ⟨by rw [sc_le] at hc34; omega, by omega, Or.inl (by rw [← hw, hc42]; decide)⟩
            rw [nI_succ1]
            exact ih (D.1 - (n + 1)) (by omega) (n + 1) M20 _ ⟨h20, z20⟩ (by omega) rfl (by rw [e9]; exact hn9) hq
          · have hne : ¬ (fiS (saS D cs S) (hoS D S) mo n) = -1 := (fun e => hc42 (i32_ext (hw.trans (by rw [e]; decide))))
            have hbi : (fiS (saS D cs S) (hoS D S) mo n).toNat < D.1 := (by omega)
            have ewb : w = nI (fiS (saS D cs S) (hoS D S) mo n).toNat := nI_is (by omega) (by omega)
            have hwb9 : (nI (fiS (saS D cs S) (hoS D S) mo n).toNat).toInt = (((fiS (saS D cs S) (hoS D S) mo n).toNat : Nat) : Int) := nI_toInt (by omega)
            have sbb := sa_b (cs := cs) (S := S) (i := (fiS (saS D cs S) (hoS D S) mo n).toNat) hD hbi
            have hbb := ho_b (S := S) (i := (fiS (saS D cs S) (hoS D S) mo n).toNat) hD hbi
            have hw0 := hw
            rw [ewb]
            refine pv_aloadn (pc := 45) (n := 0) 0 rfl rfl (fm_dec dtX11_firstOf 25 rfl) ?_
            refine pv_aloadn (pc := 46) (n := 1) 1 rfl rfl (fm_dec dtX11_firstOf 26 rfl) ?_
            refine pv_iload (pc := 47) (i := 4) rfl (fm_dec dtX11_firstOf 27 rfl) ?_
            refine pv_invV2 (k := 0) (d' := 10) (pc := 49) pcv_X11_355 (by decide) rfl (Nat.le_of_ble_eq_true rfl) (by decide) (fm_dec dtX11_firstOf 28 rfl) ?_
            refine c_msv (i := n) h20 hn (fun M49 r49 g49 k49 e49 => ?_)
            refine pv_then1 ?_
            have h49 := h20.low (fun k j _ x y => g49 k j x y) (g49 0 17 (by decide) (by decide))
            have z49 : M49.1 0 0 = 0 := (g49 0 0 (by decide) (by decide)).trans z20
            refine pv_i2l (pc := 52) (fm_dec dtX11_firstOf 29 rfl) ?_
            refine pv_aloadn (pc := 53) (n := 0) 0 rfl rfl (fm_dec dtX11_firstOf 30 rfl) ?_
            refine pv_aloadn (pc := 54) (n := 1) 1 rfl rfl (fm_dec dtX11_firstOf 31 rfl) ?_
            refine pv_iloadn (pc := 55) (n := 3) 3 rfl rfl (fm_dec dtX11_firstOf 32 rfl) ?_
            refine pv_invV2 (k := 0) (d' := 2) (pc := 56) pcv_X11_290 (by decide) rfl (Nat.le_of_ble_eq_true rfl) (by decide) (fm_dec dtX11_firstOf 33 rfl) ?_
            refine c_hours7 hwb9 (by omega) (h5_ne hD h49.2.1) ?_
            refine pv_then1 ?_
            refine pv_i2l (pc := 59) (fm_dec dtX11_firstOf 34 rfl) ?_
            refine pv_lmul (pc := 60) (fm_dec dtX11_firstOf 35 rfl) ?_
            refine pv_aloadn (pc := 61) (n := 0) 0 rfl rfl (fm_dec dtX11_firstOf 36 rfl) ?_
            refine pv_aloadn (pc := 62) (n := 1) 1 rfl rfl (fm_dec dtX11_firstOf 37 rfl) ?_
            refine pv_iloadn (pc := 63) (n := 3) 3 rfl rfl (fm_dec dtX11_firstOf 38 rfl) ?_
            refine pv_invV2 (k := 0) (d' := 10) (pc := 64) pcv_X11_355 (by decide) rfl (Nat.le_of_ble_eq_true rfl) (by decide) (fm_dec dtX11_firstOf 39 rfl) ?_
            refine c_msv (i := (fiS (saS D cs S) (hoS D S) mo n).toNat) h49 hbi (fun M64 r64 g64 k64 e64 => ?_)
            refine pv_then1 ?_
            have h64 := h49.low (fun k j _ x y => g64 k j x y) (g64 0 17 (by decide) (by decide))
            have z64 : M64.1 0 0 = 0 := (g64 0 0 (by decide) (by decide)).trans z49
            refine pv_i2l (pc := 67) (fm_dec dtX11_firstOf 40 rfl) ?_
            refine pv_aloadn (pc := 68) (n := 0) 0 rfl rfl (fm_dec dtX11_firstOf 41 rfl) ?_
            refine pv_aloadn (pc := 69) (n := 1) 1 rfl rfl (fm_dec dtX11_firstOf 42 rfl) ?_
            refine pv_iload (pc := 70) (i := 4) rfl (fm_dec dtX11_firstOf 43 rfl) ?_
            refine pv_invV2 (k := 0) (d' := 2) (pc := 72) pcv_X11_290 (by decide) rfl (Nat.le_of_ble_eq_true rfl) (by decide) (fm_dec dtX11_firstOf 44 rfl) ?_
            refine c_hours7 hn9 hn8 (h5_ne hD h64.2.1) ?_
            refine pv_then1 ?_
            refine pv_i2l (pc := 75) (fm_dec dtX11_firstOf 45 rfl) ?_
            refine pv_lmul (pc := 76) (fm_dec dtX11_firstOf 46 rfl) ?_
            have q1 := mj_i (x := r49.toInt64) (z := hrV M49 (fiS (saS D cs S) (hoS D S) mo n).toNat) (by rw [Int32.toInt_toInt64]; exact e49) (hrV_n hD h49.2.1 h49.2.2.2.2.1 ho hbi) sbn hbb.2
            have q2 := mj_i (x := r64.toInt64) (z := hrV M64 n) (by rw [Int32.toInt_toInt64]; exact e64) (hrV_n hD h64.2.1 h64.2.2.2.2.1 ho hn) sbb hbn.2
            refine pv_lcmp (pc := 77) (fm_dec dtX11_firstOf 47 rfl) ?_
            refine pv_if_le (pc := 78) 84 (by decide) (fm_dec dtX11_firstOf 48 rfl) (fun hc78 => ?_) (fun hc78 => ?_)
            · refine pv_iincc (pc := 84) 4 1 (by decide) rfl (by decide) rfl (fm_dec dtX11_firstOf 51 rfl) ?_
              dsimp only [List.set_cons_zero, List.set_cons_succ]
              refine pv_goto (pc := 87) 5 (by decide) (fm_dec dtX11_firstOf 52 rfl) ?_
              have e1 : ¬ saS D cs S n = 0 := (fun e => hc23 (i32_ext (e20.trans (by rw [e]; decide))))
              have e9 : fiS (saS D cs S) (hoS D S) mo (n + 1) = fiS (saS D cs S) (hoS D S) mo n := fi_f (by rintro ⟨-, -, h1 | h1⟩; exact hne h1; have h2 := lc_gt.mp hc78; omega)
              rw [nI_succ1]
              exact ih (D.1 - (n + 1)) (by omega) (n + 1) M64 _ ⟨h64, z64⟩ (by omega) rfl (by rw [e9]; exact (by rw [← ewb]; exact hw)) hq
            · refine pv_iload (pc := 81) (i := 4) rfl (fm_dec dtX11_firstOf 49 rfl) ?_
              refine pv_istoren (pc := 83) (n := 3) 3 rfl (by decide) rfl (fm_dec dtX11_firstOf 50 rfl) ?_
              dsimp only [List.set_cons_zero, List.set_cons_succ]
              refine pv_iincc (pc := 84) 4 1 (by decide) rfl (by decide) rfl (fm_dec dtX11_firstOf 51 rfl) ?_
              dsimp only [List.set_cons_zero, List.set_cons_succ]
              refine pv_goto (pc := 87) 5 (by decide) (fm_dec dtX11_firstOf 52 rfl) ?_
              have e1 : ¬ saS D cs S n = 0 := (fun e => hc23 (i32_ext (e20.trans (by rw [e]; decide))))
              have e9 : fiS (saS D cs S) (hoS D S) mo (n + 1) = (n : Int) := fi_t ⟨by rw [sc_le] at hc34; omega, by omega, Or.inr (by have h2 : ¬ (r49.toInt64 * (hrV M49 (fiS (saS D cs S) (hoS D S) mo n).toNat).toInt64).toInt ≤ (r64.toInt64 * (hrV M64 n).toInt64).toInt := (fun e => hc78 (lc_gt.mpr e)); omega)⟩
              rw [nI_succ1]
              exact ih (D.1 - (n + 1)) (by omega) (n + 1) M64 _ ⟨h64, z64⟩ (by omega) rfl (by rw [e9]; exact hn9) hq
        · refine pv_goto (pc := 37) 84 (by decide) (fm_dec dtX11_firstOf 21 rfl) ?_
          refine pv_iincc (pc := 84) 4 1 (by decide) rfl (by decide) rfl (fm_dec dtX11_firstOf 51 rfl) ?_
          dsimp only [List.set_cons_zero, List.set_cons_succ]
          refine pv_goto (pc := 87) 5 (by decide) (fm_dec dtX11_firstOf 52 rfl) ?_
          have e9 : fiS (saS D cs S) (hoS D S) mo (n + 1) = fiS (saS D cs S) (hoS D S) mo n := fi_f (by rintro ⟨h1, -⟩; rw [sc_le] at hc34; omega)
          rw [nI_succ1]
          exact ih (D.1 - (n + 1)) (by omega) (n + 1) M20 _ ⟨h20, z20⟩ (by omega) rfl (by rw [e9]; exact hw) hq
set_option maxRecDepth 20000 in
theorem c_mfo {M : fmM} {Q : fmR → fmM → Prop} {D : dD} {cs : tC} {S : aS} {hm : Int32} {mo : Nat} (h : mAq M D cs S ∧ M.1 0 0 = 0) (hm9 : hm.toInt = (mo : Int)) (hq : ∀ (r : Int32) (M' : fmM), M'.1 0 0 = 0 → r.toInt = fiS (saS D cs S) (hoS D S) mo D.1 → Q (.inl (some (.int r))) M') : pvGood Tm 21 qX11_firstOf [.ref 0, .ref 7, .int hm] M Q := by
  refine pvGood_of (Nat.le_of_ble_eq_true rfl) ?_
  show pvEv Tm 21 qX11_firstOf 0 [some (.ref 0), some (.ref 7), some (.int hm), none, none] [] M Q
  refine pv_iconst (pc := 0) (v := (-1)) (by decide) (fm_dec dtX11_firstOf 0 rfl) ?_
  refine pv_istoren (pc := 1) (n := 3) 3 rfl (by decide) rfl (fm_dec dtX11_firstOf 1 rfl) ?_
  dsimp only [List.set_cons_zero, List.set_cons_succ]
  refine pv_iconst (pc := 2) (v := 0) (by decide) (fm_dec dtX11_firstOf 2 rfl) ?_
  refine pv_istore (pc := 3) (i := 4) (by decide) rfl (fm_dec dtX11_firstOf 3 rfl) ?_
  dsimp only [List.set_cons_zero, List.set_cons_succ]
  exact (mfi_loop hm9 D.1 0 M _ h (Nat.zero_le _) rfl (by show (-1 : Int32).toInt = (-1 : Int); decide) hq).up (by decide)
set_option maxRecDepth 20000 in
theorem c_xfirst {M : fmM} {Q : fmR → fmM → Prop} {D : dD} {cs : tC} {S : aS} (h : xAq M D cs S) (hq : ∀ (r : Int32) (M' : fmM), r.toInt = fiS (saS D cs S) (hoS D S) 12 D.1 → Q (.inl (some (.int r))) M') : pvGood Tx 24 qX10_first [.ref 0] M Q := by
  refine pvGood_of (Nat.le_of_ble_eq_true rfl) ?_
  show pvEv Tx 24 qX10_first 0 [some (.ref 0)] [] M Q
  refine pv_aloadn (pc := 0) (n := 0) 0 rfl rfl (fm_dec dtX10_first 0 rfl) ?_
  refine pv_getR (k := 0) (j := 6) (ci := 10) (pc := 1) 32 rfl (by decide) pfl_X10_52 (by decide) rfl (by decide) (fm_dec dtX10_first 1 rfl) ?_
  refine pv_aloadn (pc := 4) (n := 0) 0 rfl rfl (fm_dec dtX10_first 2 rfl) ?_
  refine pv_getR (k := 0) (j := 9) (ci := 10) (pc := 5) 46 rfl (by decide) pfl_X10_75 (by decide) rfl (by decide) (fm_dec dtX10_first 3 rfl) ?_
  refine pv_getR (k := 46) (j := 0) (ci := 5) (pc := 8) 47 rfl (by decide) pfl_X10_90 (by decide) rfl (by decide) (fm_dec dtX10_first 4 rfl) ?_
  refine pv_invV1 (k := 32) (d' := 23) (pc := 11) pcv_X10_273 (by decide) rfl (Nat.le_of_ble_eq_true rfl) (by decide) (fm_dec dtX10_first 5 rfl) ?_
  refine c_xfall h (fun r11 M11 e11 => ?_)
  refine pv_then1 ?_
  exact pv_ireturn (pc := 14) rfl (fm_dec dtX10_first 6 rfl) (hq _ _ e11)
set_option maxRecDepth 20000 in
theorem c_mfirst {M : fmM} {Q : fmR → fmM → Prop} {D : dD} {cs : tC} {S : aS} (h : mAq M D cs S) (hq : ∀ (r : Int32) (M' : fmM), M'.1 0 0 = 0 → r.toInt = fiS (saS D cs S) (hoS D S) 12 D.1 → Q (.inl (some (.int r))) M') : pvGood Tm 24 qX11_first [.ref 0] M Q := by
  refine pvGood_of (Nat.le_of_ble_eq_true rfl) ?_
  show pvEv Tm 24 qX11_first 0 [some (.ref 0)] [] M Q
  refine pv_aloadn (pc := 0) (n := 0) 0 rfl rfl (fm_dec dtX11_first 0 rfl) ?_
  refine pv_iconst (pc := 1) (v := 0) (by decide) (fm_dec dtX11_first 1 rfl) ?_
  refine pv_putI (k := 0) (j := 0) (ci := 11) (pc := 2) pfl_X11_101 (by decide) rfl (by decide) (fm_dec dtX11_first 2 rfl) ?_
  refine pv_aloadn (pc := 5) (n := 0) 0 rfl rfl (fm_dec dtX11_first 3 rfl) ?_
  refine pv_aloadn (pc := 6) (n := 0) 0 rfl rfl (fm_dec dtX11_first 4 rfl) ?_
  refine pv_getR (k := 0) (j := 27) (ci := 11) (pc := 7) 7 rfl (by decide) pfl_X11_61 (by decide) rfl (by decide) (fm_dec dtX11_first 5 rfl) ?_
  refine pv_bipush (pc := 10) (v := 12) (by decide) (fm_dec dtX11_first 6 rfl) ?_
  refine pv_invV2 (k := 0) (d' := 21) (pc := 12) pcv_X11_358 (by decide) rfl (Nat.le_of_ble_eq_true rfl) (by decide) (fm_dec dtX11_first 7 rfl) ?_
  refine c_mfo (mo := 12) ⟨h.z, rfl⟩ (by decide) (fun r12 M12 z12 e12 => ?_)
  refine pv_then1 ?_
  exact pv_ireturn (pc := 15) rfl (fm_dec dtX11_first 8 rfl) (hq _ _ z12 e12)
theorem xe_first {M : fmM} {D : dD} {cs : tC} {S : aS} (h : xAq M D cs S) : pvGood Tx 250 qX10_first [.ref 0] M (fun r _ => r = .inl (some (.int (iZ (fiS (saS D cs S) (hoS D S) 12 D.1))))) := (c_xfirst h (fun r M' e => by rw [iZ_is e])).up (by decide)
theorem me_first {M : fmM} {D : dD} {cs : tC} {S : aS} (h : mAq M D cs S) : pvGood Tm 250 qX11_first [.ref 0] M (fun r M' => r = .inl (some (.int (iZ (fiS (saS D cs S) (hoS D S) 12 D.1))))) := (c_mfirst h (fun r M' z e => by rw [iZ_is e])).up (by decide)
