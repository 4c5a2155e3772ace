theorem al_b {t : Bool} (h : bI (!t) = 0) : t = true := by
  cases t with
  | true => rfl
  | false => exact absurd h (by decide)
theorem al_n {t : Bool} (h : ¬ bI (!t) = 0) : t = false := by
  cases t with
  | false => rfl
  | true => exact absurd (by decide) h
/-- 4096ths of the risk of the first n lives in lt weeks -/
def riG (D : dD) (cs : tC) (S : aS) (lt : Nat) : Nat → Int
  | 0 => 0
  | n + 1 => if S.1.2.2.1.testBit n then riG D cs S lt n else riG D cs S lt n + D.2.1 n 1 * coA D cs S.1.2.2.1 (S.1.1 + lt) n (if S.2 n = -1 then -1 else S.2 n + lt)
theorem ri_t {D : dD} {cs : tC} {S : aS} {lt n : Nat} (h : S.1.2.2.1.testBit n = true) : riG D cs S lt (n + 1) = riG D cs S lt n := if_pos h
theorem ri_f {D : dD} {cs : tC} {S : aS} {lt n : Nat} (h : S.1.2.2.1.testBit n = false) : riG D cs S lt (n + 1) = riG D cs S lt n + D.2.1 n 1 * coA D cs S.1.2.2.1 (S.1.1 + lt) n (if S.2 n = -1 then -1 else S.2 n + lt) := if_neg (by rw [h]; decide)
theorem ri_1 {D : dD} {cs : tC} {dead w n : Nat} {ag : Int} (hD : dOk D) (hn : n < D.1) : 0 ≤ D.2.1 n 1 * coA D cs dead w n ag ∧ D.2.1 n 1 * coA D cs dead w n ag ≤ 3649536 := by
  have b1 := (hD.2.2.1 n hn).2.1
  have c1 := coA_b (cs := cs) (dead := dead) (w := w) (age := ag) hD hn
  have h1 := mul_b (a := D.2.1 n 1) (b := coA D cs dead w n ag) (m := 64) (n := 57024) (by omega) (by omega) c1.1 c1.2
  omega
theorem ri_b {D : dD} {cs : tC} {S : aS} {lt : Nat} (hD : dOk D) : ∀ n, n ≤ D.1 → 0 ≤ riG D cs S lt n ∧ riG D cs S lt n ≤ 3649536 * (n : Int) := by
  intro n
  induction n with
  | zero => intro _; exact ⟨Int.le_refl _, (by show (0 : Int) ≤ 3649536 * ((0 : Nat) : Int); decide)⟩
  | succ n ih =>
    intro hn
    have h1 := ih (by omega)
    have h2 := ri_1 (cs := cs) (dead := S.1.2.2.1) (w := S.1.1 + lt) (ag := if S.2 n = -1 then -1 else S.2 n + lt) hD (show n < D.1 by omega)
    cases ht : S.1.2.2.1.testBit n with
    | true =>
      rw [ri_t ht]
      omega
    | false =>
      rw [ri_f ht]
      omega
theorem ml_i {x : Int32} {z : Int64} {a b : Int} (hx : x.toInt = a) (hz : z.toInt = b) (h1 : -1000000000 ≤ a * b) (h2 : a * b ≤ 1000000000) : (x.toInt64 * z).toInt = a * b := by
  rw [Int64.toInt_mul, Int32.toInt_toInt64, hx, hz]
  exact Int.bmod_eq_of_le (by omega) (by omega)
theorem ad_j {x z : Int64} {a b : Int} (hx : x.toInt = a) (hz : z.toInt = b) (h1 : -4000000000000 ≤ a + b) (h2 : a + b ≤ 4000000000000) : (x + z).toInt = a + b := by
  rw [Int64.toInt_add, hx, hz]
  exact Int.bmod_eq_of_le (by omega) (by omega)
/-- 4096ths that a piece put now would save -/
def saS (D : dD) (cs : tC) (S : aS) (i : Nat) : Int := if S.1.2.2.1.testBit i = true ∨ S.2 i = 0 then 0 else max 0 (D.2.1 i 1 * (coS D cs S i - coA D cs S.1.2.2.1 S.1.1 i 0))
theorem sa_0 {D : dD} {cs : tC} {S : aS} {i : Nat} (h : S.1.2.2.1.testBit i = true ∨ S.2 i = 0) : saS D cs S i = 0 := if_pos h
theorem sa_1 {D : dD} {cs : tC} {S : aS} {i : Nat} (h : ¬ S.1.2.2.1.testBit i = true) (h2 : ¬ S.2 i = 0) : saS D cs S i = max 0 (D.2.1 i 1 * (coS D cs S i - coA D cs S.1.2.2.1 S.1.1 i 0)) := if_neg (by rintro (e | e); exact h e; exact h2 e)
theorem mul_bb {a b : Int} (ha : 0 ≤ a ∧ a ≤ 64) (hb : -57024 ≤ b ∧ b ≤ 57024) : -3649536 ≤ a * b ∧ a * b ≤ 3649536 := by
  have h1 : a * b ≤ a * 57024 := Int.mul_le_mul_of_nonneg_left hb.2 ha.1
  have h2 : a * (-57024) ≤ a * b := Int.mul_le_mul_of_nonneg_left hb.1 ha.1
  omega
theorem sa_m {D : dD} {cs : tC} {S : aS} {i : Nat} (hD : dOk D) (hi : i < D.1) : -3649536 ≤ D.2.1 i 1 * (coS D cs S i - coA D cs S.1.2.2.1 S.1.1 i 0) ∧ D.2.1 i 1 * (coS D cs S i - coA D cs S.1.2.2.1 S.1.1 i 0) ≤ 3649536 := by
  have b1 := (hD.2.2.1 i hi).2.1
  have c1 := coS_b (cs := cs) (S := S) hD hi
  have c2 := coA_b (cs := cs) (dead := S.1.2.2.1) (w := S.1.1) (age := 0) hD hi
  exact mul_bb ⟨by omega, by omega⟩ ⟨by omega, by omega⟩
theorem sa_b {D : dD} {cs : tC} {S : aS} {i : Nat} (hD : dOk D) (hi : i < D.1) : 0 ≤ saS D cs S i ∧ saS D cs S i ≤ 3649536 := by
  have h := sa_m (cs := cs) (S := S) hD hi
  unfold saS
  split <;> omega
theorem mxl_0 {z : Int64} : (pvMxl true 0 z).toInt = max 0 z.toInt := by
  have z0 : (0 : Int64).toInt = 0 := by decide
  show (if z < 0 then (0 : Int64) else z).toInt = _
  split
  · rename_i h
    have h8 := Int64.lt_iff_toInt_lt.mp h
    omega
  · rename_i h
    have h8 : ¬ z.toInt < (0 : Int64).toInt := fun e => h (Int64.lt_iff_toInt_lt.mpr e)
    omega
theorem sb_j {x z : Int64} {a b : Int} (hx : x.toInt = a) (hz : z.toInt = b) (h1 : -4000000000000 ≤ a - b) (h2 : a - b ≤ 4000000000000) : (x - z).toInt = a - b := by
  rw [Int64.toInt_sub, hx, hz]
  exact Int.bmod_eq_of_le (by omega) (by omega)
theorem ho_b {D : dD} {S : aS} {i : Nat} (hD : dOk D) (hi : i < D.1) : 1 ≤ hoS D S i ∧ hoS D S i ≤ 9 := by
  have b3 := (hD.2.2.1 i hi).2.2.2.1
  have h1 : (D.2.1 i 3).toNat / (D.2.2.2.2 5).toNat ≤ (D.2.1 i 3).toNat := Nat.div_le_self _ _
  unfold hoS
  split <;> omega
/-- the same, with any long cells but the state's own -/
theorem xAq.lowJ {M M' : fmM} {D : dD} {cs : tC} {S : aS} (h : xAq M D cs S) (hk : ∀ k j, k ≠ 26 → M'.1 k j = M.1 k j) (h2 : M'.2 47 6 = M.2 47 6) : xAq M' D cs S := ⟨h.1, h.2.1.of (fun k j a b => hk k j (by omega)), h.2.2.1.f (hk 23 3 (by decide)) (fun i => hk 24 i (by decide)), h.2.2.2.1.of (fun k j a => hk k j (by omega)) h2, h.2.2.2.2⟩
/-- who saves the most by the hour, of the first n -/
def fiS (sv : Nat → Int) (hr : Nat → Nat) (most : Nat) : Nat → Int
  | 0 => -1
  | n + 1 => if hr n ≤ most ∧ 0 < sv n ∧ (fiS sv hr most n = -1 ∨ sv (fiS sv hr most n).toNat * hr n < sv n * hr (fiS sv hr most n).toNat) then (n : Int) else fiS sv hr most n
theorem fi_t {sv : Nat → Int} {hr : Nat → Nat} {most n : Nat} (h : hr n ≤ most ∧ 0 < sv n ∧ (fiS sv hr most n = -1 ∨ sv (fiS sv hr most n).toNat * hr n < sv n * hr (fiS sv hr most n).toNat)) : fiS sv hr most (n + 1) = (n : Int) := if_pos h
theorem fi_f {sv : Nat → Int} {hr : Nat → Nat} {most n : Nat} (h : ¬ (hr n ≤ most ∧ 0 < sv n ∧ (fiS sv hr most n = -1 ∨ sv (fiS sv hr most n).toNat * hr n < sv n * hr (fiS sv hr most n).toNat))) : fiS sv hr most (n + 1) = fiS sv hr most n := if_neg h
theorem fi_b {sv : Nat → Int} {hr : Nat → Nat} {most : Nat} : ∀ n, -1 ≤ fiS sv hr most n ∧ fiS sv hr most n < (n : Int) ∧ (fiS sv hr most n ≠ -1 → 0 < sv (fiS sv hr most n).toNat) := by
  intro n
  induction n with
  | zero => exact ⟨Int.le_refl _, (by show (-1 : Int) < ((0 : Nat) : Int); decide), fun h => absurd rfl h⟩
  | succ n ih =>
    by_cases h : hr n ≤ most ∧ 0 < sv n ∧ (fiS sv hr most n = -1 ∨ sv (fiS sv hr most n).toNat * hr n < sv n * hr (fiS sv hr most n).toNat)
    · rw [fi_t h, Int.toNat_natCast]
      exact ⟨by omega, by omega, fun _ => h.2.1⟩
    · rw [fi_f h]
      exact ⟨ih.1, by omega, ih.2.2⟩
theorem mj_b {a : Int} {n : Nat} (ha : 0 ≤ a ∧ a ≤ 3649536) (hn : n ≤ 9) : 0 ≤ a * (n : Int) ∧ a * (n : Int) ≤ 32845824 := by
  have h1 := mul_b (a := a) (b := (n : Int)) (m := 3649536) (n := 9) ha.1 ha.2 (Int.natCast_nonneg _) (by omega)
  omega
theorem mj_i {x : Int64} {z : Int32} {a : Int} {n : Nat} (hx : x.toInt = a) (hz : z.toInt = (n : Int)) (ha : 0 ≤ a ∧ a ≤ 3649536) (hn : n ≤ 9) : (x * z.toInt64).toInt = a * (n : Int) := by
  have h := mj_b ha hn
  rw [Int64.toInt_mul, Int32.toInt_toInt64, hx, hz]
  exact Int.bmod_eq_of_le (by omega) (by omega)
theorem lc_gt {x z : Int64} : lg_cmp x z ≤ 0 ↔ x.toInt ≤ z.toInt := by
  unfold lg_cmp
  split
  · rename_i h
    have h8 : z.toInt < x.toInt := Int64.lt_iff_toInt_lt.mp h
    exact ⟨fun h9 => absurd h9 (by decide), fun h9 => absurd h9 (by omega)⟩
  · rename_i h
    have h8 : ¬ z.toInt < x.toInt := fun e => h (Int64.lt_iff_toInt_lt.mpr e)
    split
    · exact ⟨fun _ => by omega, fun _ => by decide⟩
    · exact ⟨fun _ => by omega, fun _ => by decide⟩
set_option maxRecDepth 20000 in
theorem c_mcofA {M : fmM} {Q : fmR → fmM → Prop} {D : dD} {cs : tC} {S : aS} {i : Nat} (h : mAq M D cs S) (hi : i < D.1) (hq : ∀ (M' : fmM) (r : Int32), (∀ k j, k ≠ 5 → k ≠ 6 → M'.1 k j = M.1 k j) → M'.2 = M.2 → r.toInt = (if S.1.2.2.1.testBit i then 0 else coS D cs S i) → Q (.inl (some (.int r))) M') : pvGood Tm 8 qX11_costOf [.ref 0, .ref 7, .int (nI i)] M Q := by
  refine pvGood_of (Nat.le_of_ble_eq_true rfl) ?_
  show pvEv Tm 8 qX11_costOf 0 [some (.ref 0), some (.ref 7), some (.int (nI i))] [] M Q
  obtain ⟨hD, hY, hM, hd, ht, ho⟩ := h
  have d8 := hD.1
  have hi9 : (nI i).toInt = (i : Int) := nI_toInt (by omega)
  have hi8 : i < 8 := (by omega)
  have h1i := one_i hi8
  have e0 : M.1 7 (Int32.toNatClampNeg 0) = nI S.1.2.2.1 := nI_is ht.1 (by have := ho.2.2.1; omega)
  refine pv_aloadn (pc := 0) (n := 1) 1 rfl rfl (fm_dec dtX11_costOf 0 rfl) ?_
  refine pv_iconst (pc := 1) (v := 0) (by decide) (fm_dec dtX11_costOf 1 rfl) ?_
  refine pv_iald (k := 7) (n := 14) (pc := 2) (by decide) rfl rfl (fm_inl (by decide)) (fm_dec dtX11_costOf 2 rfl) ?_
  refine pv_iloadn (pc := 3) (n := 2) 2 rfl rfl (fm_dec dtX11_costOf 3 rfl) ?_
  refine pv_iS2 (d' := 0) (pc := 4) pcs_X11_256 (Nat.le_of_ble_eq_true rfl) (by decide) (fm_dec dtX11_costOf 4 rfl) ?_
  refine c_has (fun h4 => ?_) (fun h4 => ?_)
  · refine pv_then1 ?_
    refine pv_if_eq (pc := 7) 14 (by decide) (fm_dec dtX11_costOf 5 rfl) (fun hc7 => by exfalso; revert hc7; decide) (fun _ => ?_)
    refine pv_iconst (pc := 10) (v := 0) (by decide) (fm_dec dtX11_costOf 6 rfl) ?_
    refine pv_goto (pc := 11) 29 (by decide) (fm_dec dtX11_costOf 7 rfl) ?_
    exact pv_ireturn (pc := 29) rfl (fm_dec dtX11_costOf 20 rfl) (hq _ _ (fun _ _ _ _ => rfl) rfl (by rw [if_pos ((has8 _ ho.2.2.1 i hi8).mp (by rw [← e0]; exact h4))]; decide))
  · refine pv_then1 ?_
    refine pv_if_eq (pc := 7) 14 (by decide) (fm_dec dtX11_costOf 5 rfl) (fun _ => ?_) (fun hc7 => by exfalso; revert hc7; decide)
    refine pv_aloadn (pc := 14) (n := 0) 0 rfl rfl (fm_dec dtX11_costOf 8 rfl) ?_
    refine pv_aloadn (pc := 15) (n := 1) 1 rfl rfl (fm_dec dtX11_costOf 9 rfl) ?_
    refine pv_iloadn (pc := 16) (n := 2) 2 rfl rfl (fm_dec dtX11_costOf 10 rfl) ?_
    refine pv_aloadn (pc := 17) (n := 1) 1 rfl rfl (fm_dec dtX11_costOf 11 rfl) ?_
    refine pv_iconst (pc := 18) (v := 1) (by decide) (fm_dec dtX11_costOf 12 rfl) ?_
    refine pv_iloadn (pc := 19) (n := 2) 2 rfl rfl (fm_dec dtX11_costOf 13 rfl) ?_
    refine pv_iadd (pc := 20) (fm_dec dtX11_costOf 14 rfl) ?_
    refine pv_iald (k := 7) (n := 14) (pc := 21) (by decide) rfl rfl (ix_in h1i (by omega)) (fm_dec dtX11_costOf 15 rfl) ?_
    rw [i32_cl h1i]
    refine pv_aloadn (pc := 22) (n := 1) 1 rfl rfl (fm_dec dtX11_costOf 16 rfl) ?_
    refine pv_bipush (pc := 23) (v := 10) (by decide) (fm_dec dtX11_costOf 17 rfl) ?_
    refine pv_iald (k := 7) (n := 14) (pc := 25) (by decide) rfl rfl (fm_inl (by decide)) (fm_dec dtX11_costOf 18 rfl) ?_
    refine pv_invV4 (k := 0) (d' := 6) (pc := 26) pcv_X11_280 (by decide) rfl (Nat.le_of_ble_eq_true rfl) (by decide) (fm_dec dtX11_costOf 19 rfl) ?_
    refine c_mco hD hY hM hd ht ho hi ht.2.1 (ht.2.2.2.2.2.2 i hi) (fun M26 r26 g26 h26 e26 => ?_)
    refine pv_then1 ?_
    exact pv_ireturn (pc := 29) rfl (fm_dec dtX11_costOf 20 rfl) (hq _ _ g26 h26 (by rw [if_neg (fun h9 => h4 (by rw [e0]; exact (has8 _ ho.2.2.1 i hi8).mpr h9))]; exact e26))
set_option maxRecDepth 20000 in
theorem c_xsv {M : fmM} {Q : fmR → fmM → Prop} {D : dD} {cs : tC} {S : aS} {i : Nat} (h : xAq M D cs S) (hi : i < D.1) (hq : ∀ (M' : fmM) (r : Int64), (∀ k j, k ≠ 26 → M'.1 k j = M.1 k j) → M'.2 = M.2 → r.toInt = saS D cs S i → Q (.inl (some (.long r))) M') : pvGood Tx 10 qX0_savedRisk [.ref 32, .ref 47, .int (nI i)] M Q := by
  refine pvGood_of (Nat.le_of_ble_eq_true rfl) ?_
  show pvEv Tx 10 qX0_savedRisk 0 [some (.ref 32), some (.ref 47), some (.int (nI i)), none, none] [] M Q
  have hxq := h
  obtain ⟨hD, hX, hL, hs, ho⟩ := h
  have d8 := hD.1
  have hi9 : (nI i).toInt = (i : Int) := nI_toInt (by omega)
  have hi8 : i < 8 := (by omega)
  have g := ag_x hs hi
  have g5 : (M.1 5 i).toInt = D.2.1 i 1 := hX.2.1 i hi 1 (by decide)
  have sm := sa_m (cs := cs) (S := S) hD hi
  have c1 := coS_b (cs := cs) (S := S) hD hi
  have c2 := coA_b (cs := cs) (dead := S.1.2.2.1) (w := S.1.1) (age := 0) hD hi
  have z0 : (0 : Int32).toInt = 0 := (by decide)
  refine pv_aloadn (pc := 0) (n := 0) 0 rfl rfl (fm_dec dtX0_savedRisk 0 rfl) ?_
  refine pv_aloadn (pc := 1) (n := 1) 1 rfl rfl (fm_dec dtX0_savedRisk 1 rfl) ?_
  refine pv_iloadn (pc := 2) (n := 2) 2 rfl rfl (fm_dec dtX0_savedRisk 2 rfl) ?_
  refine pv_invV2 (k := 32) (d' := 1) (pc := 3) pcv_X0_95 (by decide) rfl (Nat.le_of_ble_eq_true rfl) (by decide) (fm_dec dtX0_savedRisk 3 rfl) ?_
  refine c_xcan hD hs ho hi (fun h3a h3b => ?_) (fun h3 => ?_)
  · refine pv_then1 ?_
    refine pv_if_eq (pc := 6) 21 (by decide) (fm_dec dtX0_savedRisk 4 rfl) (fun hc6 => by exfalso; revert hc6; decide) (fun _ => ?_)
    refine pv_aloadn (pc := 9) (n := 0) 0 rfl rfl (fm_dec dtX0_savedRisk 5 rfl) ?_
    refine pv_getR (k := 32) (j := 0) (ci := 0) (pc := 10) 3 rfl (by decide) pfl_X0_15 (by decide) rfl (by decide) (fm_dec dtX0_savedRisk 6 rfl) ?_
    refine pv_getR (k := 3) (j := 1) (ci := 8) (pc := 13) 5 rfl (by decide) pfl_X0_81 (by decide) rfl (by decide) (fm_dec dtX0_savedRisk 7 rfl) ?_
    refine pv_iloadn (pc := 16) (n := 2) 2 rfl rfl (fm_dec dtX0_savedRisk 8 rfl) ?_
    refine pv_iald (k := 5) (n := 8) (pc := 17) (by decide) rfl rfl (ix_in hi9 (by omega)) (fm_dec dtX0_savedRisk 9 rfl) ?_
    rw [i32_cl hi9]
    refine pv_if_ne (pc := 18) 23 (by decide) (fm_dec dtX0_savedRisk 10 rfl) (fun hc18 => ?_) (fun hc18 => ?_)
    · refine pv_aloadn (pc := 23) (n := 0) 0 rfl rfl (fm_dec dtX0_savedRisk 13 rfl) ?_
      refine pv_aloadn (pc := 24) (n := 1) 1 rfl rfl (fm_dec dtX0_savedRisk 14 rfl) ?_
      refine pv_iloadn (pc := 25) (n := 2) 2 rfl rfl (fm_dec dtX0_savedRisk 15 rfl) ?_
      refine pv_iconst (pc := 26) (v := 0) (by decide) (fm_dec dtX0_savedRisk 16 rfl) ?_
      refine pv_aloadn (pc := 27) (n := 1) 1 rfl rfl (fm_dec dtX0_savedRisk 17 rfl) ?_
      refine pv_getR (k := 47) (j := 0) (ci := 6) (pc := 28) 48 rfl (by decide) pfl_X0_78 (by decide) rfl (by decide) (fm_dec dtX0_savedRisk 18 rfl) ?_
      refine pv_iloadn (pc := 31) (n := 2) 2 rfl rfl (fm_dec dtX0_savedRisk 19 rfl) ?_
      refine pv_iald (k := 48) (n := 8) (pc := 32) (by decide) rfl rfl (ix_in hi9 (by omega)) (fm_dec dtX0_savedRisk 20 rfl) ?_
      rw [i32_cl hi9]
      refine pv_invV4 (k := 32) (d' := 3) (pc := 33) pcv_X0_84 (by decide) rfl (Nat.le_of_ble_eq_true rfl) (by decide) (fm_dec dtX0_savedRisk 21 rfl) ?_
      refine c_xcost hD hX hL hs ho hi g (fun M33 r33 g33 h33 e33 => ?_)
      refine pv_then1 ?_
      refine pv_aloadn (pc := 36) (n := 0) 0 rfl rfl (fm_dec dtX0_savedRisk 22 rfl) ?_
      refine pv_aloadn (pc := 37) (n := 1) 1 rfl rfl (fm_dec dtX0_savedRisk 23 rfl) ?_
      refine pv_iloadn (pc := 38) (n := 2) 2 rfl rfl (fm_dec dtX0_savedRisk 24 rfl) ?_
      refine pv_iconst (pc := 39) (v := 0) (by decide) (fm_dec dtX0_savedRisk 25 rfl) ?_
      refine pv_iconst (pc := 40) (v := 0) (by decide) (fm_dec dtX0_savedRisk 26 rfl) ?_
      refine pv_invV4 (k := 32) (d' := 3) (pc := 41) pcv_X0_84 (by decide) rfl (Nat.le_of_ble_eq_true rfl) (by decide) (fm_dec dtX0_savedRisk 27 rfl) ?_
      refine c_xcostG (ag := 0) (hxq.low g33 h33).1 (hxq.low g33 h33).2.1 (hxq.low g33 h33).2.2.1 (hxq.low g33 h33).2.2.2.1 ho hi (wk_z0 (hxq.low g33 h33).2.2.2.1 ho) (by have := ho.1; omega) (by decide) (by decide) (fun M41 r41 g41 h41 e41 => ?_)
      refine pv_then1 ?_
      refine pv_lsub (pc := 44) (fm_dec dtX0_savedRisk 28 rfl) ?_
      refine pv_lstoren (pc := 45) (n := 3) 3 rfl (by decide) rfl (fm_dec dtX0_savedRisk 29 rfl) ?_
      dsimp only [List.set_cons_zero, List.set_cons_succ]
      refine pv_lconst (pc := 46) (v := 0) (by decide) (fm_dec dtX0_savedRisk 30 rfl) ?_
      refine pv_aloadn (pc := 47) (n := 0) 0 rfl rfl (fm_dec dtX0_savedRisk 31 rfl) ?_
      refine pv_getR (k := 32) (j := 0) (ci := 0) (pc := 48) 3 rfl (by decide) pfl_X0_15 (by decide) rfl (by decide) (fm_dec dtX0_savedRisk 32 rfl) ?_
      refine pv_getR (k := 3) (j := 1) (ci := 8) (pc := 51) 5 rfl (by decide) pfl_X0_81 (by decide) rfl (by decide) (fm_dec dtX0_savedRisk 33 rfl) ?_
      refine pv_iloadn (pc := 54) (n := 2) 2 rfl rfl (fm_dec dtX0_savedRisk 34 rfl) ?_
      refine pv_iald (k := 5) (n := 8) (pc := 55) (by decide) rfl rfl (ix_in hi9 (by omega)) (fm_dec dtX0_savedRisk 35 rfl) ?_
      rw [i32_cl hi9, (show (M41.1 5 i) = M.1 5 i by rw [g41 5 i (by decide), g33 5 i (by decide)])]
      refine pv_i2l (pc := 56) (fm_dec dtX0_savedRisk 36 rfl) ?_
      refine pv_lloadn (pc := 57) (n := 3) 3 rfl rfl (fm_dec dtX0_savedRisk 37 rfl) ?_
      refine pv_lmul (pc := 58) (fm_dec dtX0_savedRisk 38 rfl) ?_
      refine pv_ml (pc := 59) pln_X0_99 plc_X0_99 pml_X0_99 (by decide) (Nat.le_of_ble_eq_true rfl) (fm_dec dtX0_savedRisk 39 rfl) ?_
      exact pv_lreturn (pc := 62) rfl (fm_dec dtX0_savedRisk 40 rfl) (hq M41 _ (fun k j a => (g41 k j a).trans (g33 k j a)) (h41.trans h33) (by rw [mxl_0, sa_1 h3a h3b, ml_i g5 (sb_j e33 e41 (by omega) (by omega)) (by omega) (by omega)]))
    · refine pv_lconst (pc := 21) (v := 0) (by decide) (fm_dec dtX0_savedRisk 11 rfl) ?_
      exact pv_lreturn (pc := 22) rfl (fm_dec dtX0_savedRisk 12 rfl) (hq M 0 (fun _ _ _ => rfl) rfl (by have e1 : D.2.1 i 1 = 0 := (by rw [← g5, hc18]; exact z0); rw [sa_1 h3a h3b, e1, Int.zero_mul]; decide))
  · refine pv_then1 ?_
    refine pv_if_eq (pc := 6) 21 (by decide) (fm_dec dtX0_savedRisk 4 rfl) (fun _ => ?_) (fun hc6 => by exfalso; revert hc6; decide)
    refine pv_lconst (pc := 21) (v := 0) (by decide) (fm_dec dtX0_savedRisk 11 rfl) ?_
    exact pv_lreturn (pc := 22) rfl (fm_dec dtX0_savedRisk 12 rfl) (hq M 0 (fun _ _ _ => rfl) rfl (by rw [sa_0 h3]; decide))
set_option maxRecDepth 20000 in
theorem c_msv {M : fmM} {Q : fmR → fmM → Prop} {D : dD} {cs : tC} {S : aS} {i : Nat} (h : mAq M D cs S) (hi : i < D.1) (hq : ∀ (M' : fmM) (r : Int32), (∀ k j, k ≠ 5 → k ≠ 6 → M'.1 k j = M.1 k j) → M'.2 = M.2 → r.toInt = saS D cs S i → Q (.inl (some (.int r))) M') : pvGood Tm 10 qX11_saved [.ref 0, .ref 7, .int (nI i)] M Q := by
  refine pvGood_of (Nat.le_of_ble_eq_true rfl) ?_
  show pvEv Tm 10 qX11_saved 0 [some (.ref 0), some (.ref 7), some (.int (nI i))] [] M Q
  have hmq := h
  obtain ⟨hD, hY, hM, hd, ht, ho⟩ := h
  have d8 := hD.1
  have hi9 : (nI i).toInt = (i : Int) := nI_toInt (by omega)
  have hi8 : i < 8 := (by omega)
  have g5 : (M.1 (35 + i) (Int32.toNatClampNeg 1)).toInt = D.2.1 i 1 := hY.2.2.2.1 i hi 1 (by decide)
  have sm := sa_m (cs := cs) (S := S) hD hi
  have c1 := coS_b (cs := cs) (S := S) hD hi
  have c2 := coA_b (cs := cs) (dead := S.1.2.2.1) (w := S.1.1) (age := 0) hD hi
  have z0 : (0 : Int32).toInt = 0 := (by decide)
  refine pv_aloadn (pc := 0) (n := 0) 0 rfl rfl (fm_dec dtX11_saved 0 rfl) ?_
  refine pv_aloadn (pc := 1) (n := 1) 1 rfl rfl (fm_dec dtX11_saved 1 rfl) ?_
  refine pv_iloadn (pc := 2) (n := 2) 2 rfl rfl (fm_dec dtX11_saved 2 rfl) ?_
  refine pv_invV2 (k := 0) (d' := 1) (pc := 3) pcv_X11_296 (by decide) rfl (Nat.le_of_ble_eq_true rfl) (by decide) (fm_dec dtX11_saved 3 rfl) ?_
  refine c_mmay hD ht ho hi (fun h3a h3b => ?_) (fun h3 => ?_)
  · refine pv_then1 ?_
    refine pv_if_eq (pc := 6) 46 (by decide) (fm_dec dtX11_saved 4 rfl) (fun hc6 => by exfalso; revert hc6; decide) (fun _ => ?_)
    refine pv_iconst (pc := 9) (v := 0) (by decide) (fm_dec dtX11_saved 5 rfl) ?_
    refine pv_aloadn (pc := 10) (n := 0) 0 rfl rfl (fm_dec dtX11_saved 6 rfl) ?_
    refine pv_getR (k := 0) (j := 14) (ci := 11) (pc := 11) 17 rfl (by decide) pfl_X11_31 (by decide) rfl (by decide) (fm_dec dtX11_saved 7 rfl) ?_
    refine pv_iloadn (pc := 14) (n := 2) 2 rfl rfl (fm_dec dtX11_saved 8 rfl) ?_
    refine pv_aald (k := 17) (n := 8) (r := (35 + i)) (pc := 15) (by decide) (Or.inr (Or.inr rfl)) rfl (rw_life.inb hi9 hi8) (rw_life.at hi9 hi8) (rw_life.2.2.2 _ hi8).2.1 (fm_dec dtX11_saved 9 rfl) ?_
    refine pv_iconst (pc := 16) (v := 1) (by decide) (fm_dec dtX11_saved 10 rfl) ?_
    refine pv_iald (k := (35 + i)) (n := 6) (pc := 17) (rw_life.2.2.2 _ hi8).2.2.1 (rw_life.2.2.2 _ hi8).2.2.2.1 (rw_life.2.2.2 _ hi8).2.2.2.2 (fm_inl (by decide)) (fm_dec dtX11_saved 11 rfl) ?_
    refine pv_aloadn (pc := 18) (n := 0) 0 rfl rfl (fm_dec dtX11_saved 12 rfl) ?_
    refine pv_aloadn (pc := 19) (n := 1) 1 rfl rfl (fm_dec dtX11_saved 13 rfl) ?_
    refine pv_iloadn (pc := 20) (n := 2) 2 rfl rfl (fm_dec dtX11_saved 14 rfl) ?_
    refine pv_invV2 (k := 0) (d' := 8) (pc := 21) pcv_X11_293 (by decide) rfl (Nat.le_of_ble_eq_true rfl) (by decide) (fm_dec dtX11_saved 15 rfl) ?_
    refine c_mcofA hmq hi (fun M21 r21 g21 h21 e21 => ?_)
    refine pv_then1 ?_
    have hm21 := hmq.low (fun k j _ a b => g21 k j a b) (g21 0 17 (by decide) (by decide))
    have g10 : (M21.1 7 (Int32.toNatClampNeg 10)).toInt = (S.1.1 : Int) := hm21.2.2.2.2.1.2.1
    refine pv_aloadn (pc := 24) (n := 0) 0 rfl rfl (fm_dec dtX11_saved 16 rfl) ?_
    refine pv_aloadn (pc := 25) (n := 1) 1 rfl rfl (fm_dec dtX11_saved 17 rfl) ?_
    refine pv_iloadn (pc := 26) (n := 2) 2 rfl rfl (fm_dec dtX11_saved 18 rfl) ?_
    refine pv_aloadn (pc := 27) (n := 1) 1 rfl rfl (fm_dec dtX11_saved 19 rfl) ?_
    refine pv_bipush (pc := 28) (v := 10) (by decide) (fm_dec dtX11_saved 20 rfl) ?_
    refine pv_iald (k := 7) (n := 14) (pc := 30) (by decide) rfl rfl (fm_inl (by decide)) (fm_dec dtX11_saved 21 rfl) ?_
    refine pv_aloadn (pc := 31) (n := 1) 1 rfl rfl (fm_dec dtX11_saved 22 rfl) ?_
    refine pv_bipush (pc := 32) (v := 10) (by decide) (fm_dec dtX11_saved 23 rfl) ?_
    refine pv_iald (k := 7) (n := 14) (pc := 34) (by decide) rfl rfl (fm_inl (by decide)) (fm_dec dtX11_saved 24 rfl) ?_
    refine pv_invV4 (k := 0) (d' := 6) (pc := 35) pcv_X11_280 (by decide) rfl (Nat.le_of_ble_eq_true rfl) (by decide) (fm_dec dtX11_saved 25 rfl) ?_
    refine c_mcoG (ag := 0) hD hm21.2.1 hm21.2.2.1 hd hm21.2.2.2.2.1 ho hi g10 (by have := ho.1; omega) (by rw [g10, if_neg (by decide)]; omega) (by decide) (fun M35 r35 g35 h35 e35 => ?_)
    refine pv_then1 ?_
    refine pv_isub (pc := 38) (fm_dec dtX11_saved 26 rfl) ?_
    refine pv_imul (pc := 39) (fm_dec dtX11_saved 27 rfl) ?_
    refine pv_mm (pc := 40) pmm_X11_240 (by decide) (Nat.le_of_ble_eq_true rfl) (fm_dec dtX11_saved 28 rfl) ?_
    refine pv_goto (pc := 43) 47 (by decide) (fm_dec dtX11_saved 29 rfl) ?_
    exact pv_ireturn (pc := 47) rfl (fm_dec dtX11_saved 31 rfl) (hq M35 _ (fun k j a b => (g35 k j a b).trans (g21 k j a b)) (h35.trans h21) (by have e3 : r21.toInt = coS D cs S i := (by rw [e21, if_neg h3a]); have e4 : (r21 - r35).toInt = coS D cs S i - coA D cs S.1.2.2.1 S.1.1 i 0 := (by rw [sc_sub (by omega) (by omega), e3, e35]); rw [mxt, sa_1 h3a h3b, z0, sc_mul (by rw [g5, e4]; omega) (by rw [g5, e4]; omega), g5, e4]))
  · refine pv_then1 ?_
    refine pv_if_eq (pc := 6) 46 (by decide) (fm_dec dtX11_saved 4 rfl) (fun _ => ?_) (fun hc6 => by exfalso; revert hc6; decide)
    refine pv_iconst (pc := 46) (v := 0) (by decide) (fm_dec dtX11_saved 30 rfl) ?_
    exact pv_ireturn (pc := 47) rfl (fm_dec dtX11_saved 31 rfl) (hq M 0 (fun _ _ _ _ => rfl) rfl (by rw [sa_0 h3]; decide))
set_option maxRecDepth 20000 in
theorem xfi_loop {Q : fmR → fmM → Prop} {M : fmM} {D : dD} {cs : tC} {S : aS} {hm : Int32} {mo : Nat} (h : xAq M D cs S) (hm9 : hm.toInt = (mo : Int)) (hsv : ∀ j, j < D.1 → (M.2 33 j).toInt = saS D cs S j) : ∀ (m : Nat) (n : Nat) (w : Int32) (a : Int64) (b : Int32) (v9 : Option Value), n ≤ D.1 → D.1 - n = m → w.toInt = fiS (saS D cs S) (hoS D S) mo n → (fiS (saS D cs S) (hoS D S) mo n = -1 → a = 0 ∧ b = 1) ∧ (fiS (saS D cs S) (hoS D S) mo n ≠ -1 → a.toInt = saS D cs S (fiS (saS D cs S) (hoS D S) mo n).toNat ∧ b.toInt = ((hoS D S (fiS (saS D cs S) (hoS D S) mo n).toNat : Nat) : Int)) → (∀ r : Int32, r.toInt = fiS (saS D cs S) (hoS D S) mo D.1 → Q (.inl (some (.int r))) M) → pvEv Tx 20 qX0_firstOf 12 [some (.ref 32), some (.ref 47), some (.ref 33), some (.int hm), some (.int w), some (.long a), none, some (.int b), some (.int (nI n)), v9] [] M Q := by
  intro m
  induction m using Nat.strongRecOn with
  | _ m ih =>
    intro n w a b v9 hnD hm0 hw hab hq
    obtain ⟨hD, hX, hL, hs, ho⟩ := h
    have d8 := hD.1
    have hn9 : (nI n).toInt = (n : Int) := nI_toInt (by omega)
    have h39 : (M.1 3 9).toInt = (D.1 : Int) := hX.1.1
    refine pv_iload (pc := 12) (i := 8) rfl (fm_dec dtX0_firstOf 8 rfl) ?_
    refine pv_aloadn (pc := 14) (n := 0) 0 rfl rfl (fm_dec dtX0_firstOf 9 rfl) ?_
    refine pv_getR (k := 32) (j := 0) (ci := 0) (pc := 15) 3 rfl (by decide) pfl_X0_15 (by decide) rfl (by decide) (fm_dec dtX0_firstOf 10 rfl) ?_
    refine pv_getI (k := 3) (j := 9) (ci := 8) (pc := 18) pfl_X0_75 (by decide) rfl (by decide) (fm_dec dtX0_firstOf 11 rfl) ?_
    refine pv_icmp_ge (pc := 21) 84 (by decide) (fm_dec dtX0_firstOf 12 rfl) (fun hc21 => ?_) (fun hc21 => ?_)
    · refine pv_iload (pc := 84) (i := 4) rfl (fm_dec dtX0_firstOf 47 rfl) ?_
      exact pv_ireturn (pc := 86) rfl (fm_dec dtX0_firstOf 48 rfl) (by have e9 : n = D.1 := (by rw [sc_le] at hc21; omega); subst e9; exact hq _ hw)
    · have hn : n < D.1 := (by rw [sc_le] at hc21; omega)
      have fb := fi_b (sv := saS D cs S) (hr := hoS D S) (most := mo) n
      have sbn := sa_b (cs := cs) (S := S) hD hn
      have hbn := ho_b (S := S) hD hn
      have gn : (M.2 33 n).toInt = saS D cs S n := hsv n hn
      refine pv_iload (pc := 24) (i := 8) rfl (fm_dec dtX0_firstOf 13 rfl) ?_
      refine pv_aloadn (pc := 26) (n := 2) 2 rfl rfl (fm_dec dtX0_firstOf 14 rfl) ?_
      refine pv_alenJ (k := 33) (n := 8) (v := 8) (pc := 27) (by decide) rfl rfl (by decide) (fm_dec dtX0_firstOf 15 rfl) ?_
      refine pv_icmp_ge (pc := 28) 84 (by decide) (fm_dec dtX0_firstOf 16 rfl) (fun hc28 => by exfalso; rw [sc_le] at hc28; have z8 : (8 : Int32).toInt = 8 := (by decide); omega) (fun _ => ?_)
      refine pv_aloadn (pc := 31) (n := 0) 0 rfl rfl (fm_dec dtX0_firstOf 17 rfl) ?_
      refine pv_aloadn (pc := 32) (n := 1) 1 rfl rfl (fm_dec dtX0_firstOf 18 rfl) ?_
      refine pv_iload (pc := 33) (i := 8) rfl (fm_dec dtX0_firstOf 19 rfl) ?_
      refine pv_invV2 (k := 32) (d' := 2) (pc := 35) pcv_X0_113 (by decide) rfl (Nat.le_of_ble_eq_true rfl) (by decide) (fm_dec dtX0_firstOf 20 rfl) ?_
      refine c_xhours hD hX hs hn (fun r35 h35 => ?_)
      refine pv_then1 ?_
      refine pv_istore (pc := 38) (i := 9) (by decide) rfl (fm_dec dtX0_firstOf 21 rfl) ?_
      dsimp only [List.set_cons_zero, List.set_cons_succ]
      refine pv_iload (pc := 40) (i := 9) rfl (fm_dec dtX0_firstOf 22 rfl) ?_
      refine pv_iloadn (pc := 42) (n := 3) 3 rfl rfl (fm_dec dtX0_firstOf 23 rfl) ?_
      refine pv_icmp_gt (pc := 43) 78 (by decide) (fm_dec dtX0_firstOf 24 rfl) (fun hc43 => ?_) (fun hc43 => ?_)
      · refine pv_iincc (pc := 78) 8 1 (by decide) rfl (by decide) rfl (fm_dec dtX0_firstOf 45 rfl) ?_
        dsimp only [List.set_cons_zero, List.set_cons_succ]
        refine pv_goto (pc := 81) 12 (by decide) (fm_dec dtX0_firstOf 46 rfl) ?_
        have e9 : fiS (saS D cs S) (hoS D S) mo (n + 1) = fiS (saS D cs S) (hoS D S) mo n := fi_f (by rintro ⟨h1, -⟩; rw [sc_lt] at hc43; omega)
        rw [nI_succ1]
        exact ih (D.1 - (n + 1)) (by omega) (n + 1) _ _ _ _ (by omega) rfl (by rw [e9]; exact hw) (by rw [e9]; exact hab) hq
      · have p1 : (M.2 33 n * b.toInt64).toInt ≤ (a * r35.toInt64).toInt ↔ ¬ (0 < saS D cs S n ∧ (fiS (saS D cs S) (hoS D S) mo n = -1 ∨ saS D cs S (fiS (saS D cs S) (hoS D S) mo n).toNat * hoS D S n < saS D cs S n * hoS D S (fiS (saS D cs S) (hoS D S) mo n).toNat)) := (by
          by_cases e : fiS (saS D cs S) (hoS D S) mo n = -1
          · obtain ⟨ea, eb⟩ := hab.1 e
            rw [ea, eb, mj_i (n := 1) gn (by decide) sbn (by decide), mj_i (a := 0) (n := hoS D S n) (by decide) h35 (by decide) hbn.2, Int.zero_mul]
            constructor
            · rintro h1 ⟨h2, -⟩
              omega
            · intro h1
              have h3 : ¬ 0 < saS D cs S n := fun h4 => h1 ⟨h4, Or.inl e⟩
              omega
          · obtain ⟨ea, eb⟩ := hab.2 e
            have sbb := sa_b (cs := cs) (S := S) (i := (fiS (saS D cs S) (hoS D S) mo n).toNat) hD (by omega)
            have hbb := ho_b (S := S) (i := (fiS (saS D cs S) (hoS D S) mo n).toNat) hD (by omega)
            have hp := fb.2.2 e
            rw [mj_i gn eb sbn hbb.2, mj_i ea h35 sbb hbn.2]
            constructor
            · rintro h1 ⟨-, h2 | h2⟩
              · exact e h2
              · omega
            · intro h1
              rcases Int.lt_or_le (saS D cs S (fiS (saS D cs S) (hoS D S) mo n).toNat * (hoS D S n : Int)) (saS D cs S n * (hoS D S (fiS (saS D cs S) (hoS D S) mo n).toNat : Int)) with h2 | h2
              · refine absurd ⟨?_, Or.inr h2⟩ h1
                rcases Int.lt_or_le 0 (saS D cs S n) with h3 | h3
                · exact h3
                · have h4 : saS D cs S n = 0 := (by omega)
                  rw [h4, Int.zero_mul] at h2
                  have h5 := (mj_b sbb hbn.2).1
                  omega
              · exact h2)
        refine pv_aloadn (pc := 46) (n := 2) 2 rfl rfl (fm_dec dtX0_firstOf 25 rfl) ?_
        refine pv_iload (pc := 47) (i := 8) rfl (fm_dec dtX0_firstOf 26 rfl) ?_
        refine pv_lald (k := 33) (n := 8) (pc := 49) (by decide) rfl rfl (ix_in hn9 (by omega)) (fm_dec dtX0_firstOf 27 rfl) ?_
        rw [i32_cl hn9]
        refine pv_iload (pc := 50) (i := 7) rfl (fm_dec dtX0_firstOf 28 rfl) ?_
        refine pv_i2l (pc := 52) (fm_dec dtX0_firstOf 29 rfl) ?_
        refine pv_lmul (pc := 53) (fm_dec dtX0_firstOf 30 rfl) ?_
        refine pv_lload (pc := 54) (i := 5) rfl (fm_dec dtX0_firstOf 31 rfl) ?_
        refine pv_iload (pc := 56) (i := 9) rfl (fm_dec dtX0_firstOf 32 rfl) ?_
        refine pv_i2l (pc := 58) (fm_dec dtX0_firstOf 33 rfl) ?_
        refine pv_lmul (pc := 59) (fm_dec dtX0_firstOf 34 rfl) ?_
        refine pv_lcmp (pc := 60) (fm_dec dtX0_firstOf 35 rfl) ?_
        refine pv_if_le (pc := 61) 78 (by decide) (fm_dec dtX0_firstOf 36 rfl) (fun hc61 => ?_) (fun hc61 => ?_)
        · refine pv_iincc (pc := 78) 8 1 (by decide) rfl (by decide) rfl (fm_dec dtX0_firstOf 45 rfl) ?_
          dsimp only [List.set_cons_zero, List.set_cons_succ]
          refine pv_goto (pc := 81) 12 (by decide) (fm_dec dtX0_firstOf 46 rfl) ?_
          have e9 : fiS (saS D cs S) (hoS D S) mo (n + 1) = fiS (saS D cs S) (hoS D S) mo n := fi_f (by rintro ⟨-, h1⟩; exact p1.mp (lc_gt.mp hc61) h1)
          rw [nI_succ1]
          exact ih (D.1 - (n + 1)) (by omega) (n + 1) _ _ _ _ (by omega) rfl (by rw [e9]; exact hw) (by rw [e9]; exact hab) hq
        · refine pv_iload (pc := 64) (i := 8) rfl (fm_dec dtX0_firstOf 37 rfl) ?_
          refine pv_istore (pc := 66) (i := 4) (by decide) rfl (fm_dec dtX0_firstOf 38 rfl) ?_
          dsimp only [List.set_cons_zero, List.set_cons_succ]
          refine pv_aloadn (pc := 68) (n := 2) 2 rfl rfl (fm_dec dtX0_firstOf 39 rfl) ?_
          refine pv_iload (pc := 69) (i := 8) rfl (fm_dec dtX0_firstOf 40 rfl) ?_
          refine pv_lald (k := 33) (n := 8) (pc := 71) (by decide) rfl rfl (ix_in hn9 (by omega)) (fm_dec dtX0_firstOf 41 rfl) ?_
          rw [i32_cl hn9]
          refine pv_lstore (pc := 72) (i := 5) (by decide) rfl (fm_dec dtX0_firstOf 42 rfl) ?_
          dsimp only [List.set_cons_zero, List.set_cons_succ]
          refine pv_iload (pc := 74) (i := 9) rfl (fm_dec dtX0_firstOf 43 rfl) ?_
          refine pv_istore (pc := 76) (i := 7) (by decide) rfl (fm_dec dtX0_firstOf 44 rfl) ?_
          dsimp only [List.set_cons_zero, List.set_cons_succ]
          refine pv_iincc (pc := 78) 8 1 (by decide) rfl (by decide) rfl (fm_dec dtX0_firstOf 45 rfl) ?_
          dsimp only [List.set_cons_zero, List.set_cons_succ]
          refine pv_goto (pc := 81) 12 (by decide) (fm_dec dtX0_firstOf 46 rfl) ?_
          have e9 : fiS (saS D cs S) (hoS D S) mo (n + 1) = (n : Int) := fi_t ⟨by rw [sc_lt] at hc43; omega, Classical.not_not.mp (fun h1 => hc61 (lc_gt.mpr (p1.mpr h1)))⟩
          rw [nI_succ1]
          exact ih (D.1 - (n + 1)) (by omega) (n + 1) _ _ _ _ (by omega) rfl (by rw [e9]; exact hn9) (by rw [e9, Int.toNat_natCast]; exact ⟨fun e => absurd e (by omega), fun _ => ⟨gn, h35⟩⟩) hq
set_option maxRecDepth 20000 in
theorem c_xfo {M : fmM} {Q : fmR → fmM → Prop} {D : dD} {cs : tC} {S : aS} {hm : Int32} {mo : Nat} (h : xAq M D cs S) (hm9 : hm.toInt = (mo : Int)) (hsv : ∀ j, j < D.1 → (M.2 33 j).toInt = saS D cs S j) (hq : ∀ r : Int32, r.toInt = fiS (saS D cs S) (hoS D S) mo D.1 → Q (.inl (some (.int r))) M) : pvGood Tx 21 qX0_firstOf [.ref 32, .ref 47, .ref 33, .int hm] M Q := by
  refine pvGood_of (Nat.le_of_ble_eq_true rfl) ?_
  show pvEv Tx 21 qX0_firstOf 0 [some (.ref 32), some (.ref 47), some (.ref 33), some (.int hm), none, none, none, none, none, none] [] M Q
  refine pv_iconst (pc := 0) (v := (-1)) (by decide) (fm_dec dtX0_firstOf 0 rfl) ?_
  refine pv_istore (pc := 1) (i := 4) (by decide) rfl (fm_dec dtX0_firstOf 1 rfl) ?_
  dsimp only [List.set_cons_zero, List.set_cons_succ]
  refine pv_lconst (pc := 3) (v := 0) (by decide) (fm_dec dtX0_firstOf 2 rfl) ?_
  refine pv_lstore (pc := 4) (i := 5) (by decide) rfl (fm_dec dtX0_firstOf 3 rfl) ?_
  dsimp only [List.set_cons_zero, List.set_cons_succ]
  refine pv_iconst (pc := 6) (v := 1) (by decide) (fm_dec dtX0_firstOf 4 rfl) ?_
  refine pv_istore (pc := 7) (i := 7) (by decide) rfl (fm_dec dtX0_firstOf 5 rfl) ?_
  dsimp only [List.set_cons_zero, List.set_cons_succ]
  refine pv_iconst (pc := 9) (v := 0) (by decide) (fm_dec dtX0_firstOf 6 rfl) ?_
  refine pv_istore (pc := 10) (i := 8) (by decide) rfl (fm_dec dtX0_firstOf 7 rfl) ?_
  dsimp only [List.set_cons_zero, List.set_cons_succ]
  exact (xfi_loop h hm9 hsv D.1 0 _ _ _ _ (Nat.zero_le _) rfl (by show (-1 : Int32).toInt = (-1 : Int); decide) ⟨fun _ => ⟨rfl, rfl⟩, fun e => absurd rfl e⟩ hq).up (by decide)
theorem fmJ_j2 {M : fmM} {k j j' : Nat} {x : Int64} (h : j' ≠ j) : (fmJ M k j x).2 k j' = M.2 k j' := by
  show (if k = k then vp_updL (M.2 k) j x else M.2 k) j' = _
  rw [if_pos rfl]
  simp [vp_updL, h]
set_option maxRecDepth 20000 in
theorem xfa_loop {Q : fmR → fmM → Prop} {D : dD} {cs : tC} {S : aS} : ∀ (m : Nat) (n : Nat) (M : fmM), xAq M D cs S → n ≤ D.1 → D.1 - n = m → (∀ j, j < n → (M.2 33 j).toInt = saS D cs S j) → (∀ (r : Int32) (M' : fmM), r.toInt = fiS (saS D cs S) (hoS D S) 12 D.1 → Q (.inl (some (.int r))) M') → pvEv Tx 22 qX0_firstOfAll 2 [some (.ref 32), some (.ref 47), some (.int (nI n))] [] M Q := by
  intro m
  induction m using Nat.strongRecOn with
  | _ m ih =>
    intro n M h hnD hm0 hsv hq
    have d8 := h.1.1
    have hn9 : (nI n).toInt = (n : Int) := nI_toInt (by omega)
    have h39 : (M.1 3 9).toInt = (D.1 : Int) := h.2.1.1.1
    refine pv_iloadn (pc := 2) (n := 2) 2 rfl rfl (fm_dec dtX0_firstOfAll 2 rfl) ?_
    refine pv_aloadn (pc := 3) (n := 0) 0 rfl rfl (fm_dec dtX0_firstOfAll 3 rfl) ?_
    refine pv_getR (k := 32) (j := 0) (ci := 0) (pc := 4) 3 rfl (by decide) pfl_X0_15 (by decide) rfl (by decide) (fm_dec dtX0_firstOfAll 4 rfl) ?_
    refine pv_getI (k := 3) (j := 9) (ci := 8) (pc := 7) pfl_X0_75 (by decide) rfl (by decide) (fm_dec dtX0_firstOfAll 5 rfl) ?_
    refine pv_icmp_ge (pc := 10) 31 (by decide) (fm_dec dtX0_firstOfAll 6 rfl) (fun hc10 => ?_) (fun hc10 => ?_)
    · refine pv_aloadn (pc := 31) (n := 0) 0 rfl rfl (fm_dec dtX0_firstOfAll 17 rfl) ?_
      refine pv_aloadn (pc := 32) (n := 1) 1 rfl rfl (fm_dec dtX0_firstOfAll 18 rfl) ?_
      refine pv_aloadn (pc := 33) (n := 0) 0 rfl rfl (fm_dec dtX0_firstOfAll 19 rfl) ?_
      refine pv_getR (k := 32) (j := 2) (ci := 0) (pc := 34) 33 rfl (by decide) pfl_X0_9 (by decide) rfl (by decide) (fm_dec dtX0_firstOfAll 20 rfl) ?_
      refine pv_bipush (pc := 37) (v := 12) (by decide) (fm_dec dtX0_firstOfAll 21 rfl) ?_
      refine pv_invV3 (k := 32) (d' := 21) (pc := 39) pcv_X0_109 (by decide) rfl (Nat.le_of_ble_eq_true rfl) (by decide) (fm_dec dtX0_firstOfAll 22 rfl) ?_
      refine c_xfo (mo := 12) h (by decide) (fun j hj => hsv j (by have h9 : n = D.1 := (by rw [sc_le] at hc10; omega); omega)) (fun r39 e39 => ?_)
      refine pv_then1 ?_
      exact pv_ireturn (pc := 42) rfl (fm_dec dtX0_firstOfAll 23 rfl) (hq _ M e39)
    · have hn : n < D.1 := (by rw [sc_le] at hc10; omega)
      refine pv_aloadn (pc := 13) (n := 0) 0 rfl rfl (fm_dec dtX0_firstOfAll 7 rfl) ?_
      refine pv_getR (k := 32) (j := 2) (ci := 0) (pc := 14) 33 rfl (by decide) pfl_X0_9 (by decide) rfl (by decide) (fm_dec dtX0_firstOfAll 8 rfl) ?_
      refine pv_iloadn (pc := 17) (n := 2) 2 rfl rfl (fm_dec dtX0_firstOfAll 9 rfl) ?_
      refine pv_aloadn (pc := 18) (n := 0) 0 rfl rfl (fm_dec dtX0_firstOfAll 10 rfl) ?_
      refine pv_aloadn (pc := 19) (n := 1) 1 rfl rfl (fm_dec dtX0_firstOfAll 11 rfl) ?_
      refine pv_iloadn (pc := 20) (n := 2) 2 rfl rfl (fm_dec dtX0_firstOfAll 12 rfl) ?_
      refine pv_invV2 (k := 32) (d' := 10) (pc := 21) pcv_X0_105 (by decide) rfl (Nat.le_of_ble_eq_true rfl) (by decide) (fm_dec dtX0_firstOfAll 13 rfl) ?_
      refine c_xsv h hn (fun M21 r21 g21 h21 e21 => ?_)
      refine pv_then1 ?_
      refine pv_last (k := 33) (n := 8) (pc := 24) (by decide) rfl rfl (ix_in hn9 (by omega)) (fm_dec dtX0_firstOfAll 14 rfl) ?_
      rw [i32_cl hn9]
      refine pv_iincc (pc := 25) 2 1 (by decide) rfl (by decide) rfl (fm_dec dtX0_firstOfAll 15 rfl) ?_
      dsimp only [List.set_cons_zero, List.set_cons_succ]
      refine pv_goto (pc := 28) 2 (by decide) (fm_dec dtX0_firstOfAll 16 rfl) ?_
      rw [nI_succ1]
      have hx9 : xAq (fmJ M21 33 n r21) D cs S := h.lowJ (fun k j a => g21 k j a) (by rw [fmJ_k2 (by decide), h21])
      exact ih (D.1 - (n + 1)) (by omega) (n + 1) _ hx9 (by omega) rfl (fun j hj => (by by_cases e : j = n; (subst e; rw [fmJ_s2]; exact e21); (rw [fmJ_j2 e, h21]; exact hsv j (by omega)))) hq
set_option maxRecDepth 20000 in
theorem c_xfall {M : fmM} {Q : fmR → fmM → Prop} {D : dD} {cs : tC} {S : aS} (h : xAq M D cs S) (hq : ∀ (r : Int32) (M' : fmM), r.toInt = fiS (saS D cs S) (hoS D S) 12 D.1 → Q (.inl (some (.int r))) M') : pvGood Tx 23 qX0_firstOfAll [.ref 32, .ref 47] M Q := by
  refine pvGood_of (Nat.le_of_ble_eq_true rfl) ?_
  show pvEv Tx 23 qX0_firstOfAll 0 [some (.ref 32), some (.ref 47), none] [] M Q
  refine pv_iconst (pc := 0) (v := 0) (by decide) (fm_dec dtX0_firstOfAll 0 rfl) ?_
  refine pv_istoren (pc := 1) (n := 2) 2 rfl (by decide) rfl (fm_dec dtX0_firstOfAll 1 rfl) ?_
  dsimp only [List.set_cons_zero, List.set_cons_succ]
  exact (xfa_loop D.1 0 M h (Nat.zero_le _) rfl (fun j hj => absurd hj (Nat.not_lt_zero j)) hq).up (by decide)
set_option maxRecDepth 20000 in
theorem mfi_loop {Q : fmR → fmM → Prop} {D : dD} {cs : tC} {S : aS} {hm : Int32} {mo : Nat} (hm9 : hm.toInt = (mo : Int)) : ∀ (m : Nat) (n : Nat) (M : fmM) (w : Int32), (mAq M D cs S ∧ M.1 0 0 = 0) → n ≤ D.1 → D.1 - n = m → w.toInt = fiS (saS D cs S) (hoS D S) mo n → (∀ (r : Int32) (M' : fmM), M'.1 0 0 = 0 → r.toInt = fiS (saS D cs S) (hoS D S) mo D.1 → Q (.inl (some (.int r))) M') → pvEv Tm 20 qX11_firstOf 5 [some (.ref 0), some (.ref 7), some (.int hm), some (.int w), some (.int (nI n))] [] M Q := by
  intro m
  induction m using Nat.strongRecOn with
  | _ m ih =>
    intro n M w h hnD hm0 hw hq
    have h9q := h.1
    obtain ⟨hD, hY, hM, hd, ht, ho⟩ := h9q
    have d8 := hD.1
    have hn9 : (nI n).toInt = (n : Int) := nI_toInt (by omega)
    have h39 : (M.1 4 (Int32.toNatClampNeg 0)).toInt = (D.1 : Int) := hY.1
    refine pv_iload (pc := 5) (i := 4) rfl (fm_dec dtX11_firstOf 4 rfl) ?_
    refine pv_aloadn (pc := 7) (n := 0) 0 rfl rfl (fm_dec dtX11_firstOf 5 rfl) ?_
    refine pv_getR (k := 0) (j := 12) (ci := 11) (pc := 8) 4 rfl (by decide) pfl_X11_23 (by decide) rfl (by decide) (fm_dec dtX11_firstOf 6 rfl) ?_
    refine pv_iconst (pc := 11) (v := 0) (by decide) (fm_dec dtX11_firstOf 7 rfl) ?_
    refine pv_iald (k := 4) (n := 6) (pc := 12) (by decide) rfl rfl (fm_inl (by decide)) (fm_dec dtX11_firstOf 8 rfl) ?_
    refine pv_icmp_ge (pc := 13) 90 (by decide) (fm_dec dtX11_firstOf 9 rfl) (fun hc13 => ?_) (fun hc13 => ?_)
    · refine pv_iloadn (pc := 90) (n := 3) 3 rfl rfl (fm_dec dtX11_firstOf 53 rfl) ?_
      exact pv_ireturn (pc := 91) rfl (fm_dec dtX11_firstOf 54 rfl) (by have e9 : n = D.1 := (by rw [sc_le] at hc13; omega); subst e9; exact hq _ _ h.2 hw)
    · have hn : n < D.1 := (by rw [sc_le] at hc13; omega)
      have hn8 : n < 8 := (by omega)
      have fb := fi_b (sv := saS D cs S) (hr := hoS D S) (most := mo) n
      have sbn := sa_b (cs := cs) (S := S) hD hn
      have hbn := ho_b (S := S) hD hn
      refine pv_aloadn (pc := 16) (n := 0) 0 rfl rfl (fm_dec dtX11_firstOf 10 rfl) ?_
      refine pv_aloadn (pc := 17) (n := 1) 1 rfl rfl (fm_dec dtX11_firstOf 11 rfl) ?_
      refine pv_iload (pc := 18) (i := 4) rfl (fm_dec dtX11_firstOf 12 rfl) ?_
      refine pv_invV2 (k := 0) (d' := 10) (pc := 20) pcv_X11_355 (by decide) rfl (Nat.le_of_ble_eq_true rfl) (by decide) (fm_dec dtX11_firstOf 13 rfl) ?_
      refine c_msv (i := n) h.1 hn (fun M20 r20 g20 k20 e20 => ?_)
      refine pv_then1 ?_
      have h20 := h.1.low (fun k j _ x y => g20 k j x y) (g20 0 17 (by decide) (by decide))
      have z20 : M20.1 0 0 = 0 := (g20 0 0 (by decide) (by decide)).trans h.2
      refine pv_if_eq (pc := 23) 84 (by decide) (fm_dec dtX11_firstOf 14 rfl) (fun hc23 => ?_) (fun hc23 => ?_)
      · refine pv_iincc (pc := 84) 4 1 (by decide) rfl (by decide) rfl (fm_dec dtX11_firstOf 51 rfl) ?_
        dsimp only [List.set_cons_zero, List.set_cons_succ]
        refine pv_goto (pc := 87) 5 (by decide) (fm_dec dtX11_firstOf 52 rfl) ?_
        have e0 : saS D cs S n = 0 := (by rw [← e20, hc23]; decide)
        have e9 : fiS (saS D cs S) (hoS D S) mo (n + 1) = fiS (saS D cs S) (hoS D S) mo n := fi_f (by rintro ⟨-, h1, -⟩; omega)
        rw [nI_succ1]
        exact ih (D.1 - (n + 1)) (by omega) (n + 1) M20 _ ⟨h20, z20⟩ (by omega) rfl (by rw [e9]; exact hw) hq
      · refine pv_aloadn (pc := 26) (n := 0) 0 rfl rfl (fm_dec dtX11_firstOf 15 rfl) ?_
        refine pv_aloadn (pc := 27) (n := 1) 1 rfl rfl (fm_dec dtX11_firstOf 16 rfl) ?_
        refine pv_iload (pc := 28) (i := 4) rfl (fm_dec dtX11_firstOf 17 rfl) ?_
        refine pv_invV2 (k := 0) (d' := 2) (pc := 30) pcv_X11_290 (by decide) rfl (Nat.le_of_ble_eq_true rfl) (by decide) (fm_dec dtX11_firstOf 18 rfl) ?_
        refine c_hours7 hn9 hn8 (h5_ne hD h20.2.1) ?_
        refine pv_then1 ?_
        have er : (hrV M20 n).toInt = ((hoS D S n : Nat) : Int) := hrV_n hD h20.2.1 h20.2.2.2.2.1 ho hn
        refine pv_iloadn (pc := 33) (n := 2) 2 rfl rfl (fm_dec dtX11_firstOf 19 rfl) ?_
        refine pv_icmp_le (pc := 34) 40 (by decide) (fm_dec dtX11_firstOf 20 rfl) (fun hc34 => ?_) (fun hc34 => ?_)
        · refine pv_iloadn (pc := 40) (n := 3) 3 rfl rfl (fm_dec dtX11_firstOf 22 rfl) ?_
          refine pv_iconst (pc := 41) (v := (-1)) (by decide) (fm_dec dtX11_firstOf 23 rfl) ?_
          refine pv_icmp_eq (pc := 42) 81 (by decide) (fm_dec dtX11_firstOf 24 rfl) (fun hc42 => ?_) (fun hc42 => ?_)
          · refine pv_iload (pc := 81) (i := 4) rfl (fm_dec dtX11_firstOf 49 rfl) ?_
            refine pv_istoren (pc := 83) (n := 3) 3 rfl (by decide) rfl (fm_dec dtX11_firstOf 50 rfl) ?_
            dsimp only [List.set_cons_zero, List.set_cons_succ]
            refine pv_iincc (pc := 84) 4 1 (by decide) rfl (by decide) rfl (fm_dec dtX11_firstOf 51 rfl) ?_
            dsimp only [List.set_cons_zero, List.set_cons_succ]
            refine pv_goto (pc := 87) 5 (by decide) (fm_dec dtX11_firstOf 52 rfl) ?_
            have e1 : ¬ saS D cs S n = 0 := (fun e => hc23 (i32_ext (e20.trans (by rw [e]; decide))))
            have e9 : fiS (saS D cs S) (hoS D S) mo (n + 1) = (n : Int) := fi_t ⟨by rw [sc_le] at hc34; omega, by omega, Or.inl (by rw [← hw, hc42]; decide)⟩
            rw [nI_succ1]
            exact ih (D.1 - (n + 1)) (by omega) (n + 1) M20 _ ⟨h20, z20⟩ (by omega) rfl (by rw [e9]; exact hn9) hq
          · have hne : ¬ (fiS (saS D cs S) (hoS D S) mo n) = -1 := (fun e => hc42 (i32_ext (hw.trans (by rw [e]; decide))))
            have hbi : (fiS (saS D cs S) (hoS D S) mo n).toNat < D.1 := (by omega)
            have ewb : w = nI (fiS (saS D cs S) (hoS D S) mo n).toNat := nI_is (by omega) (by omega)
            have hwb9 : (nI (fiS (saS D cs S) (hoS D S) mo n).toNat).toInt = (((fiS (saS D cs S) (hoS D S) mo n).toNat : Nat) : Int) := nI_toInt (by omega)
            have sbb := sa_b (cs := cs) (S := S) (i := (fiS (saS D cs S) (hoS D S) mo n).toNat) hD hbi
            have hbb := ho_b (S := S) (i := (fiS (saS D cs S) (hoS D S) mo n).toNat) hD hbi
            have hw0 := hw
            rw [ewb]
            refine pv_aloadn (pc := 45) (n := 0) 0 rfl rfl (fm_dec dtX11_firstOf 25 rfl) ?_
            refine pv_aloadn (pc := 46) (n := 1) 1 rfl rfl (fm_dec dtX11_firstOf 26 rfl) ?_
            refine pv_iload (pc := 47) (i := 4) rfl (fm_dec dtX11_firstOf 27 rfl) ?_
            refine pv_invV2 (k := 0) (d' := 10) (pc := 49) pcv_X11_355 (by decide) rfl (Nat.le_of_ble_eq_true rfl) (by decide) (fm_dec dtX11_firstOf 28 rfl) ?_
            refine c_msv (i := n) h20 hn (fun M49 r49 g49 k49 e49 => ?_)
            refine pv_then1 ?_
            have h49 := h20.low (fun k j _ x y => g49 k j x y) (g49 0 17 (by decide) (by decide))
            have z49 : M49.1 0 0 = 0 := (g49 0 0 (by decide) (by decide)).trans z20
            refine pv_i2l (pc := 52) (fm_dec dtX11_firstOf 29 rfl) ?_
            refine pv_aloadn (pc := 53) (n := 0) 0 rfl rfl (fm_dec dtX11_firstOf 30 rfl) ?_
            refine pv_aloadn (pc := 54) (n := 1) 1 rfl rfl (fm_dec dtX11_firstOf 31 rfl) ?_
            refine pv_iloadn (pc := 55) (n := 3) 3 rfl rfl (fm_dec dtX11_firstOf 32 rfl) ?_
            refine pv_invV2 (k := 0) (d' := 2) (pc := 56) pcv_X11_290 (by decide) rfl (Nat.le_of_ble_eq_true rfl) (by decide) (fm_dec dtX11_firstOf 33 rfl) ?_
            refine c_hours7 hwb9 (by omega) (h5_ne hD h49.2.1) ?_
            refine pv_then1 ?_
            refine pv_i2l (pc := 59) (fm_dec dtX11_firstOf 34 rfl) ?_
            refine pv_lmul (pc := 60) (fm_dec dtX11_firstOf 35 rfl) ?_
            refine pv_aloadn (pc := 61) (n := 0) 0 rfl rfl (fm_dec dtX11_firstOf 36 rfl) ?_
            refine pv_aloadn (pc := 62) (n := 1) 1 rfl rfl (fm_dec dtX11_firstOf 37 rfl) ?_
            refine pv_iloadn (pc := 63) (n := 3) 3 rfl rfl (fm_dec dtX11_firstOf 38 rfl) ?_
            refine pv_invV2 (k := 0) (d' := 10) (pc := 64) pcv_X11_355 (by decide) rfl (Nat.le_of_ble_eq_true rfl) (by decide) (fm_dec dtX11_firstOf 39 rfl) ?_
            refine c_msv (i := (fiS (saS D cs S) (hoS D S) mo n).toNat) h49 hbi (fun M64 r64 g64 k64 e64 => ?_)
            refine pv_then1 ?_
            have h64 := h49.low (fun k j _ x y => g64 k j x y) (g64 0 17 (by decide) (by decide))
            have z64 : M64.1 0 0 = 0 := (g64 0 0 (by decide) (by decide)).trans z49
            refine pv_i2l (pc := 67) (fm_dec dtX11_firstOf 40 rfl) ?_
            refine pv_aloadn (pc := 68) (n := 0) 0 rfl rfl (fm_dec dtX11_firstOf 41 rfl) ?_
            refine pv_aloadn (pc := 69) (n := 1) 1 rfl rfl (fm_dec dtX11_firstOf 42 rfl) ?_
            refine pv_iload (pc := 70) (i := 4) rfl (fm_dec dtX11_firstOf 43 rfl) ?_
            refine pv_invV2 (k := 0) (d' := 2) (pc := 72) pcv_X11_290 (by decide) rfl (Nat.le_of_ble_eq_true rfl) (by decide) (fm_dec dtX11_firstOf 44 rfl) ?_
            refine c_hours7 hn9 hn8 (h5_ne hD h64.2.1) ?_
            refine pv_then1 ?_
            refine pv_i2l (pc := 75) (fm_dec dtX11_firstOf 45 rfl) ?_
            refine pv_lmul (pc := 76) (fm_dec dtX11_firstOf 46 rfl) ?_
            have q1 := mj_i (x := r49.toInt64) (z := hrV M49 (fiS (saS D cs S) (hoS D S) mo n).toNat) (by rw [Int32.toInt_toInt64]; exact e49) (hrV_n hD h49.2.1 h49.2.2.2.2.1 ho hbi) sbn hbb.2
            have q2 := mj_i (x := r64.toInt64) (z := hrV M64 n) (by rw [Int32.toInt_toInt64]; exact e64) (hrV_n hD h64.2.1 h64.2.2.2.2.1 ho hn) sbb hbn.2
            refine pv_lcmp (pc := 77) (fm_dec dtX11_firstOf 47 rfl) ?_
            refine pv_if_le (pc := 78) 84 (by decide) (fm_dec dtX11_firstOf 48 rfl) (fun hc78 => ?_) (fun hc78 => ?_)
            · refine pv_iincc (pc := 84) 4 1 (by decide) rfl (by decide) rfl (fm_dec dtX11_firstOf 51 rfl) ?_
              dsimp only [List.set_cons_zero, List.set_cons_succ]
              refine pv_goto (pc := 87) 5 (by decide) (fm_dec dtX11_firstOf 52 rfl) ?_
              have e1 : ¬ saS D cs S n = 0 := (fun e => hc23 (i32_ext (e20.trans (by rw [e]; decide))))
              have e9 : fiS (saS D cs S) (hoS D S) mo (n + 1) = fiS (saS D cs S) (hoS D S) mo n := fi_f (by rintro ⟨-, -, h1 | h1⟩; exact hne h1; have h2 := lc_gt.mp hc78; omega)
              rw [nI_succ1]
              exact ih (D.1 - (n + 1)) (by omega) (n + 1) M64 _ ⟨h64, z64⟩ (by omega) rfl (by rw [e9]; exact (by rw [← ewb]; exact hw)) hq
            · refine pv_iload (pc := 81) (i := 4) rfl (fm_dec dtX11_firstOf 49 rfl) ?_
              refine pv_istoren (pc := 83) (n := 3) 3 rfl (by decide) rfl (fm_dec dtX11_firstOf 50 rfl) ?_
              dsimp only [List.set_cons_zero, List.set_cons_succ]
              refine pv_iincc (pc := 84) 4 1 (by decide) rfl (by decide) rfl (fm_dec dtX11_firstOf 51 rfl) ?_
              dsimp only [List.set_cons_zero, List.set_cons_succ]
              refine pv_goto (pc := 87) 5 (by decide) (fm_dec dtX11_firstOf 52 rfl) ?_
              have e1 : ¬ saS D cs S n = 0 := (fun e => hc23 (i32_ext (e20.trans (by rw [e]; decide))))
              have e9 : fiS (saS D cs S) (hoS D S) mo (n + 1) = (n : Int) := fi_t ⟨by rw [sc_le] at hc34; omega, by omega, Or.inr (by have h2 : ¬ (r49.toInt64 * (hrV M49 (fiS (saS D cs S) (hoS D S) mo n).toNat).toInt64).toInt ≤ (r64.toInt64 * (hrV M64 n).toInt64).toInt := (fun e => hc78 (lc_gt.mpr e)); omega)⟩
              rw [nI_succ1]
              exact ih (D.1 - (n + 1)) (by omega) (n + 1) M64 _ ⟨h64, z64⟩ (by omega) rfl (by rw [e9]; exact hn9) hq
        · refine pv_goto (pc := 37) 84 (by decide) (fm_dec dtX11_firstOf 21 rfl) ?_
          refine pv_iincc (pc := 84) 4 1 (by decide) rfl (by decide) rfl (fm_dec dtX11_firstOf 51 rfl) ?_
          dsimp only [List.set_cons_zero, List.set_cons_succ]
          refine pv_goto (pc := 87) 5 (by decide) (fm_dec dtX11_firstOf 52 rfl) ?_
          have e9 : fiS (saS D cs S) (hoS D S) mo (n + 1) = fiS (saS D cs S) (hoS D S) mo n := fi_f (by rintro ⟨h1, -⟩; rw [sc_le] at hc34; omega)
          rw [nI_succ1]
          exact ih (D.1 - (n + 1)) (by omega) (n + 1) M20 _ ⟨h20, z20⟩ (by omega) rfl (by rw [e9]; exact hw) hq
set_option maxRecDepth 20000 in
theorem c_mfo {M : fmM} {Q : fmR → fmM → Prop} {D : dD} {cs : tC} {S : aS} {hm : Int32} {mo : Nat} (h : mAq M D cs S ∧ M.1 0 0 = 0) (hm9 : hm.toInt = (mo : Int)) (hq : ∀ (r : Int32) (M' : fmM), M'.1 0 0 = 0 → r.toInt = fiS (saS D cs S) (hoS D S) mo D.1 → Q (.inl (some (.int r))) M') : pvGood Tm 21 qX11_firstOf [.ref 0, .ref 7, .int hm] M Q := by
  refine pvGood_of (Nat.le_of_ble_eq_true rfl) ?_
  show pvEv Tm 21 qX11_firstOf 0 [some (.ref 0), some (.ref 7), some (.int hm), none, none] [] M Q
  refine pv_iconst (pc := 0) (v := (-1)) (by decide) (fm_dec dtX11_firstOf 0 rfl) ?_
  refine pv_istoren (pc := 1) (n := 3) 3 rfl (by decide) rfl (fm_dec dtX11_firstOf 1 rfl) ?_
  dsimp only [List.set_cons_zero, List.set_cons_succ]
  refine pv_iconst (pc := 2) (v := 0) (by decide) (fm_dec dtX11_firstOf 2 rfl) ?_
  refine pv_istore (pc := 3) (i := 4) (by decide) rfl (fm_dec dtX11_firstOf 3 rfl) ?_
  dsimp only [List.set_cons_zero, List.set_cons_succ]
  exact (mfi_loop hm9 D.1 0 M _ h (Nat.zero_le _) rfl (by show (-1 : Int32).toInt = (-1 : Int); decide) hq).up (by decide)
-- YEARS BY SEEDS, as they should be
def lcS (s : Int32) : Int32 := s * 1103515245 + 12345
/-- what is drawn of a seed -/
def drS (s : Int32) : Nat := s.toBitVec.toNat / 65536 % 64
/-- deaths of the first n lives, by seeds -/
def ydS (D : dD) (cs : tC) : Nat → aS × Int32 → aS × Int32
  | 0, p => p
  | n + 1, p => if (ydS D cs n p).1.1.2.2.1.testBit n = true then ydS D cs n p else if (drS (lcS (ydS D cs n p).2) : Int) < D.2.1 n 1 then ((diS D cs (ydS D cs n p).1 n).getD (ydS D cs n p).1, lcS (ydS D cs n p).2) else ((ydS D cs n p).1, lcS (ydS D cs n p).2)
theorem yd_d {D : dD} {cs : tC} {n : Nat} {p : aS × Int32} (h : (ydS D cs n p).1.1.2.2.1.testBit n = true) : ydS D cs (n + 1) p = ydS D cs n p := if_pos h
theorem yd_x {D : dD} {cs : tC} {n : Nat} {p : aS × Int32} {S' : aS} (h : (ydS D cs n p).1.1.2.2.1.testBit n = false) (h2 : (drS (lcS (ydS D cs n p).2) : Int) < D.2.1 n 1) (h3 : diS D cs (ydS D cs n p).1 n = some S') : ydS D cs (n + 1) p = (S', lcS (ydS D cs n p).2) := by
  show (if _ then _ else _) = _
  rw [if_neg (by rw [h]; decide), if_pos h2, h3]
  rfl
theorem yd_n {D : dD} {cs : tC} {n : Nat} {p : aS × Int32} (h : (ydS D cs n p).1.1.2.2.1.testBit n = false) (h2 : ¬ (drS (lcS (ydS D cs n p).2) : Int) < D.2.1 n 1) : ydS D cs (n + 1) p = ((ydS D cs n p).1, lcS (ydS D cs n p).2) := by
  show (if _ then _ else _) = _
  rw [if_neg (by rw [h]; decide), if_neg h2]
/-- who is first, of those whose hours are there -/
def yfS (D : dD) (cs : tC) (S : aS) : Int := fiS (saS D cs S) (hoS D S) S.1.2.1 D.1
/-- the firsts are put, f at most -/
def ypS (D : dD) (cs : tC) : Nat → aS × Nat → aS × Nat
  | 0, p => p
  | f + 1, p => if yfS D cs p.1 = -1 then p else ypS D cs f ((puS D p.1 (yfS D cs p.1).toNat).getD p.1, p.2 + 1)
theorem yp_0 {D : dD} {cs : tC} {f : Nat} {p : aS × Nat} (h : yfS D cs p.1 = -1) : ypS D cs (f + 1) p = p := if_pos h
theorem yp_1 {D : dD} {cs : tC} {f : Nat} {p : aS × Nat} {S' : aS} (h : ¬ yfS D cs p.1 = -1) (h2 : puS D p.1 (yfS D cs p.1).toNat = some S') : ypS D cs (f + 1) p = ypS D cs f (S', p.2 + 1) := by
  show (if _ then _ else _) = _
  rw [if_neg h, h2]
  rfl
/-- a week -/
def yeS (D : dD) (cs : tC) (p : aS × Int32 × Nat) : aS × Int32 × Nat := ((weS D (ypS D cs D.1 ((ydS D cs D.1 (p.1, p.2.1)).1, p.2.2)).1).getD (ypS D cs D.1 ((ydS D cs D.1 (p.1, p.2.1)).1, p.2.2)).1, (ydS D cs D.1 (p.1, p.2.1)).2, (ypS D cs D.1 ((ydS D cs D.1 (p.1, p.2.1)).1, p.2.2)).2)
def yrS (D : dD) (cs : tC) : Nat → aS × Int32 × Nat → aS × Int32 × Nat
  | 0, p => p
  | w + 1, p => yeS D cs (yrS D cs w p)
theorem fi_h {sv : Nat → Int} {hr : Nat → Nat} {most : Nat} : ∀ n, fiS sv hr most n ≠ -1 → hr (fiS sv hr most n).toNat ≤ most := by
  intro n
  induction n with
  | zero => intro h; exact absurd rfl h
  | succ n ih =>
    by_cases h : hr n ≤ most ∧ 0 < sv n ∧ (fiS sv hr most n = -1 ∨ sv (fiS sv hr most n).toNat * hr n < sv n * hr (fiS sv hr most n).toNat)
    · rw [fi_t h, Int.toNat_natCast]
      exact fun _ => h.1
    · rw [fi_f h]
      exact ih
/-- no one who saves anything and whose hours are there: no first -/
theorem fi_z {sv : Nat → Int} {hr : Nat → Nat} {most : Nat} : ∀ n, (∀ j, j < n → ¬ 0 < sv j) → fiS sv hr most n = -1 := by
  intro n
  induction n with
  | zero => intro _; rfl
  | succ n ih =>
    intro h
    rw [fi_f (fun h9 => h n (Nat.lt_succ_self n) h9.2.1)]
    exact ih (fun j hj => h j (by omega))
theorem yf_b {D : dD} {cs : tC} {S : aS} (h : ¬ yfS D cs S = -1) : ∃ i : Nat, yfS D cs S = (i : Int) ∧ i < D.1 ∧ 0 < saS D cs S i ∧ hoS D S i ≤ S.1.2.1 := by
  have h1 := fi_b (sv := saS D cs S) (hr := hoS D S) (most := S.1.2.1) D.1
  have h2 := fi_h (sv := saS D cs S) (hr := hoS D S) (most := S.1.2.1) D.1 h
  have h3 := h1.2.2 h
  have h4 : yfS D cs S = fiS (saS D cs S) (hoS D S) S.1.2.1 D.1 := rfl
  rw [← h4] at h1 h2 h3
  exact ⟨(yfS D cs S).toNat, by omega, by omega, h3, h2⟩
/-- who saves anything can be put -/
theorem sa_p {D : dD} {cs : tC} {S : aS} {i : Nat} (h : 0 < saS D cs S i) (hh : hoS D S i ≤ S.1.2.1) : ∃ S', puS D S i = some S' := by
  have h1 : ¬ (S.1.2.2.1.testBit i = true ∨ S.2 i = 0) := fun e => by
    rw [sa_0 e] at h
    omega
  refine ⟨_, if_neg (?_ : ¬ (S.1.2.2.1.testBit i = true ∨ S.2 i = 0 ∨ S.1.2.1 < hoS D S i))⟩
  rintro (e | e | e)
  · exact h1 (Or.inl e)
  · exact h1 (Or.inr e)
  · omega
theorem pu_e {D : dD} {S S' : aS} {i : Nat} (h : puS D S i = some S') : S' = ((S.1.1, S.1.2.1 - hoS D S i, S.1.2.2), fun j => if j = i then 0 else S.2 j) := by
  unfold puS at h
  split at h
  · cases h
  · exact (Option.some.inj h).symm
theorem sa_pu {D : dD} {cs : tC} {S S' : aS} {i j : Nat} (h : puS D S i = some S') : saS D cs S' j = if j = i then 0 else saS D cs S j := by
  rw [pu_e h]
  by_cases e : j = i
  · subst e
    rw [if_pos rfl]
    exact sa_0 (Or.inr (if_pos rfl))
  · rw [if_neg e]
    unfold saS coS
    simp only [if_neg e]
/-- of the first n lives, how many save anything -/
def cnS (D : dD) (cs : tC) (S : aS) : Nat → Nat
  | 0 => 0
  | n + 1 => cnS D cs S n + if 0 < saS D cs S n then 1 else 0
theorem cn_le {D : dD} {cs : tC} {S : aS} : ∀ n, cnS D cs S n ≤ n := by
  intro n
  induction n with
  | zero => exact Nat.le_refl _
  | succ n ih =>
    show cnS D cs S n + (if 0 < saS D cs S n then 1 else 0) ≤ n + 1
    split <;> omega
theorem cn_z {D : dD} {cs : tC} {S : aS} : ∀ n, cnS D cs S n = 0 → ∀ j, j < n → ¬ 0 < saS D cs S j := by
  intro n
  induction n with
  | zero => intro _ j hj; exact absurd hj (Nat.not_lt_zero j)
  | succ n ih =>
    intro h j hj
    have h : cnS D cs S n + (if 0 < saS D cs S n then 1 else 0) = 0 := h
    by_cases e : 0 < saS D cs S n
    · rw [if_pos e] at h
      omega
    · by_cases e2 : j = n
      · rw [e2]
        exact e
      · rw [if_neg e] at h
        exact ih (by omega) j (by omega)
theorem cn_pu {D : dD} {cs : tC} {S S' : aS} {i : Nat} (h : puS D S i = some S') (h0 : 0 < saS D cs S i) : ∀ n, cnS D cs S n = cnS D cs S' n + if i < n then 1 else 0 := by
  intro n
  induction n with
  | zero => rw [if_neg (Nat.not_lt_zero i)]; rfl
  | succ n ih =>
    show cnS D cs S n + (if 0 < saS D cs S n then 1 else 0) = cnS D cs S' n + (if 0 < saS D cs S' n then 1 else 0) + _
    rw [ih, sa_pu (cs := cs) (j := n) h]
    by_cases e : n = i
    · subst e
      rw [if_neg (Nat.lt_irrefl n), if_pos h0, if_pos rfl, if_neg (Int.lt_irrefl 0), if_pos (Nat.lt_succ_self n)]
    · rw [if_neg e]
      by_cases e2 : i < n
      · rw [if_pos e2, if_pos (show i < n + 1 by omega)]
        omega
      · rw [if_neg e2, if_neg (show ¬ i < n + 1 by omega)]
        omega
/-- counters of its own -/
def aC (o : Nat × Nat × Int) (S : aS) : aS := ((S.1.1, S.1.2.1, S.1.2.2.1, S.1.2.2.2.1 + o.1, S.1.2.2.2.2.1 + o.2.1, S.1.2.2.2.2.2 + o.2.2), S.2)
theorem aC_di {D : dD} {cs : tC} {o : Nat × Nat × Int} {S : aS} {i : Nat} : diS D cs (aC o S) i = (diS D cs S i).map (aC o) := by
  have e1 : coS D cs (aC o S) i = coS D cs S i := rfl
  unfold diS
  rw [e1]
  show (if S.1.2.2.1.testBit i = true then none else if S.2 i = -1 then some ((S.1.1, S.1.2.1 - 2, S.1.2.2.1 ||| 1 <<< i, S.1.2.2.2.1 + o.1 + 1, S.1.2.2.2.2.1 + o.2.1, S.1.2.2.2.2.2 + o.2.2 + coS D cs S i), S.2) else some ((S.1.1, S.1.2.1, S.1.2.2.1 ||| 1 <<< i, S.1.2.2.2.1 + o.1, S.1.2.2.2.2.1 + o.2.1 + 1, S.1.2.2.2.2.2 + o.2.2 + coS D cs S i), fun j => if j = i then -1 else S.2 j)) = _
  by_cases h : S.1.2.2.1.testBit i = true
  · rw [if_pos h, if_pos h]
    rfl
  · rw [if_neg h, if_neg h]
    by_cases h2 : S.2 i = -1
    · rw [if_pos h2, if_pos h2]
      show some _ = some _
      unfold aC
      rw [show S.1.2.2.2.1 + o.1 + 1 = S.1.2.2.2.1 + 1 + o.1 by omega, show S.1.2.2.2.2.2 + o.2.2 + coS D cs S i = S.1.2.2.2.2.2 + coS D cs S i + o.2.2 by omega]
    · rw [if_neg h2, if_neg h2]
      show some _ = some _
      unfold aC
      rw [show S.1.2.2.2.2.1 + o.2.1 + 1 = S.1.2.2.2.2.1 + 1 + o.2.1 by omega, show S.1.2.2.2.2.2 + o.2.2 + coS D cs S i = S.1.2.2.2.2.2 + coS D cs S i + o.2.2 by omega]
theorem aC_pu {D : dD} {o : Nat × Nat × Int} {S : aS} {i : Nat} : puS D (aC o S) i = (puS D S i).map (aC o) := by
  have e1 : hoS D (aC o S) i = hoS D S i := rfl
  unfold puS
  rw [e1]
  show (if S.1.2.2.1.testBit i = true ∨ S.2 i = 0 ∨ S.1.2.1 < hoS D S i then none else _) = _
  by_cases h : S.1.2.2.1.testBit i = true ∨ S.2 i = 0 ∨ S.1.2.1 < hoS D S i
  · rw [if_pos h, if_pos h]
    rfl
  · rw [if_neg h, if_neg h]
    rfl
theorem aC_we {D : dD} {o : Nat × Nat × Int} {S : aS} : weS D (aC o S) = (weS D S).map (aC o) := by
  unfold weS
  show (if S.1.1 = 200 then none else _) = _
  by_cases h : S.1.1 = 200
  · rw [if_pos h, if_pos h]
    rfl
  · rw [if_neg h, if_neg h]
    rfl
theorem gd_m {o : Nat × Nat × Int} {S : aS} {p : Option aS} : (p.map (aC o)).getD (aC o S) = aC o (p.getD S) := by
  cases p <;> rfl
theorem aC_yd {D : dD} {cs : tC} {o : Nat × Nat × Int} {S : aS} {s : Int32} : ∀ n, ydS D cs n (aC o S, s) = (aC o (ydS D cs n (S, s)).1, (ydS D cs n (S, s)).2) := by
  intro n
  induction n with
  | zero => rfl
  | succ n ih =>
    show (if (ydS D cs n (aC o S, s)).1.1.2.2.1.testBit n = true then ydS D cs n (aC o S, s) else if (drS (lcS (ydS D cs n (aC o S, s)).2) : Int) < D.2.1 n 1 then ((diS D cs (ydS D cs n (aC o S, s)).1 n).getD (ydS D cs n (aC o S, s)).1, lcS (ydS D cs n (aC o S, s)).2) else ((ydS D cs n (aC o S, s)).1, lcS (ydS D cs n (aC o S, s)).2)) = _
    rw [ih]
    show (if (ydS D cs n (S, s)).1.1.2.2.1.testBit n = true then _ else if (drS (lcS (ydS D cs n (S, s)).2) : Int) < D.2.1 n 1 then ((diS D cs (aC o (ydS D cs n (S, s)).1) n).getD (aC o (ydS D cs n (S, s)).1), lcS (ydS D cs n (S, s)).2) else (aC o (ydS D cs n (S, s)).1, lcS (ydS D cs n (S, s)).2)) = _
    rw [aC_di, gd_m]
    by_cases h : (ydS D cs n (S, s)).1.1.2.2.1.testBit n = true
    · rw [if_pos h, yd_d h]
    · rw [if_neg h]
      have hf : (ydS D cs n (S, s)).1.1.2.2.1.testBit n = false := by simpa using h
      by_cases h2 : (drS (lcS (ydS D cs n (S, s)).2) : Int) < D.2.1 n 1
      · rw [if_pos h2]
        have e9 : ydS D cs (n + 1) (S, s) = ((diS D cs (ydS D cs n (S, s)).1 n).getD (ydS D cs n (S, s)).1, lcS (ydS D cs n (S, s)).2) := by
          show (if _ then _ else _) = _
          rw [if_neg h, if_pos h2]
        rw [e9]
      · rw [if_neg h2, yd_n hf h2]
theorem aC_yp {D : dD} {cs : tC} {o : Nat × Nat × Int} : ∀ (f : Nat) (S : aS) (w : Nat), ypS D cs f (aC o S, w) = (aC o (ypS D cs f (S, w)).1, (ypS D cs f (S, w)).2) := by
  intro f
  induction f with
  | zero => intro S w; rfl
  | succ f ih =>
    intro S w
    have e0 : yfS D cs (aC o S) = yfS D cs S := rfl
    show (if yfS D cs (aC o S) = -1 then (aC o S, w) else ypS D cs f ((puS D (aC o S) (yfS D cs (aC o S)).toNat).getD (aC o S), w + 1)) = _
    rw [e0, aC_pu, gd_m, ih]
    by_cases h : yfS D cs S = -1
    · rw [if_pos h, yp_0 h]
    · rw [if_neg h]
      have e9 : ypS D cs (f + 1) (S, w) = ypS D cs f ((puS D S (yfS D cs S).toNat).getD S, w + 1) := by
        show (if _ then _ else _) = _
        rw [if_neg h]
      rw [e9]
theorem aC_ye {D : dD} {cs : tC} {o : Nat × Nat × Int} {p : aS × Int32 × Nat} : yeS D cs (aC o p.1, p.2) = (aC o (yeS D cs p).1, (yeS D cs p).2) := by
  unfold yeS
  show ((weS D (ypS D cs D.1 ((ydS D cs D.1 (aC o p.1, p.2.1)).1, p.2.2)).1).getD (ypS D cs D.1 ((ydS D cs D.1 (aC o p.1, p.2.1)).1, p.2.2)).1, (ydS D cs D.1 (aC o p.1, p.2.1)).2, (ypS D cs D.1 ((ydS D cs D.1 (aC o p.1, p.2.1)).1, p.2.2)).2) = _
  rw [aC_yd]
  show ((weS D (ypS D cs D.1 (aC o (ydS D cs D.1 (p.1, p.2.1)).1, p.2.2)).1).getD (ypS D cs D.1 (aC o (ydS D cs D.1 (p.1, p.2.1)).1, p.2.2)).1, (ydS D cs D.1 (p.1, p.2.1)).2, (ypS D cs D.1 (aC o (ydS D cs D.1 (p.1, p.2.1)).1, p.2.2)).2) = _
  rw [aC_yp]
  show ((weS D (aC o (ypS D cs D.1 ((ydS D cs D.1 (p.1, p.2.1)).1, p.2.2)).1)).getD (aC o (ypS D cs D.1 ((ydS D cs D.1 (p.1, p.2.1)).1, p.2.2)).1), _, _) = _
  rw [aC_we, gd_m]
theorem aC_yr {D : dD} {cs : tC} {o : Nat × Nat × Int} {S : aS} {s : Int32} : ∀ w, yrS D cs w (aC o S, s, 0) = (aC o (yrS D cs w (S, s, 0)).1, (yrS D cs w (S, s, 0)).2) := by
  intro w
  induction w with
  | zero => rfl
  | succ w ih =>
    show yeS D cs (yrS D cs w (aC o S, s, 0)) = _
    rw [ih]
    exact aC_ye (p := yrS D cs w (S, s, 0))
/-- the same state, nothing counted yet -/
def zC (S : aS) : aS := ((S.1.1, S.1.2.1, S.1.2.2.1, 0, 0, 0), S.2)
theorem zC_a {S : aS} : aC (S.1.2.2.2.1, S.1.2.2.2.2.1, S.1.2.2.2.2.2) (zC S) = S := by
  show ((S.1.1, S.1.2.1, S.1.2.2.1, 0 + S.1.2.2.2.1, 0 + S.1.2.2.2.2.1, 0 + S.1.2.2.2.2.2), S.2) = S
  rw [Nat.zero_add, Nat.zero_add, Int.zero_add]
theorem and63c (x : Int32) : (x &&& 63).toInt = x.toInt % 64 := by
  have e : (x &&& 63).toBitVec.toNat = x.toBitVec.toNat % 64 := by
    rw [Int32.toBitVec_and, BitVec.toNat_and]
    exact Nat.and_two_pow_sub_one_eq_mod _ 6
  have e3 : (x &&& 63).toInt = ((x &&& 63).toBitVec.toNat : Int) := by
    show (x &&& 63).toBitVec.toInt = _
    rw [BitVec.toInt_eq_toNat_of_lt (by omega)]
  have e4 : x.toInt = if 2 * x.toBitVec.toNat < 2 ^ 32 then (x.toBitVec.toNat : Int) else (x.toBitVec.toNat : Int) - ((2 ^ 32 : Nat) : Int) := by
    show x.toBitVec.toInt = _
    rw [BitVec.toInt_eq_toNat_cond]
  rw [e3, e, e4]
  split <;> omega
theorem sar16c (x : Int32) : (x >>> ((16 : Int32) &&& 31)).toInt = x.toInt / 65536 := by
  show (BitVec.sshiftRight' x.toBitVec (BitVec.smod ((16 : Int32) &&& 31).toBitVec 32#32)).toInt = _
  rw [show BitVec.smod ((16 : Int32) &&& 31).toBitVec 32#32 = 16#32 by decide]
  show (BitVec.sshiftRight x.toBitVec 16).toInt = _
  rw [BitVec.toInt_sshiftRight, Int.shiftRight_eq_div_pow]
  rfl
/-- what is drawn: the other side -/
theorem dr_m (s : Int32) : ((s >>> ((16 : Int32) &&& 31)) &&& 63).toInt = ((drS s : Nat) : Int) := by
  have e4 : s.toInt = if 2 * s.toBitVec.toNat < 2 ^ 32 then (s.toBitVec.toNat : Int) else (s.toBitVec.toNat : Int) - ((2 ^ 32 : Nat) : Int) := by
    show s.toBitVec.toInt = _
    rw [BitVec.toInt_eq_toNat_cond]
  rw [and63c, sar16c, e4]
  unfold drS
  split <;> omega
theorem dr_w (s : Int32) : ((s.toUInt32 >>> ((16 : Int32).toUInt32 &&& Int32.toUInt32 31)).toInt32).toBitVec.toNat = s.toBitVec.toNat / 65536 := by
  rw [show ((16 : Int32).toUInt32 &&& Int32.toUInt32 31) = (16 : UInt32) by decide]
  show (s.toUInt32 >>> (16 : UInt32)).toNat = _
  rw [UInt32.toNat_shiftRight, show (16 : UInt32).toNat % 32 = 16 by decide, Nat.shiftRight_eq_div_pow]
  rfl
theorem dr_k {x : Int32} {u : Nat} (h : x.toBitVec.toNat = u) : (x &&& 32767).toInt = ((u % 32768 : Nat) : Int) := by
  have e : (x &&& 32767).toBitVec.toNat = u % 32768 := by
    rw [Int32.toBitVec_and, BitVec.toNat_and, h]
    exact Nat.and_two_pow_sub_one_eq_mod _ 15
  show (x &&& 32767).toBitVec.toInt = _
  rw [BitVec.toInt_eq_toNat_of_lt (by omega), e]
theorem dr_r {x : Int32} {v : Nat} (hx : x.toInt = (v : Int)) (hv : v < 32768) : (x - x / 64 * 64).toInt = ((v % 64 : Nat) : Int) := by
  have hz : (64 : Int32).toInt = ((64 : Nat) : Int) := by decide
  have e1 : (x / 64).toInt = ((v / 64 : Nat) : Int) := by
    rw [Int32.toInt_div, hx, hz, ← Int.ofNat_tdiv]
    exact Int.bmod_eq_of_le (by omega) (by omega)
  have e2 : (x / 64 * 64).toInt = ((v / 64 * 64 : Nat) : Int) := by
    rw [sc_mul (by rw [e1, hz]; omega) (by rw [e1, hz]; omega), e1, hz]
    omega
  rw [sc_sub (by rw [hx, e2]; omega) (by rw [hx, e2]; omega), hx, e2]
  omega
/-- and the first -/
theorem dr_x (s : Int32) : ((((s.toUInt32 >>> ((16 : Int32).toUInt32 &&& Int32.toUInt32 31)).toInt32) &&& 32767) - (((s.toUInt32 >>> ((16 : Int32).toUInt32 &&& Int32.toUInt32 31)).toInt32) &&& 32767) / 64 * 64).toInt = ((drS s : Nat) : Int) := by
  rw [dr_r (dr_k (dr_w s)) (by omega)]
  unfold drS
  omega
/-- how many are put at most -/
theorem yp_w {D : dD} {cs : tC} : ∀ (f : Nat) (S : aS) (w : Nat), (ypS D cs f (S, w)).2 ≤ w + f := by
  intro f
  induction f with
  | zero => intro S w; exact Nat.le_refl _
  | succ f ih =>
    intro S w
    by_cases h : yfS D cs S = -1
    · rw [yp_0 h]
      omega
    · have e9 : ypS D cs (f + 1) (S, w) = ypS D cs f ((puS D S (yfS D cs S).toNat).getD S, w + 1) := by
        show (if _ then _ else _) = _
        rw [if_neg h]
      rw [e9]
      have := ih ((puS D S (yfS D cs S).toNat).getD S) (w + 1)
      omega
theorem yr_w {D : dD} {cs : tC} {S : aS} {s : Int32} (hD : D.1 ≤ 8) : ∀ w, (yrS D cs w (S, s, 0)).2.2 ≤ 8 * w := by
  intro w
  induction w with
  | zero => exact Nat.le_refl _
  | succ w ih =>
    have h1 := yp_w (D := D) (cs := cs) D.1 (ydS D cs D.1 ((yrS D cs w (S, s, 0)).1, (yrS D cs w (S, s, 0)).2.1)).1 (yrS D cs w (S, s, 0)).2.2
    show (ypS D cs D.1 ((ydS D cs D.1 ((yrS D cs w (S, s, 0)).1, (yrS D cs w (S, s, 0)).2.1)).1, (yrS D cs w (S, s, 0)).2.2)).2 ≤ _
    omega
theorem di_no {D : dD} {cs : tC} {S : aS} {i : Nat} (h : diS D cs S i = none) : S.1.2.2.1.testBit i = true := by
  unfold diS at h
  split at h
  · assumption
  · split at h <;> cases h
/-- the first side's own copy: what is lost in it is counted from nothing -/
def stOT (D : dD) (S : aS) : Prop := S.1.1 ≤ 200 ∧ S.1.2.1 ≤ 12 ∧ S.1.2.2.1 < 256 ∧ S.1.2.2.2.1 + S.1.2.2.2.2.1 ≤ pop8 S.1.2.2.1 ∧ 0 ≤ S.1.2.2.2.2.2 ∧ S.1.2.2.2.2.2 ≤ 57024 * (pop8 S.1.2.2.1 : Int) ∧ (∀ i, i < D.1 → -1 ≤ S.2 i ∧ S.2 i ≤ (S.1.1 : Int) + 40) ∧ S.1.2.2.1 < 2 ^ D.1
/-- a state as it stands here -/
def xstT (M : fmM) (D : dD) (S : aS) : Prop := (M.1 41 1).toInt = (S.1.2.2.1 : Int) ∧ (M.1 41 2).toInt = (S.1.1 : Int) ∧ (M.1 41 3).toInt = (S.1.2.1 : Int) ∧ (M.1 41 4).toInt = (S.1.2.2.2.1 : Int) ∧ (M.1 41 5).toInt = (S.1.2.2.2.2.1 : Int) ∧ (M.2 41 6).toInt = S.1.2.2.2.2.2 ∧ ∀ i, i < D.1 → (M.1 42 i).toInt = S.2 i
theorem xstT.of {M M' : fmM} {D : dD} {S : aS} (h : xstT M D S) (hk : ∀ k j, k = 41 ∨ k = 42 → M'.1 k j = M.1 k j) (h2 : M'.2 41 6 = M.2 41 6) : xstT M' D S := by
  obtain ⟨a, b, c, d, e, f, g⟩ := h
  exact ⟨by rw [hk _ _ (Or.inl rfl)]; exact a, by rw [hk _ _ (Or.inl rfl)]; exact b, by rw [hk _ _ (Or.inl rfl)]; exact c, by rw [hk _ _ (Or.inl rfl)]; exact d, by rw [hk _ _ (Or.inl rfl)]; exact e, by rw [h2]; exact f, fun i hi => by rw [hk _ _ (Or.inr rfl)]; exact g i hi⟩
theorem xstT.low {M M' : fmM} {D : dD} {S : aS} (h : xstT M D S) (hk : ∀ k j, k ≠ 26 → M'.1 k j = M.1 k j) (h2 : M'.2 = M.2) : xstT M' D S := h.of (fun k j a => hk k j (by omega)) (by rw [h2])
set_option maxRecDepth 20000 in
theorem c_xalivT {M : fmM} {Q : fmR → fmM → Prop} {D : dD} {S : aS} {i : Nat} (hs : xstT M D S) (ho : stOT D S) (hi8 : i < 8) (hq : Q (.inl (some (.int (bI (!S.1.2.2.1.testBit i))))) M) : pvGood Tx 0 qX6_isAlive [.ref 41, .int (nI i)] M Q := by
  refine pvGood_of (Nat.le_of_ble_eq_true rfl) ?_
  show pvEv Tx 0 qX6_isAlive 0 [some (.ref 41), some (.int (nI i))] [] M Q
  have e1 : M.1 41 1 = nI S.1.2.2.1 := nI_is hs.1 (by have := ho.2.2.1; omega)
  have eb := has8b S.1.2.2.1 ho.2.2.1 i hi8
  rw [← e1] at eb
  refine pv_aloadn (pc := 0) (n := 0) 0 rfl rfl (fm_dec dtX6_isAlive 0 rfl) ?_
  refine pv_getI (k := 41) (j := 1) (ci := 6) (pc := 1) pfl_X6_26 (by decide) rfl (by decide) (fm_dec dtX6_isAlive 1 rfl) ?_
  refine pv_iloadn (pc := 4) (n := 1) 1 rfl rfl (fm_dec dtX6_isAlive 2 rfl) ?_
  refine pv_ishr (pc := 5) (fm_dec dtX6_isAlive 3 rfl) ?_
  refine pv_iconst (pc := 6) (v := 1) (by decide) (fm_dec dtX6_isAlive 4 rfl) ?_
  refine pv_iand (pc := 7) (fm_dec dtX6_isAlive 5 rfl) ?_
  refine pv_if_ne (pc := 8) 15 (by decide) (fm_dec dtX6_isAlive 6 rfl) (fun hc8 => ?_) (fun hc8 => ?_)
  · refine pv_iconst (pc := 15) (v := 0) (by decide) (fm_dec dtX6_isAlive 9 rfl) ?_
    exact pv_zreturn (pc := 16) rfl (by first | exact Or.inr rfl | exact Or.inl rfl) (fm_dec dtX6_isAlive 10 rfl) (by have h9 := hq; cases ht : S.1.2.2.1.testBit i with | true => (rw [ht] at eb h9; first | exact h9 | exact absurd hc8 (by rw [eb]; decide) | exact absurd (show (M.1 41 1 >>> (nI i &&& 31) &&& 1) = 0 from hc8) (by rw [eb]; decide)) | false => (rw [ht] at eb h9; first | exact h9 | exact absurd hc8 (by rw [eb]; decide) | exact absurd eb hc8))
  · refine pv_iconst (pc := 11) (v := 1) (by decide) (fm_dec dtX6_isAlive 7 rfl) ?_
    refine pv_goto (pc := 12) 16 (by decide) (fm_dec dtX6_isAlive 8 rfl) ?_
    exact pv_zreturn (pc := 16) rfl (by first | exact Or.inr rfl | exact Or.inl rfl) (fm_dec dtX6_isAlive 10 rfl) (by have h9 := hq; cases ht : S.1.2.2.1.testBit i with | true => (rw [ht] at eb h9; first | exact h9 | exact absurd hc8 (by rw [eb]; decide) | exact absurd (show (M.1 41 1 >>> (nI i &&& 31) &&& 1) = 0 from hc8) (by rw [eb]; decide)) | false => (rw [ht] at eb h9; first | exact h9 | exact absurd hc8 (by rw [eb]; decide) | exact absurd eb hc8))
set_option maxRecDepth 20000 in
theorem c_xhoursT {M : fmM} {Q : fmR → fmM → Prop} {D : dD} {S : aS} {i : Nat} (hD : dOk D) (hX : xdw 3 M D) (hs : xstT M D S) (hi : i < D.1) (hq : ∀ r : Int32, r.toInt = ((hoS D S i : Nat) : Int) → Q (.inl (some (.int r))) M) : pvGood Tx 2 qX0_hoursFor [.ref 32, .ref 41, .int (nI i)] M Q := by
  refine pvGood_of (Nat.le_of_ble_eq_true rfl) ?_
  show pvEv Tx 2 qX0_hoursFor 0 [some (.ref 32), some (.ref 41), some (.int (nI i))] [] M Q
  have d8 := hD.1
  have hi9 : (nI i).toInt = (i : Int) := nI_toInt (by omega)
  have g48 := hs.2.2.2.2.2.2 i hi
  have zm : (-1 : Int32).toInt = -1 := (by decide)
  have b3 := (hD.2.2.1 i hi).2.2.2.1
  have g3 : (M.1 7 i).toInt = D.2.1 i 3 := hX.2.1 i hi 3 (by decide)
  refine pv_aloadn (pc := 0) (n := 1) 1 rfl rfl (fm_dec dtX0_hoursFor 0 rfl) ?_
  refine pv_getR (k := 41) (j := 0) (ci := 6) (pc := 1) 42 rfl (by decide) pfl_X0_78 (by decide) rfl (by decide) (fm_dec dtX0_hoursFor 1 rfl) ?_
  refine pv_iloadn (pc := 4) (n := 2) 2 rfl rfl (fm_dec dtX0_hoursFor 2 rfl) ?_
  refine pv_iald (k := 42) (n := 8) (pc := 5) (by decide) rfl rfl (ix_in hi9 (by omega)) (fm_dec dtX0_hoursFor 3 rfl) ?_
  rw [i32_cl hi9]
  refine pv_iconst (pc := 6) (v := (-1)) (by decide) (fm_dec dtX0_hoursFor 4 rfl) ?_
  refine pv_icmp_ne (pc := 7) 22 (by decide) (fm_dec dtX0_hoursFor 5 rfl) (fun hc7 => ?_) (fun hc7 => ?_)
  · refine pv_aloadn (pc := 22) (n := 0) 0 rfl rfl (fm_dec dtX0_hoursFor 12 rfl) ?_
    refine pv_getR (k := 32) (j := 0) (ci := 0) (pc := 23) 3 rfl (by decide) pfl_X0_15 (by decide) rfl (by decide) (fm_dec dtX0_hoursFor 13 rfl) ?_
    refine pv_iloadn (pc := 26) (n := 2) 2 rfl rfl (fm_dec dtX0_hoursFor 14 rfl) ?_
    refine pv_invV1 (k := 3) (d' := 1) (pc := 27) pcv_X0_91 (by decide) rfl (Nat.le_of_ble_eq_true rfl) (by decide) (fm_dec dtX0_hoursFor 15 rfl) ?_
    refine c_xrenew hD hX hi (fun r27 h27 => ?_)
    refine pv_then1 ?_
    exact pv_ireturn (pc := 30) rfl (fm_dec dtX0_hoursFor 16 rfl) (hq r27 (by unfold hoS; rw [if_neg (by intro h9; apply hc7; exact i32_ext (by omega))]; exact h27))
  · refine pv_aloadn (pc := 10) (n := 0) 0 rfl rfl (fm_dec dtX0_hoursFor 6 rfl) ?_
    refine pv_getR (k := 32) (j := 0) (ci := 0) (pc := 11) 3 rfl (by decide) pfl_X0_15 (by decide) rfl (by decide) (fm_dec dtX0_hoursFor 7 rfl) ?_
    refine pv_getR (k := 3) (j := 3) (ci := 8) (pc := 14) 7 rfl (by decide) pfl_X0_88 (by decide) rfl (by decide) (fm_dec dtX0_hoursFor 8 rfl) ?_
    refine pv_iloadn (pc := 17) (n := 2) 2 rfl rfl (fm_dec dtX0_hoursFor 9 rfl) ?_
    refine pv_iald (k := 7) (n := 8) (pc := 18) (by decide) rfl rfl (ix_in hi9 (by omega)) (fm_dec dtX0_hoursFor 10 rfl) ?_
    rw [i32_cl hi9]
    refine pv_goto (pc := 19) 30 (by decide) (fm_dec dtX0_hoursFor 11 rfl) ?_
    exact pv_ireturn (pc := 30) rfl (fm_dec dtX0_hoursFor 16 rfl) (hq _ (by unfold hoS; rw [if_pos (by have h9 := congrArg Int32.toInt hc7; omega)]; omega))
set_option maxRecDepth 20000 in
theorem c_xcanT {M : fmM} {Q : fmR → fmM → Prop} {D : dD} {S : aS} {i : Nat} (hD : dOk D) (hs : xstT M D S) (ho : stOT D S) (hi : i < D.1) (ht : ¬ S.1.2.2.1.testBit i = true → ¬ S.2 i = 0 → Q (.inl (some (.int 1))) M) (hf : (S.1.2.2.1.testBit i = true ∨ S.2 i = 0) → Q (.inl (some (.int 0))) M) : pvGood Tx 1 qX0_canBePut [.ref 32, .ref 41, .int (nI i)] M Q := by
  refine pvGood_of (Nat.le_of_ble_eq_true rfl) ?_
  show pvEv Tx 1 qX0_canBePut 0 [some (.ref 32), some (.ref 41), some (.int (nI i))] [] M Q
  have d8 := hD.1
  have hi9 : (nI i).toInt = (i : Int) := nI_toInt (by omega)
  have g48 := hs.2.2.2.2.2.2 i hi
  have z0 : (0 : Int32).toInt = 0 := (by decide)
  refine pv_aloadn (pc := 0) (n := 1) 1 rfl rfl (fm_dec dtX0_canBePut 0 rfl) ?_
  refine pv_iloadn (pc := 1) (n := 2) 2 rfl rfl (fm_dec dtX0_canBePut 1 rfl) ?_
  refine pv_invV1 (k := 41) (d' := 0) (pc := 2) pcv_X0_38 (by decide) rfl (Nat.le_of_ble_eq_true rfl) (by decide) (fm_dec dtX0_canBePut 2 rfl) ?_
  refine c_xalivT hs ho (by omega) ?_
  refine pv_then1 ?_
  have e2 : bI (!S.1.2.2.1.testBit i) = 0 ↔ S.1.2.2.1.testBit i = true := (by rw [bI_0]; cases S.1.2.2.1.testBit i <;> decide)
  refine pv_if_eq (pc := 5) 21 (by decide) (fm_dec dtX0_canBePut 3 rfl) (fun hc5 => ?_) (fun hc5 => ?_)
  · refine pv_iconst (pc := 21) (v := 0) (by decide) (fm_dec dtX0_canBePut 11 rfl) ?_
    exact pv_zreturn (pc := 22) rfl (by first | exact Or.inr rfl | exact Or.inl rfl) (fm_dec dtX0_canBePut 12 rfl) (hf (Or.inl (e2.mp hc5)))
  · refine pv_aloadn (pc := 8) (n := 1) 1 rfl rfl (fm_dec dtX0_canBePut 4 rfl) ?_
    refine pv_getR (k := 41) (j := 0) (ci := 6) (pc := 9) 42 rfl (by decide) pfl_X0_78 (by decide) rfl (by decide) (fm_dec dtX0_canBePut 5 rfl) ?_
    refine pv_iloadn (pc := 12) (n := 2) 2 rfl rfl (fm_dec dtX0_canBePut 6 rfl) ?_
    refine pv_iald (k := 42) (n := 8) (pc := 13) (by decide) rfl rfl (ix_in hi9 (by omega)) (fm_dec dtX0_canBePut 7 rfl) ?_
    rw [i32_cl hi9]
    refine pv_if_eq (pc := 14) 21 (by decide) (fm_dec dtX0_canBePut 8 rfl) (fun hc14 => ?_) (fun hc14 => ?_)
    · refine pv_iconst (pc := 21) (v := 0) (by decide) (fm_dec dtX0_canBePut 11 rfl) ?_
      exact pv_zreturn (pc := 22) rfl (by first | exact Or.inr rfl | exact Or.inl rfl) (fm_dec dtX0_canBePut 12 rfl) (hf (Or.inr (by have h9 := congrArg Int32.toInt hc14; omega)))
    · refine pv_iconst (pc := 17) (v := 1) (by decide) (fm_dec dtX0_canBePut 9 rfl) ?_
      refine pv_goto (pc := 18) 22 (by decide) (fm_dec dtX0_canBePut 10 rfl) ?_
      exact pv_zreturn (pc := 22) rfl (by first | exact Or.inr rfl | exact Or.inl rfl) (fm_dec dtX0_canBePut 12 rfl) (ht (fun h9 => hc5 (e2.mpr h9)) (fun h9 => hc14 (i32_ext (by omega))))
def puM2T (M : fmM) (i : Nat) (h : Int32) : fmM := fmI (fmI M 41 3 (M.1 41 3 - h)) 42 i 0
theorem pu_stT {M : fmM} {D : dD} {S : aS} {i : Nat} {h : Int32} (hs : xstT M D S) (hi : i < D.1) (hh : h.toInt = ((hoS D S i : Nat) : Int)) (hle : hoS D S i ≤ S.1.2.1) (h12 : S.1.2.1 ≤ 12) : xstT (puM2T M i h) D ((S.1.1, S.1.2.1 - hoS D S i, S.1.2.2), fun j => if j = i then 0 else S.2 j) := by
  obtain ⟨a, b, c, d, e, f, g⟩ := hs
  refine ⟨a, b, ?_, d, e, f, fun j hj => ?_⟩
  · show (M.1 41 3 - h).toInt = _
    rw [sc_sub (by omega) (by omega)]
    show _ = ((S.1.2.1 - hoS D S i : Nat) : Int)
    omega
  · unfold puM2T
    rw [fmI_at]
    by_cases e0 : j = i
    · subst e0
      rw [if_pos ⟨rfl, rfl⟩]
      show (0 : Int32).toInt = if j = j then 0 else S.2 j
      rw [if_pos rfl]
      decide
    · rw [if_neg (by omega), fmI_k _ _ (by decide)]
      show _ = if j = i then 0 else S.2 j
      rw [if_neg e0]
      exact g j hj
set_option maxRecDepth 20000 in
theorem c_xputT {M : fmM} {Q : fmR → fmM → Prop} {D : dD} {S : aS} {i : Nat} (hD : dOk D) (hX : xdw 3 M D) (hs : xstT M D S) (ho : stOT D S) (hi : i < D.1) (hn : puS D S i = none → Q (.inl (some (.int 0))) M) (hq : ∀ (S' : aS) (h : Int32), puS D S i = some S' → xstT (puM2T M i h) D S' → Q (.inl (some (.int 1))) (puM2T M i h)) : pvGood Tx 3 qX0_putPiece [.ref 32, .ref 41, .int (nI i)] M Q := by
  refine pvGood_of (Nat.le_of_ble_eq_true rfl) ?_
  show pvEv Tx 3 qX0_putPiece 0 [some (.ref 32), some (.ref 41), some (.int (nI i)), none] [] M Q
  have d8 := hD.1
  have hi9 : (nI i).toInt = (i : Int) := nI_toInt (by omega)
  have h12 := ho.2.1
  have g3 := hs.2.2.1
  refine pv_aloadn (pc := 0) (n := 0) 0 rfl rfl (fm_dec dtX0_putPiece 0 rfl) ?_
  refine pv_aloadn (pc := 1) (n := 1) 1 rfl rfl (fm_dec dtX0_putPiece 1 rfl) ?_
  refine pv_iloadn (pc := 2) (n := 2) 2 rfl rfl (fm_dec dtX0_putPiece 2 rfl) ?_
  refine pv_invV2 (k := 32) (d' := 2) (pc := 3) pcv_X0_113 (by decide) rfl (Nat.le_of_ble_eq_true rfl) (by decide) (fm_dec dtX0_putPiece 3 rfl) ?_
  refine c_xhoursT hD hX hs hi (fun r3 h3 => ?_)
  refine pv_then1 ?_
  refine pv_istoren (pc := 6) (n := 3) 3 rfl (by decide) rfl (fm_dec dtX0_putPiece 4 rfl) ?_
  dsimp only [List.set_cons_zero, List.set_cons_succ]
  refine pv_aloadn (pc := 7) (n := 0) 0 rfl rfl (fm_dec dtX0_putPiece 5 rfl) ?_
  refine pv_aloadn (pc := 8) (n := 1) 1 rfl rfl (fm_dec dtX0_putPiece 6 rfl) ?_
  refine pv_iloadn (pc := 9) (n := 2) 2 rfl rfl (fm_dec dtX0_putPiece 7 rfl) ?_
  refine pv_invV2 (k := 32) (d' := 1) (pc := 10) pcv_X0_95 (by decide) rfl (Nat.le_of_ble_eq_true rfl) (by decide) (fm_dec dtX0_putPiece 8 rfl) ?_
  refine c_xcanT hD hs ho hi (fun h10a h10b => ?_) (fun h10 => ?_)
  · refine pv_then1 ?_
    refine pv_if_eq (pc := 13) 24 (by decide) (fm_dec dtX0_putPiece 9 rfl) (fun hc13 => by exfalso; revert hc13; decide) (fun _ => ?_)
    refine pv_iloadn (pc := 16) (n := 3) 3 rfl rfl (fm_dec dtX0_putPiece 10 rfl) ?_
    refine pv_aloadn (pc := 17) (n := 1) 1 rfl rfl (fm_dec dtX0_putPiece 11 rfl) ?_
    refine pv_getI (k := 41) (j := 3) (ci := 6) (pc := 18) pfl_X0_116 (by decide) rfl (by decide) (fm_dec dtX0_putPiece 12 rfl) ?_
    refine pv_icmp_le (pc := 21) 26 (by decide) (fm_dec dtX0_putPiece 13 rfl) (fun hc21 => ?_) (fun hc21 => ?_)
    · refine pv_aloadn (pc := 26) (n := 1) 1 rfl rfl (fm_dec dtX0_putPiece 16 rfl) ?_
      refine pv_dup (pc := 27) rfl (fm_dec dtX0_putPiece 17 rfl) ?_
      refine pv_getI (k := 41) (j := 3) (ci := 6) (pc := 28) pfl_X0_116 (by decide) rfl (by decide) (fm_dec dtX0_putPiece 18 rfl) ?_
      refine pv_iloadn (pc := 31) (n := 3) 3 rfl rfl (fm_dec dtX0_putPiece 19 rfl) ?_
      refine pv_isub (pc := 32) (fm_dec dtX0_putPiece 20 rfl) ?_
      refine pv_putI (k := 41) (j := 3) (ci := 6) (pc := 33) pfl_X0_116 (by decide) rfl (by decide) (fm_dec dtX0_putPiece 21 rfl) ?_
      refine pv_aloadn (pc := 36) (n := 1) 1 rfl rfl (fm_dec dtX0_putPiece 22 rfl) ?_
      refine pv_getR (k := 41) (j := 0) (ci := 6) (pc := 37) 42 rfl (by decide) pfl_X0_78 (by decide) rfl (by decide) (fm_dec dtX0_putPiece 23 rfl) ?_
      refine pv_iloadn (pc := 40) (n := 2) 2 rfl rfl (fm_dec dtX0_putPiece 24 rfl) ?_
      refine pv_iconst (pc := 41) (v := 0) (by decide) (fm_dec dtX0_putPiece 25 rfl) ?_
      refine pv_iast (k := 42) (n := 8) (pc := 42) (by decide) rfl rfl (ix_in hi9 (by omega)) (fm_dec dtX0_putPiece 26 rfl) ?_
      rw [i32_cl hi9]
      refine pv_iconst (pc := 43) (v := 1) (by decide) (fm_dec dtX0_putPiece 27 rfl) ?_
      exact pv_zreturn (pc := 44) rfl (by first | exact Or.inr rfl | exact Or.inl rfl) (fm_dec dtX0_putPiece 28 rfl) (hq _ r3 (if_neg (by rw [sc_le] at hc21; intro h9; rcases h9 with h | h | h; exact h10a h; exact h10b h; omega)) (pu_stT hs hi h3 (by rw [sc_le] at hc21; omega) h12))
    · refine pv_iconst (pc := 24) (v := 0) (by decide) (fm_dec dtX0_putPiece 14 rfl) ?_
      exact pv_zreturn (pc := 25) rfl (by first | exact Or.inr rfl | exact Or.inl rfl) (fm_dec dtX0_putPiece 15 rfl) (hn (if_pos (Or.inr (Or.inr (by rw [sc_le] at hc21; omega)))))
  · refine pv_then1 ?_
    refine pv_if_eq (pc := 13) 24 (by decide) (fm_dec dtX0_putPiece 9 rfl) (fun _ => ?_) (fun hc13 => by exfalso; revert hc13; decide)
    refine pv_iconst (pc := 24) (v := 0) (by decide) (fm_dec dtX0_putPiece 14 rfl) ?_
    exact pv_zreturn (pc := 25) rfl (by first | exact Or.inr rfl | exact Or.inl rfl) (fm_dec dtX0_putPiece 15 rfl) (hn (if_pos (by rcases h10 with h | h; exact Or.inl h; exact Or.inr (Or.inl h))))
theorem wk_z0T {M : fmM} {D : dD} {S : aS} (hs : xstT M D S) (ho : stOT D S) : (M.1 41 2 + 0).toInt = (S.1.1 : Int) := by
  have w2 := ho.1
  have g2 := hs.2.1
  have z0 : (0 : Int32).toInt = 0 := by decide
  rw [sc_add (by omega) (by omega)]
  omega
set_option maxRecDepth 20000 in
theorem c_xyrGT {M : fmM} {Q : fmR → fmM → Prop} {D : dD} {i w : Nat} {z : Int32} (hD : dOk D) (hX : xdw 3 M D) (hi : i < D.1) (hz : (M.1 41 2 + z).toInt = (w : Int)) (hw : w ≤ 300) (hq : Q (.inl (some (.int (nI ((D.2.1 i 0).toNat + w / 52))))) M) : pvGood Tx 0 qX0_yearsWhen [.ref 32, .ref 41, .int (nI i), .int z] M Q := by
  refine pvGood_of (Nat.le_of_ble_eq_true rfl) ?_
  show pvEv Tx 0 qX0_yearsWhen 0 [some (.ref 32), some (.ref 41), some (.int (nI i)), some (.int z)] [] M Q
  have d8 := hD.1
  have hi9 : (nI i).toInt = (i : Int) := nI_toInt (by omega)
  have b0 := (hD.2.2.1 i hi).1
  have g0 : (M.1 4 i).toInt = D.2.1 i 0 := hX.2.1 i hi 0 (by decide)
  have z52 : (52 : Int32).toInt = ((52 : Nat) : Int) := (by decide)
  refine pv_aloadn (pc := 0) (n := 0) 0 rfl rfl (fm_dec dtX0_yearsWhen 0 rfl) ?_
  refine pv_getR (k := 32) (j := 0) (ci := 0) (pc := 1) 3 rfl (by decide) pfl_X0_15 (by decide) rfl (by decide) (fm_dec dtX0_yearsWhen 1 rfl) ?_
  refine pv_getR (k := 3) (j := 0) (ci := 8) (pc := 4) 4 rfl (by decide) pfl_X0_23 (by decide) rfl (by decide) (fm_dec dtX0_yearsWhen 2 rfl) ?_
  refine pv_iloadn (pc := 7) (n := 2) 2 rfl rfl (fm_dec dtX0_yearsWhen 3 rfl) ?_
  refine pv_iald (k := 4) (n := 8) (pc := 8) (by decide) rfl rfl (ix_in hi9 (by omega)) (fm_dec dtX0_yearsWhen 4 rfl) ?_
  rw [i32_cl hi9]
  refine pv_aloadn (pc := 9) (n := 1) 1 rfl rfl (fm_dec dtX0_yearsWhen 5 rfl) ?_
  refine pv_getI (k := 41) (j := 2) (ci := 6) (pc := 10) pfl_X0_29 (by decide) rfl (by decide) (fm_dec dtX0_yearsWhen 6 rfl) ?_
  refine pv_iloadn (pc := 13) (n := 3) 3 rfl rfl (fm_dec dtX0_yearsWhen 7 rfl) ?_
  refine pv_iadd (pc := 14) (fm_dec dtX0_yearsWhen 8 rfl) ?_
  refine pv_bipush (pc := 15) (v := 52) (by decide) (fm_dec dtX0_yearsWhen 9 rfl) ?_
  refine pv_idiv (pc := 17) (by decide) (fm_dec dtX0_yearsWhen 10 rfl) ?_
  refine pv_iadd (pc := 18) (fm_dec dtX0_yearsWhen 11 rfl) ?_
  exact pv_ireturn (pc := 19) rfl (fm_dec dtX0_yearsWhen 12 rfl) (by have e8 := dv_n hz z52 (by decide) (by omega); have h8 : w / 52 ≤ w := Nat.div_le_self _ _; have e7 : (M.1 4 i + (M.1 41 2 + z) / 52).toInt = (((D.2.1 i 0).toNat + w / 52 : Nat) : Int) := (by rw [sc_add (by omega) (by omega)]; omega); rw [nI_is e7 (by omega)]; exact hq)
theorem c_xyrT {M : fmM} {Q : fmR → fmM → Prop} {D : dD} {S : aS} {i : Nat} (hD : dOk D) (hX : xdw 3 M D) (hs : xstT M D S) (ho : stOT D S) (hi : i < D.1) (hq : Q (.inl (some (.int (nI ((D.2.1 i 0).toNat + S.1.1 / 52))))) M) : pvGood Tx 0 qX0_yearsWhen [.ref 32, .ref 41, .int (nI i), .int 0] M Q := c_xyrGT hD hX hi (wk_z0T hs ho) (by have := ho.1; omega) hq
set_option maxRecDepth 20000 in
theorem c_xsdT {M : fmM} {Q : fmR → fmM → Prop} {D : dD} {S : aS} {i : Nat} (hD : dOk D) (hX : xdw 3 M D) (hs : xstT M D S) (ho : stOT D S) (hi : i < D.1) (hq : Q (.inl (some (.int (nI (sdA D S.1.2.2.1 i))))) M) : pvGood Tx 1 qX0_signerDead [.ref 32, .ref 41, .int (nI i)] M Q := by
  refine pvGood_of (Nat.le_of_ble_eq_true rfl) ?_
  show pvEv Tx 1 qX0_signerDead 0 [some (.ref 32), some (.ref 41), some (.int (nI i)), none] [] M Q
  have d8 := hD.1
  have hi9 : (nI i).toInt = (i : Int) := nI_toInt (by omega)
  have g5 : (M.1 9 i).toInt = chB D i := hX.2.1 i hi 5 (by decide)
  have z0 : (0 : Int32).toInt = 0 := (by decide)
  have ec : D.2.1 i 5 = chB D i := rfl
  refine pv_aloadn (pc := 0) (n := 0) 0 rfl rfl (fm_dec dtX0_signerDead 0 rfl) ?_
  refine pv_getR (k := 32) (j := 0) (ci := 0) (pc := 1) 3 rfl (by decide) pfl_X0_15 (by decide) rfl (by decide) (fm_dec dtX0_signerDead 1 rfl) ?_
  refine pv_getR (k := 3) (j := 5) (ci := 8) (pc := 4) 9 rfl (by decide) pfl_X0_35 (by decide) rfl (by decide) (fm_dec dtX0_signerDead 2 rfl) ?_
  refine pv_iloadn (pc := 7) (n := 2) 2 rfl rfl (fm_dec dtX0_signerDead 3 rfl) ?_
  refine pv_iald (k := 9) (n := 8) (pc := 8) (by decide) rfl rfl (ix_in hi9 (by omega)) (fm_dec dtX0_signerDead 4 rfl) ?_
  rw [i32_cl hi9]
  refine pv_istoren (pc := 9) (n := 3) 3 rfl (by decide) rfl (fm_dec dtX0_signerDead 5 rfl) ?_
  dsimp only [List.set_cons_zero, List.set_cons_succ]
  refine pv_iloadn (pc := 10) (n := 3) 3 rfl rfl (fm_dec dtX0_signerDead 6 rfl) ?_
  refine pv_if_lt (pc := 11) 26 (by decide) (fm_dec dtX0_signerDead 7 rfl) (fun hc11 => ?_) (fun hc11 => ?_)
  · refine pv_iconst (pc := 26) (v := 0) (by decide) (fm_dec dtX0_signerDead 14 rfl) ?_
    exact pv_ireturn (pc := 27) rfl (fm_dec dtX0_signerDead 15 rfl) (by have h9 := hq; unfold sdA at h9; rw [if_pos (by rw [sc_lt] at hc11; omega)] at h9; exact h9)
  · obtain ⟨k, hk, hk8, hkb, hkx⟩ := by_d hD hi g5 (by rw [sc_lt] at hc11; omega)
    rw [hkx]
    refine pv_aloadn (pc := 14) (n := 1) 1 rfl rfl (fm_dec dtX0_signerDead 8 rfl) ?_
    refine pv_iloadn (pc := 15) (n := 3) 3 rfl rfl (fm_dec dtX0_signerDead 9 rfl) ?_
    refine pv_invV1 (k := 41) (d' := 0) (pc := 16) pcv_X0_38 (by decide) rfl (Nat.le_of_ble_eq_true rfl) (by decide) (fm_dec dtX0_signerDead 10 rfl) ?_
    refine c_xalivT hs ho hk8 ?_
    refine pv_then1 ?_
    refine pv_if_ne (pc := 19) 26 (by decide) (fm_dec dtX0_signerDead 11 rfl) (fun hc19 => ?_) (fun hc19 => ?_)
    · refine pv_iconst (pc := 26) (v := 0) (by decide) (fm_dec dtX0_signerDead 14 rfl) ?_
      exact pv_ireturn (pc := 27) rfl (fm_dec dtX0_signerDead 15 rfl) (by have h9 := hq; unfold sdA at h9; rw [if_neg (by omega), ec, hkb, Int.toNat_natCast] at h9; cases ht : S.1.2.2.1.testBit k with | true => exact absurd (show bI (!S.1.2.2.1.testBit k) = 0 by rw [ht]; decide) hc19 | false => (rw [ht] at h9; exact h9))
    · refine pv_iconst (pc := 22) (v := 1) (by decide) (fm_dec dtX0_signerDead 12 rfl) ?_
      refine pv_goto (pc := 23) 27 (by decide) (fm_dec dtX0_signerDead 13 rfl) ?_
      exact pv_ireturn (pc := 27) rfl (fm_dec dtX0_signerDead 15 rfl) (by have h9 := hq; unfold sdA at h9; rw [if_neg (by omega), ec, hkb, Int.toNat_natCast] at h9; cases ht : S.1.2.2.1.testBit k with | true => (rw [ht] at h9; exact h9) | false => (rw [ht] at hc19; exact absurd hc19 (by decide)))
set_option maxRecDepth 20000 in
theorem c_xwrgGT {M : fmM} {Q : fmR → fmM → Prop} {D : dD} {cs : tC} {S : aS} {i a w : Nat} {z : Int32} (hD : dOk D) (hX : xdw 3 M D) (hL : lwX M cs) (hs : xstT M D S) (ho : stOT D S) (hi : i < D.1) (hz : (M.1 41 2 + z).toInt = (w : Int)) (hw : w ≤ 300) (ha : a ≤ 400) (hq : ∀ (M' : fmM) (r : Int32), (∀ k j, k ≠ 26 → M'.1 k j = M.1 k j) → M'.2 = M.2 → r.toInt = wrS D cs S.1.2.2.1 w i a → Q (.inl (some (.int r))) M') : pvGood Tx 2 qX0_wrongWhen [.ref 32, .ref 41, .int (nI i), .int z, .int (nI a)] M Q := by
  refine pvGood_of (Nat.le_of_ble_eq_true rfl) ?_
  show pvEv Tx 2 qX0_wrongWhen 0 [some (.ref 32), some (.ref 41), some (.int (nI i)), some (.int z), some (.int (nI a)), none, none] [] M Q
  have d8 := hD.1
  have hi9 : (nI i).toInt = (i : Int) := nI_toInt (by omega)
  have ha9 : (nI a).toInt = (a : Int) := nI_toInt (by omega)
  have ea : (M.1 41 2 + z - nI a).toInt = (w : Int) - a := (by rw [sc_sub (by omega) (by omega)]; omega)
  have b2 := (hD.2.2.1 i hi).2.2.1
  have g2 : M.1 6 i = nI (D.2.1 i 2).toNat := nI_is (by have h9 : (M.1 6 i).toInt = D.2.1 i 2 := hX.2.1 i hi 2 (by decide); omega) (by omega)
  refine pv_aloadn (pc := 0) (n := 1) 1 rfl rfl (fm_dec dtX0_wrongWhen 0 rfl) ?_
  refine pv_getI (k := 41) (j := 2) (ci := 6) (pc := 1) pfl_X0_29 (by decide) rfl (by decide) (fm_dec dtX0_wrongWhen 1 rfl) ?_
  refine pv_iloadn (pc := 4) (n := 3) 3 rfl rfl (fm_dec dtX0_wrongWhen 2 rfl) ?_
  refine pv_iadd (pc := 5) (fm_dec dtX0_wrongWhen 3 rfl) ?_
  refine pv_istore (pc := 6) (i := 5) (by decide) rfl (fm_dec dtX0_wrongWhen 4 rfl) ?_
  dsimp only [List.set_cons_zero, List.set_cons_succ]
  refine pv_aloadn (pc := 8) (n := 0) 0 rfl rfl (fm_dec dtX0_wrongWhen 5 rfl) ?_
  refine pv_getR (k := 32) (j := 0) (ci := 0) (pc := 9) 3 rfl (by decide) pfl_X0_15 (by decide) rfl (by decide) (fm_dec dtX0_wrongWhen 6 rfl) ?_
  refine pv_iloadn (pc := 12) (n := 2) 2 rfl rfl (fm_dec dtX0_wrongWhen 7 rfl) ?_
  refine pv_iload (pc := 13) (i := 5) rfl (fm_dec dtX0_wrongWhen 8 rfl) ?_
  refine pv_iload (pc := 15) (i := 4) rfl (fm_dec dtX0_wrongWhen 9 rfl) ?_
  refine pv_isub (pc := 17) (fm_dec dtX0_wrongWhen 10 rfl) ?_
  refine pv_iload (pc := 18) (i := 5) rfl (fm_dec dtX0_wrongWhen 11 rfl) ?_
  refine pv_invV3 (k := 3) (d' := 0) (pc := 20) pcv_X0_42 (by decide) rfl (Nat.le_of_ble_eq_true rfl) (by decide) (fm_dec dtX0_wrongWhen 12 rfl) ?_
  refine c_xcg hD hX ?_
  refine pv_then1 ?_
  refine pv_istore (pc := 23) (i := 6) (by decide) rfl (fm_dec dtX0_wrongWhen 13 rfl) ?_
  dsimp only [List.set_cons_zero, List.set_cons_succ]
  refine pv_aloadn (pc := 25) (n := 0) 0 rfl rfl (fm_dec dtX0_wrongWhen 14 rfl) ?_
  refine pv_getR (k := 32) (j := 1) (ci := 0) (pc := 26) 23 rfl (by decide) pfl_X0_19 (by decide) rfl (by decide) (fm_dec dtX0_wrongWhen 15 rfl) ?_
  refine pv_iload (pc := 29) (i := 4) rfl (fm_dec dtX0_wrongWhen 16 rfl) ?_
  refine pv_aloadn (pc := 31) (n := 0) 0 rfl rfl (fm_dec dtX0_wrongWhen 17 rfl) ?_
  refine pv_aloadn (pc := 32) (n := 1) 1 rfl rfl (fm_dec dtX0_wrongWhen 18 rfl) ?_
  refine pv_iloadn (pc := 33) (n := 2) 2 rfl rfl (fm_dec dtX0_wrongWhen 19 rfl) ?_
  refine pv_iloadn (pc := 34) (n := 3) 3 rfl rfl (fm_dec dtX0_wrongWhen 20 rfl) ?_
  refine pv_invV3 (k := 32) (d' := 0) (pc := 35) pcv_X0_46 (by decide) rfl (Nat.le_of_ble_eq_true rfl) (by decide) (fm_dec dtX0_wrongWhen 21 rfl) ?_
  refine c_xyrGT hD hX hi hz hw ?_
  refine pv_then1 ?_
  refine pv_aloadn (pc := 38) (n := 0) 0 rfl rfl (fm_dec dtX0_wrongWhen 22 rfl) ?_
  refine pv_getR (k := 32) (j := 0) (ci := 0) (pc := 39) 3 rfl (by decide) pfl_X0_15 (by decide) rfl (by decide) (fm_dec dtX0_wrongWhen 23 rfl) ?_
  refine pv_getR (k := 3) (j := 2) (ci := 8) (pc := 42) 6 rfl (by decide) pfl_X0_50 (by decide) rfl (by decide) (fm_dec dtX0_wrongWhen 24 rfl) ?_
  refine pv_iloadn (pc := 45) (n := 2) 2 rfl rfl (fm_dec dtX0_wrongWhen 25 rfl) ?_
  refine pv_iald (k := 6) (n := 8) (pc := 46) (by decide) rfl rfl (ix_in hi9 (by omega)) (fm_dec dtX0_wrongWhen 26 rfl) ?_
  rw [i32_cl hi9, g2]
  refine pv_aloadn (pc := 47) (n := 0) 0 rfl rfl (fm_dec dtX0_wrongWhen 27 rfl) ?_
  refine pv_aloadn (pc := 48) (n := 1) 1 rfl rfl (fm_dec dtX0_wrongWhen 28 rfl) ?_
  refine pv_iloadn (pc := 49) (n := 2) 2 rfl rfl (fm_dec dtX0_wrongWhen 29 rfl) ?_
  refine pv_invV2 (k := 32) (d' := 1) (pc := 50) pcv_X0_53 (by decide) rfl (Nat.le_of_ble_eq_true rfl) (by decide) (fm_dec dtX0_wrongWhen 30 rfl) ?_
  refine c_xsdT hD hX hs ho hi ?_
  refine pv_then1 ?_
  refine pv_iload (pc := 53) (i := 6) rfl (fm_dec dtX0_wrongWhen 31 rfl) ?_
  refine pv_invV5 (k := 23) (d' := 1) (pc := 55) pcv_X0_57 (by decide) rfl (Nat.le_of_ble_eq_true rfl) (by decide) (fm_dec dtX0_wrongWhen 32 rfl) ?_
  refine c_xlw hL (fun M55 g55 h55 => ?_)
  refine pv_then1 ?_
  exact pv_ireturn (pc := 58) rfl (fm_dec dtX0_wrongWhen 33 rfl) (hq M55 _ g55 h55 (by unfold wrS; rw [hi9, hz, ea]))
theorem c_xwrgT {M : fmM} {Q : fmR → fmM → Prop} {D : dD} {cs : tC} {S : aS} {i a : Nat} (hD : dOk D) (hX : xdw 3 M D) (hL : lwX M cs) (hs : xstT M D S) (ho : stOT D S) (hi : i < D.1) (ha : a ≤ 240) (hq : ∀ (M' : fmM) (r : Int32), (∀ k j, k ≠ 26 → M'.1 k j = M.1 k j) → M'.2 = M.2 → r.toInt = wrS D cs S.1.2.2.1 S.1.1 i a → Q (.inl (some (.int r))) M') : pvGood Tx 2 qX0_wrongWhen [.ref 32, .ref 41, .int (nI i), .int 0, .int (nI a)] M Q := c_xwrgGT hD hX hL hs ho hi (wk_z0T hs ho) (by have := ho.1; omega) (by omega) hq
set_option maxRecDepth 20000 in
theorem c_xcostGT {M : fmM} {Q : fmR → fmM → Prop} {D : dD} {cs : tC} {S : aS} {i w : Nat} {ag : Int} {z x : Int32} (hD : dOk D) (hX : xdw 3 M D) (hL : lwX M cs) (hs : xstT M D S) (ho : stOT D S) (hi : i < D.1) (hz : (M.1 41 2 + z).toInt = (w : Int)) (hw : w ≤ 300) (hx : x.toInt = ag) (ha : -1 ≤ ag ∧ ag ≤ 400) (hq : ∀ (M' : fmM) (r : Int64), (∀ k j, k ≠ 26 → M'.1 k j = M.1 k j) → M'.2 = M.2 → r.toInt = coA D cs S.1.2.2.1 w i ag → Q (.inl (some (.long r))) M') : pvGood Tx 3 qX0_costWhen [.ref 32, .ref 41, .int (nI i), .int z, .int x] M Q := by
  refine pvGood_of (Nat.le_of_ble_eq_true rfl) ?_
  show pvEv Tx 3 qX0_costWhen 0 [some (.ref 32), some (.ref 41), some (.int (nI i)), some (.int z), some (.int x)] [] M Q
  have d8 := hD.1
  have hi9 : (nI i).toInt = (i : Int) := nI_toInt (by omega)
  have zm : (-1 : Int32).toInt = -1 := (by decide)
  have b2 := (hD.2.2.1 i hi).2.2.1
  have b3 := hD.2.2.2.2.2.1
  have b4 := hD.2.2.2.2.2.2.1
  have g2 : (M.1 6 i).toInt = D.2.1 i 2 := hX.2.1 i hi 2 (by decide)
  have g3 : (M.1 3 12).toInt = D.2.2.2.2 3 := hX.1.2.2.2.1
  have g4 : (M.1 3 13).toInt = D.2.2.2.2 4 := hX.1.2.2.2.2.1
  refine pv_iload (pc := 0) (i := 4) rfl (fm_dec dtX0_costWhen 0 rfl) ?_
  refine pv_iconst (pc := 2) (v := (-1)) (by decide) (fm_dec dtX0_costWhen 1 rfl) ?_
  refine pv_icmp_ne (pc := 3) 30 (by decide) (fm_dec dtX0_costWhen 2 rfl) (fun hc3 => ?_) (fun hc3 => ?_)
  · have hne : ¬ ag = -1 := (fun h9 => hc3 (i32_ext (by omega)))
    have hxa : x = nI ag.toNat := nI_is (by omega) (by omega)
    subst hxa
    refine pv_aloadn (pc := 30) (n := 0) 0 rfl rfl (fm_dec dtX0_costWhen 17 rfl) ?_
    refine pv_getR (k := 32) (j := 0) (ci := 0) (pc := 31) 3 rfl (by decide) pfl_X0_15 (by decide) rfl (by decide) (fm_dec dtX0_costWhen 18 rfl) ?_
    refine pv_getI (k := 3) (j := 13) (ci := 8) (pc := 34) pfl_X0_68 (by decide) rfl (by decide) (fm_dec dtX0_costWhen 19 rfl) ?_
    refine pv_i2l (pc := 37) (fm_dec dtX0_costWhen 20 rfl) ?_
    refine pv_aloadn (pc := 38) (n := 0) 0 rfl rfl (fm_dec dtX0_costWhen 21 rfl) ?_
    refine pv_getR (k := 32) (j := 0) (ci := 0) (pc := 39) 3 rfl (by decide) pfl_X0_15 (by decide) rfl (by decide) (fm_dec dtX0_costWhen 22 rfl) ?_
    refine pv_getR (k := 3) (j := 2) (ci := 8) (pc := 42) 6 rfl (by decide) pfl_X0_50 (by decide) rfl (by decide) (fm_dec dtX0_costWhen 23 rfl) ?_
    refine pv_iloadn (pc := 45) (n := 2) 2 rfl rfl (fm_dec dtX0_costWhen 24 rfl) ?_
    refine pv_iald (k := 6) (n := 8) (pc := 46) (by decide) rfl rfl (ix_in hi9 (by omega)) (fm_dec dtX0_costWhen 25 rfl) ?_
    rw [i32_cl hi9]
    refine pv_i2l (pc := 47) (fm_dec dtX0_costWhen 26 rfl) ?_
    refine pv_lmul (pc := 48) (fm_dec dtX0_costWhen 27 rfl) ?_
    refine pv_aloadn (pc := 49) (n := 0) 0 rfl rfl (fm_dec dtX0_costWhen 28 rfl) ?_
    refine pv_aloadn (pc := 50) (n := 1) 1 rfl rfl (fm_dec dtX0_costWhen 29 rfl) ?_
    refine pv_iloadn (pc := 51) (n := 2) 2 rfl rfl (fm_dec dtX0_costWhen 30 rfl) ?_
    refine pv_iloadn (pc := 52) (n := 3) 3 rfl rfl (fm_dec dtX0_costWhen 31 rfl) ?_
    refine pv_iload (pc := 53) (i := 4) rfl (fm_dec dtX0_costWhen 32 rfl) ?_
    refine pv_invV4 (k := 32) (d' := 2) (pc := 55) pcv_X0_71 (by decide) rfl (Nat.le_of_ble_eq_true rfl) (by decide) (fm_dec dtX0_costWhen 33 rfl) ?_
    refine c_xwrgGT hD hX hL hs ho hi hz hw (by omega) (fun M55 r55 g55 h55 e55 => ?_)
    refine pv_then1 ?_
    refine pv_i2l (pc := 58) (fm_dec dtX0_costWhen 34 rfl) ?_
    refine pv_lmul (pc := 59) (fm_dec dtX0_costWhen 35 rfl) ?_
    exact pv_lreturn (pc := 60) rfl (fm_dec dtX0_costWhen 36 rfl) (hq M55 _ g55 h55 (by have h1 := mul_b (a := D.2.2.2.2 4) (b := D.2.1 i 2) (m := 9) (n := 99) (by omega) (by omega) (by omega) (by omega); have e1 := j64 (x := (M.1 3 13).toInt64) (a := D.2.2.2.2 4) (by rw [Int32.toInt_toInt64]; exact g4) g2 (by omega) (by omega); have hw9 := wrS_b (D := D) (cs := cs) (dead := S.1.2.2.1) (w := w) (i := i) (age := ag.toNat); have h2 := mul_b (a := D.2.2.2.2 4 * D.2.1 i 2) (b := wrS D cs S.1.2.2.1 w i ag.toNat) (m := 891) (n := 64) (by omega) (by omega) hw9.1 hw9.2; rw [j64 e1 e55 (by omega) (by omega)]; unfold coA; rw [if_neg hne]))
  · refine pv_ldc2 (pc := 6) pkc_X0_63 (fm_dec dtX0_costWhen 3 rfl) ?_
    refine pv_aloadn (pc := 9) (n := 0) 0 rfl rfl (fm_dec dtX0_costWhen 4 rfl) ?_
    refine pv_getR (k := 32) (j := 0) (ci := 0) (pc := 10) 3 rfl (by decide) pfl_X0_15 (by decide) rfl (by decide) (fm_dec dtX0_costWhen 5 rfl) ?_
    refine pv_getI (k := 3) (j := 12) (ci := 8) (pc := 13) pfl_X0_65 (by decide) rfl (by decide) (fm_dec dtX0_costWhen 6 rfl) ?_
    refine pv_i2l (pc := 16) (fm_dec dtX0_costWhen 7 rfl) ?_
    refine pv_lmul (pc := 17) (fm_dec dtX0_costWhen 8 rfl) ?_
    refine pv_aloadn (pc := 18) (n := 0) 0 rfl rfl (fm_dec dtX0_costWhen 9 rfl) ?_
    refine pv_getR (k := 32) (j := 0) (ci := 0) (pc := 19) 3 rfl (by decide) pfl_X0_15 (by decide) rfl (by decide) (fm_dec dtX0_costWhen 10 rfl) ?_
    refine pv_getR (k := 3) (j := 2) (ci := 8) (pc := 22) 6 rfl (by decide) pfl_X0_50 (by decide) rfl (by decide) (fm_dec dtX0_costWhen 11 rfl) ?_
    refine pv_iloadn (pc := 25) (n := 2) 2 rfl rfl (fm_dec dtX0_costWhen 12 rfl) ?_
    refine pv_iald (k := 6) (n := 8) (pc := 26) (by decide) rfl rfl (ix_in hi9 (by omega)) (fm_dec dtX0_costWhen 13 rfl) ?_
    rw [i32_cl hi9]
    refine pv_i2l (pc := 27) (fm_dec dtX0_costWhen 14 rfl) ?_
    refine pv_lmul (pc := 28) (fm_dec dtX0_costWhen 15 rfl) ?_
    exact pv_lreturn (pc := 29) rfl (fm_dec dtX0_costWhen 16 rfl) (hq M _ (fun _ _ _ => rfl) rfl (by have h1 := mul_b (a := 64) (b := D.2.2.2.2 3) (m := 64) (n := 9) (by omega) (by omega) (by omega) (by omega); have e1 := j64 (x := 64) (a := 64) (by decide) g3 (by omega) (by omega); have h2 := mul_b (a := 64 * D.2.2.2.2 3) (b := D.2.1 i 2) (m := 576) (n := 99) (by omega) (by omega) (by omega) (by omega); rw [j64 e1 g2 (by omega) (by omega)]; unfold coA; rw [if_pos (by have h9 := congrArg Int32.toInt hc3; omega)]))
theorem c_xcostT {M : fmM} {Q : fmR → fmM → Prop} {D : dD} {cs : tC} {S : aS} {i : Nat} {x : Int32} (hD : dOk D) (hX : xdw 3 M D) (hL : lwX M cs) (hs : xstT M D S) (ho : stOT D S) (hi : i < D.1) (hx : x.toInt = S.2 i) (hq : ∀ (M' : fmM) (r : Int64), (∀ k j, k ≠ 26 → M'.1 k j = M.1 k j) → M'.2 = M.2 → r.toInt = coS D cs S i → Q (.inl (some (.long r))) M') : pvGood Tx 3 qX0_costWhen [.ref 32, .ref 41, .int (nI i), .int 0, .int x] M Q := c_xcostGT hD hX hL hs ho hi (wk_z0T hs ho) (by have := ho.1; omega) hx (by have h1 := ho.2.2.2.2.2.2.1 i hi; have h2 := ho.1; omega) hq
/-- nothing but the state and the law's own stack has changed -/
def sFrT (M M' : fmM) : Prop := (∀ k j, k ≠ 26 → k ≠ 41 → k ≠ 42 → M'.1 k j = M.1 k j) ∧ (∀ k j, k ≠ 41 → M'.2 k j = M.2 k j)
theorem sFrT.refl (M : fmM) : sFrT M M := ⟨fun _ _ _ _ _ => rfl, fun _ _ _ => rfl⟩
theorem sFrT.trans {M M1 M2 : fmM} (h : sFrT M M1) (h' : sFrT M1 M2) : sFrT M M2 := ⟨fun k j a b c => (h'.1 k j a b c).trans (h.1 k j a b c), fun k j a => (h'.2 k j a).trans (h.2 k j a)⟩
theorem sFrT.put {M M1 : fmM} {k j : Nat} {x : Int32} (h : sFrT M M1) (hk : k = 41 ∨ k = 42) : sFrT M (fmI M1 k j x) := ⟨fun k' j' a b c => by rw [fmI_k _ _ (by omega)]; exact h.1 k' j' a b c, h.2⟩
theorem sFrT.putJ {M M1 : fmM} {j : Nat} {x : Int64} (h : sFrT M M1) : sFrT M (fmJ M1 41 j x) := ⟨h.1, fun k' j' a => by rw [fmJ_k2 a]; exact h.2 k' j' a⟩
def diMT (M : fmM) (L : Int64) (i : Nat) (no : Bool) : fmM := if no then fmI (fmI (fmI (fmJ M 41 6 L) 41 4 (M.1 41 4 + 1)) 41 3 (pvMx true 0 (M.1 41 3 - 2))) 41 1 (M.1 41 1 ||| 1 <<< (nI i &&& 31)) else fmI (fmI (fmI (fmJ M 41 6 L) 41 5 (M.1 41 5 + 1)) 42 i (-1)) 41 1 (M.1 41 1 ||| 1 <<< (nI i &&& 31))
theorem di_stT {M : fmM} {D : dD} {cs : tC} {S : aS} {i : Nat} {L : Int64} (hD : dOk D) (hs : xstT M D S) (ho : stOT D S) (hi : i < D.1) (ht : S.1.2.2.1.testBit i = false) (hL : L.toInt = S.1.2.2.2.2.2 + coS D cs S i) : ∃ S', diS D cs S i = some S' ∧ xstT (diMT M L i (decide (S.2 i = -1))) D S' := by
  obtain ⟨a, b, c, d, e, f, g⟩ := hs
  have d8 := hD.1
  have p8 := pop8_le _ ho.2.2.1
  have hp := ho.2.2.2.1
  have h12 := ho.2.1
  have z0 : (0 : Int32).toInt = 0 := by decide
  have z1 : (1 : Int32).toInt = 1 := by decide
  have z2 : (2 : Int32).toInt = 2 := by decide
  have e1 : M.1 41 1 = nI S.1.2.2.1 := nI_is a (by have := ho.2.2.1; omega)
  have eo : (M.1 41 1 ||| 1 <<< (nI i &&& 31)).toInt = ((S.1.2.2.1 ||| 1 <<< i : Nat) : Int) := by rw [e1]; exact or8n _ ho.2.2.1 i (by omega)
  unfold diS
  rw [if_neg (by rw [ht]; decide)]
  by_cases hm : S.2 i = -1
  · rw [if_pos hm]
    refine ⟨_, rfl, ?_⟩
    have e9 : diMT M L i (decide (S.2 i = -1)) = fmI (fmI (fmI (fmJ M 41 6 L) 41 4 (M.1 41 4 + 1)) 41 3 (pvMx true 0 (M.1 41 3 - 2))) 41 1 (M.1 41 1 ||| 1 <<< (nI i &&& 31)) := by
      unfold diMT
      rw [if_pos (decide_eq_true hm)]
    rw [e9]
    refine ⟨eo, b, ?_, ?_, e, ?_, fun j hj => g j hj⟩
    · show (pvMx true 0 (M.1 41 3 - 2)).toInt = ((S.1.2.1 - 2 : Nat) : Int)
      rw [mxt, sc_sub (by omega) (by omega), z0, z2, c]
      omega
    · show (M.1 41 4 + 1).toInt = ((S.1.2.2.2.1 + 1 : Nat) : Int)
      rw [sc_add (by omega) (by omega)]
      omega
    · show ((fmJ M 41 6 L).2 41 6).toInt = _
      rw [fmJ_s2]
      exact hL
  · rw [if_neg hm]
    refine ⟨_, rfl, ?_⟩
    have e9 : diMT M L i (decide (S.2 i = -1)) = fmI (fmI (fmI (fmJ M 41 6 L) 41 5 (M.1 41 5 + 1)) 42 i (-1)) 41 1 (M.1 41 1 ||| 1 <<< (nI i &&& 31)) := by
      unfold diMT
      rw [if_neg (by rw [decide_eq_true_eq]; exact hm)]
    rw [e9]
    refine ⟨eo, b, c, d, ?_, ?_, fun j hj => ?_⟩
    · show (M.1 41 5 + 1).toInt = ((S.1.2.2.2.2.1 + 1 : Nat) : Int)
      rw [sc_add (by omega) (by omega)]
      omega
    · show ((fmJ M 41 6 L).2 41 6).toInt = _
      rw [fmJ_s2]
      exact hL
    · rw [fmI_k _ _ (by decide), fmI_at]
      by_cases e0 : j = i
      · subst e0
        rw [if_pos ⟨rfl, rfl⟩]
        show (-1 : Int32).toInt = if j = j then -1 else S.2 j
        rw [if_pos rfl]
        decide
      · rw [if_neg (by omega), fmI_k _ _ (by decide)]
        show _ = if j = i then -1 else S.2 j
        rw [if_neg e0]
        exact g j hj
theorem di_frT {M0 M : fmM} {L : Int64} {i : Nat} {no : Bool} (h : sFrT M0 M) : sFrT M0 (diMT M L i no) := by
  unfold diMT
  split
  · exact ((h.putJ.put (Or.inl rfl)).put (Or.inl rfl)).put (Or.inl rfl)
  · exact ((h.putJ.put (Or.inl rfl)).put (Or.inr rfl)).put (Or.inl rfl)
set_option maxRecDepth 20000 in
theorem c_xdieT {M : fmM} {Q : fmR → fmM → Prop} {D : dD} {cs : tC} {S : aS} {i : Nat} (hD : dOk D) (hX : xdw 3 M D) (hL : lwX M cs) (hs : xstT M D S) (ho : stOT D S) (hi : i < D.1) (hn : diS D cs S i = none → Q (.inl (some (.int 0))) M) (hq : ∀ (M' : fmM) (S' : aS), diS D cs S i = some S' → xstT M' D S' → sFrT M M' → Q (.inl (some (.int 1))) M') : pvGood Tx 4 qX0_letDie [.ref 32, .ref 41, .int (nI i)] M Q := by
  refine pvGood_of (Nat.le_of_ble_eq_true rfl) ?_
  show pvEv Tx 4 qX0_letDie 0 [some (.ref 32), some (.ref 41), some (.int (nI i))] [] M Q
  have d8 := hD.1
  have hi9 : (nI i).toInt = (i : Int) := nI_toInt (by omega)
  have g48 := hs.2.2.2.2.2.2 i hi
  have zm : (-1 : Int32).toInt = -1 := (by decide)
  refine pv_aloadn (pc := 0) (n := 1) 1 rfl rfl (fm_dec dtX0_letDie 0 rfl) ?_
  refine pv_iloadn (pc := 1) (n := 2) 2 rfl rfl (fm_dec dtX0_letDie 1 rfl) ?_
  refine pv_invV1 (k := 41) (d' := 0) (pc := 2) pcv_X0_38 (by decide) rfl (Nat.le_of_ble_eq_true rfl) (by decide) (fm_dec dtX0_letDie 2 rfl) ?_
  refine c_xalivT hs ho (by omega) ?_
  refine pv_then1 ?_
  refine pv_if_ne (pc := 5) 10 (by decide) (fm_dec dtX0_letDie 3 rfl) (fun hc5 => ?_) (fun hc5 => ?_)
  · refine pv_aloadn (pc := 10) (n := 1) 1 rfl rfl (fm_dec dtX0_letDie 6 rfl) ?_
    refine pv_dup (pc := 11) rfl (fm_dec dtX0_letDie 7 rfl) ?_
    refine pv_getJ (k := 41) (j := 6) (ci := 6) (pc := 12) pfl_X0_118 (by decide) rfl (by decide) (fm_dec dtX0_letDie 8 rfl) ?_
    refine pv_aloadn (pc := 15) (n := 0) 0 rfl rfl (fm_dec dtX0_letDie 9 rfl) ?_
    refine pv_aloadn (pc := 16) (n := 1) 1 rfl rfl (fm_dec dtX0_letDie 10 rfl) ?_
    refine pv_iloadn (pc := 17) (n := 2) 2 rfl rfl (fm_dec dtX0_letDie 11 rfl) ?_
    refine pv_iconst (pc := 18) (v := 0) (by decide) (fm_dec dtX0_letDie 12 rfl) ?_
    refine pv_aloadn (pc := 19) (n := 1) 1 rfl rfl (fm_dec dtX0_letDie 13 rfl) ?_
    refine pv_getR (k := 41) (j := 0) (ci := 6) (pc := 20) 42 rfl (by decide) pfl_X0_78 (by decide) rfl (by decide) (fm_dec dtX0_letDie 14 rfl) ?_
    refine pv_iloadn (pc := 23) (n := 2) 2 rfl rfl (fm_dec dtX0_letDie 15 rfl) ?_
    refine pv_iald (k := 42) (n := 8) (pc := 24) (by decide) rfl rfl (ix_in hi9 (by omega)) (fm_dec dtX0_letDie 16 rfl) ?_
    rw [i32_cl hi9]
    refine pv_invV4 (k := 32) (d' := 3) (pc := 25) pcv_X0_84 (by decide) rfl (Nat.le_of_ble_eq_true rfl) (by decide) (fm_dec dtX0_letDie 17 rfl) ?_
    refine c_xcostT hD hX hL hs ho hi g48 (fun M25 r25 g25 h25 e25 => ?_)
    refine pv_then1 ?_
    have hs25 : xstT M25 D S := hs.low g25 h25
    have hL9 : (M.2 41 6 + r25).toInt = S.1.2.2.2.2.2 + coS D cs S i := (by have h9 := coS_b (cs := cs) (S := S) hD hi; have p8 := pop8_le _ ho.2.2.1; have l1 := ho.2.2.2.2.1; have l2 := ho.2.2.2.2.2.1; rw [Int64.toInt_add, hs.2.2.2.2.2.1, e25]; exact Int.bmod_eq_of_le (by omega) (by omega))
    refine pv_ladd (pc := 28) (fm_dec dtX0_letDie 18 rfl) ?_
    refine pv_putJ (k := 41) (j := 6) (ci := 6) (pc := 29) pfl_X0_118 (by decide) rfl (by decide) (fm_dec dtX0_letDie 19 rfl) ?_
    refine pv_aloadn (pc := 32) (n := 1) 1 rfl rfl (fm_dec dtX0_letDie 20 rfl) ?_
    refine pv_getR (k := 41) (j := 0) (ci := 6) (pc := 33) 42 rfl (by decide) pfl_X0_78 (by decide) rfl (by decide) (fm_dec dtX0_letDie 21 rfl) ?_
    refine pv_iloadn (pc := 36) (n := 2) 2 rfl rfl (fm_dec dtX0_letDie 22 rfl) ?_
    refine pv_iald (k := 42) (n := 8) (pc := 37) (by decide) rfl rfl (ix_in hi9 (by omega)) (fm_dec dtX0_letDie 23 rfl) ?_
    rw [i32_cl hi9]
    have g48b : (M25.1 42 i).toInt = S.2 i := hs25.2.2.2.2.2.2 i hi
    obtain ⟨S9, e9, h9⟩ := di_stT (L := M.2 41 6 + r25) (cs := cs) hD hs25 ho hi (by cases h8 : S.1.2.2.1.testBit i with | false => rfl | true => rw [h8] at hc5; exact absurd rfl hc5) hL9
    have f9 : sFrT M (diMT M25 (M.2 41 6 + r25) i (decide (S.2 i = -1))) := di_frT ⟨fun k j a b c => g25 k j a, fun k j a => by rw [h25]⟩
    refine pv_iconst (pc := 38) (v := (-1)) (by decide) (fm_dec dtX0_letDie 24 rfl) ?_
    refine pv_icmp_ne (pc := 39) 69 (by decide) (fm_dec dtX0_letDie 25 rfl) (fun hc39 => ?_) (fun hc39 => ?_)
    · refine pv_aloadn (pc := 69) (n := 1) 1 rfl rfl (fm_dec dtX0_letDie 41 rfl) ?_
      refine pv_dup (pc := 70) rfl (fm_dec dtX0_letDie 42 rfl) ?_
      refine pv_getI (k := 41) (j := 5) (ci := 6) (pc := 71) pfl_X0_128 (by decide) rfl (by decide) (fm_dec dtX0_letDie 43 rfl) ?_
      refine pv_iconst (pc := 74) (v := 1) (by decide) (fm_dec dtX0_letDie 44 rfl) ?_
      refine pv_iadd (pc := 75) (fm_dec dtX0_letDie 45 rfl) ?_
      refine pv_putI (k := 41) (j := 5) (ci := 6) (pc := 76) pfl_X0_128 (by decide) rfl (by decide) (fm_dec dtX0_letDie 46 rfl) ?_
      refine pv_aloadn (pc := 79) (n := 1) 1 rfl rfl (fm_dec dtX0_letDie 47 rfl) ?_
      refine pv_getR (k := 41) (j := 0) (ci := 6) (pc := 80) 42 rfl (by decide) pfl_X0_78 (by decide) rfl (by decide) (fm_dec dtX0_letDie 48 rfl) ?_
      refine pv_iloadn (pc := 83) (n := 2) 2 rfl rfl (fm_dec dtX0_letDie 49 rfl) ?_
      refine pv_iconst (pc := 84) (v := (-1)) (by decide) (fm_dec dtX0_letDie 50 rfl) ?_
      refine pv_iast (k := 42) (n := 8) (pc := 85) (by decide) rfl rfl (ix_in hi9 (by omega)) (fm_dec dtX0_letDie 51 rfl) ?_
      rw [i32_cl hi9]
      refine pv_aloadn (pc := 86) (n := 1) 1 rfl rfl (fm_dec dtX0_letDie 52 rfl) ?_
      refine pv_dup (pc := 87) rfl (fm_dec dtX0_letDie 53 rfl) ?_
      refine pv_getI (k := 41) (j := 1) (ci := 6) (pc := 88) pfl_X0_131 (by decide) rfl (by decide) (fm_dec dtX0_letDie 54 rfl) ?_
      refine pv_iconst (pc := 91) (v := 1) (by decide) (fm_dec dtX0_letDie 55 rfl) ?_
      refine pv_iloadn (pc := 92) (n := 2) 2 rfl rfl (fm_dec dtX0_letDie 56 rfl) ?_
      refine pv_ishl (pc := 93) (fm_dec dtX0_letDie 57 rfl) ?_
      refine pv_ior (pc := 94) (fm_dec dtX0_letDie 58 rfl) ?_
      refine pv_putI (k := 41) (j := 1) (ci := 6) (pc := 95) pfl_X0_131 (by decide) rfl (by decide) (fm_dec dtX0_letDie 59 rfl) ?_
      refine pv_iconst (pc := 98) (v := 1) (by decide) (fm_dec dtX0_letDie 60 rfl) ?_
      exact pv_zreturn (pc := 99) rfl (by first | exact Or.inr rfl | exact Or.inl rfl) (fm_dec dtX0_letDie 61 rfl) (by have hm : ¬ S.2 i = -1 := (fun h8 => hc39 (i32_ext (by show (M25.1 42 i).toInt = _; omega))); have e8 : diMT M25 (M.2 41 6 + r25) i (decide (S.2 i = -1)) = fmI (fmI (fmI (fmJ M25 41 6 (M.2 41 6 + r25)) 41 5 (M25.1 41 5 + 1)) 42 i (-1)) 41 1 (M25.1 41 1 ||| 1 <<< (nI i &&& 31)) := (by unfold diMT; rw [if_neg (by rw [decide_eq_true_eq]; exact hm)]); rw [e8] at h9 f9; exact hq _ S9 e9 h9 f9)
    · refine pv_aloadn (pc := 42) (n := 1) 1 rfl rfl (fm_dec dtX0_letDie 26 rfl) ?_
      refine pv_dup (pc := 43) rfl (fm_dec dtX0_letDie 27 rfl) ?_
      refine pv_getI (k := 41) (j := 4) (ci := 6) (pc := 44) pfl_X0_122 (by decide) rfl (by decide) (fm_dec dtX0_letDie 28 rfl) ?_
      refine pv_iconst (pc := 47) (v := 1) (by decide) (fm_dec dtX0_letDie 29 rfl) ?_
      refine pv_iadd (pc := 48) (fm_dec dtX0_letDie 30 rfl) ?_
      refine pv_putI (k := 41) (j := 4) (ci := 6) (pc := 49) pfl_X0_122 (by decide) rfl (by decide) (fm_dec dtX0_letDie 31 rfl) ?_
      refine pv_aloadn (pc := 52) (n := 1) 1 rfl rfl (fm_dec dtX0_letDie 32 rfl) ?_
      refine pv_iconst (pc := 53) (v := 0) (by decide) (fm_dec dtX0_letDie 33 rfl) ?_
      refine pv_aloadn (pc := 54) (n := 1) 1 rfl rfl (fm_dec dtX0_letDie 34 rfl) ?_
      refine pv_getI (k := 41) (j := 3) (ci := 6) (pc := 55) pfl_X0_116 (by decide) rfl (by decide) (fm_dec dtX0_letDie 35 rfl) ?_
      refine pv_iconst (pc := 58) (v := 2) (by decide) (fm_dec dtX0_letDie 36 rfl) ?_
      refine pv_isub (pc := 59) (fm_dec dtX0_letDie 37 rfl) ?_
      refine pv_mm (pc := 60) pmm_X0_125 (by decide) (Nat.le_of_ble_eq_true rfl) (fm_dec dtX0_letDie 38 rfl) ?_
      refine pv_putI (k := 41) (j := 3) (ci := 6) (pc := 63) pfl_X0_116 (by decide) rfl (by decide) (fm_dec dtX0_letDie 39 rfl) ?_
      refine pv_goto (pc := 66) 86 (by decide) (fm_dec dtX0_letDie 40 rfl) ?_
      refine pv_aloadn (pc := 86) (n := 1) 1 rfl rfl (fm_dec dtX0_letDie 52 rfl) ?_
      refine pv_dup (pc := 87) rfl (fm_dec dtX0_letDie 53 rfl) ?_
      refine pv_getI (k := 41) (j := 1) (ci := 6) (pc := 88) pfl_X0_131 (by decide) rfl (by decide) (fm_dec dtX0_letDie 54 rfl) ?_
      refine pv_iconst (pc := 91) (v := 1) (by decide) (fm_dec dtX0_letDie 55 rfl) ?_
      refine pv_iloadn (pc := 92) (n := 2) 2 rfl rfl (fm_dec dtX0_letDie 56 rfl) ?_
      refine pv_ishl (pc := 93) (fm_dec dtX0_letDie 57 rfl) ?_
      refine pv_ior (pc := 94) (fm_dec dtX0_letDie 58 rfl) ?_
      refine pv_putI (k := 41) (j := 1) (ci := 6) (pc := 95) pfl_X0_131 (by decide) rfl (by decide) (fm_dec dtX0_letDie 59 rfl) ?_
      refine pv_iconst (pc := 98) (v := 1) (by decide) (fm_dec dtX0_letDie 60 rfl) ?_
      exact pv_zreturn (pc := 99) rfl (by first | exact Or.inr rfl | exact Or.inl rfl) (fm_dec dtX0_letDie 61 rfl) (by have hm : S.2 i = -1 := (by have h8 := congrArg Int32.toInt hc39; have h7 : (M25.1 42 i).toInt = -1 := h8.trans zm; omega); have e8 : diMT M25 (M.2 41 6 + r25) i (decide (S.2 i = -1)) = fmI (fmI (fmI (fmJ M25 41 6 (M.2 41 6 + r25)) 41 4 (M25.1 41 4 + 1)) 41 3 (pvMx true 0 (M25.1 41 3 - 2))) 41 1 (M25.1 41 1 ||| 1 <<< (nI i &&& 31)) := (by unfold diMT; rw [if_pos (decide_eq_true hm)]); rw [e8] at h9 f9; exact hq _ S9 e9 h9 f9)
  · refine pv_iconst (pc := 8) (v := 0) (by decide) (fm_dec dtX0_letDie 4 rfl) ?_
    exact pv_zreturn (pc := 9) rfl (by first | exact Or.inr rfl | exact Or.inl rfl) (fm_dec dtX0_letDie 5 rfl) (hn (if_pos (by cases h8 : S.1.2.2.1.testBit i with | true => rfl | false => rw [h8] at hc5; exact absurd hc5 (by decide))))
/-- a week has passed for the first n lives -/
def wkPT (D : dD) (S : aS) (n : Nat) (M0 M : fmM) : Prop := (M.1 41 1 = M0.1 41 1 ∧ M.1 41 2 = M0.1 41 2 ∧ M.1 41 3 = M0.1 41 3 ∧ M.1 41 4 = M0.1 41 4 ∧ M.1 41 5 = M0.1 41 5 ∧ M.2 = M0.2) ∧ (∀ i, i < D.1 → (M.1 42 i).toInt = if i < n then (if S.2 i = -1 then -1 else S.2 i + 1) else S.2 i) ∧ ∀ k j, k ≠ 41 → k ≠ 42 → M.1 k j = M0.1 k j
set_option maxRecDepth 20000 in
theorem xwe_loopT {Q : fmR → fmM → Prop} {M0 : fmM} {D : dD} {S : aS} (hD : dOk D) (hX : xdw 3 M0 D) (ho : stOT D S) (hq : ∀ M' : fmM, wkPT D S D.1 M0 M' → Q (.inl (some (.int 1))) M') : ∀ (m : Nat) (n : Nat) (M : fmM), n ≤ D.1 → D.1 - n = m → wkPT D S n M0 M → pvEv Tx 0 qX0_passWeek 35 [some (.ref 32), some (.ref 41), some (.int (nI n))] [] M Q := by
  intro m
  induction m using Nat.strongRecOn with
  | _ m ih =>
    intro n M hnD hm hP
    have d8 := hD.1
    have hn9 : (nI n).toInt = (n : Int) := nI_toInt (by omega)
    refine pv_iloadn (pc := 35) (n := 2) 2 rfl rfl (fm_dec dtX0_passWeek 19 rfl) ?_
    refine pv_aloadn (pc := 36) (n := 0) 0 rfl rfl (fm_dec dtX0_passWeek 20 rfl) ?_
    refine pv_getR (k := 32) (j := 0) (ci := 0) (pc := 37) 3 rfl (by decide) pfl_X0_15 (by decide) rfl (by decide) (fm_dec dtX0_passWeek 21 rfl) ?_
    refine pv_getI (k := 3) (j := 9) (ci := 8) (pc := 40) pfl_X0_75 (by decide) rfl (by decide) (fm_dec dtX0_passWeek 22 rfl) ?_
    refine pv_icmp_ge (pc := 43) 72 (by decide) (fm_dec dtX0_passWeek 23 rfl) (fun hc43 => ?_) (fun hc43 => ?_)
    · refine pv_iconst (pc := 72) (v := 1) (by decide) (fm_dec dtX0_passWeek 40 rfl) ?_
      exact pv_zreturn (pc := 73) rfl (by first | exact Or.inr rfl | exact Or.inl rfl) (fm_dec dtX0_passWeek 41 rfl) (hq M (by have e9 : n = D.1 := (by have h9 : (M.1 3 9).toInt = (D.1 : Int) := (by rw [hP.2.2 3 9 (by decide) (by decide)]; exact hX.1.1); rw [sc_le] at hc43; omega); subst e9; exact hP))
    · have hn : n < D.1 := (by have h9 : (M.1 3 9).toInt = (D.1 : Int) := (by rw [hP.2.2 3 9 (by decide) (by decide)]; exact hX.1.1); rw [sc_le] at hc43; omega)
      have g48 := hP.2.1 n hn
      rw [if_neg (Nat.lt_irrefl n)] at g48
      have bs := ho.2.2.2.2.2.2.1 n hn
      have w2 := ho.1
      refine pv_aloadn (pc := 46) (n := 1) 1 rfl rfl (fm_dec dtX0_passWeek 24 rfl) ?_
      refine pv_getR (k := 41) (j := 0) (ci := 6) (pc := 47) 42 rfl (by decide) pfl_X0_78 (by decide) rfl (by decide) (fm_dec dtX0_passWeek 25 rfl) ?_
      refine pv_iloadn (pc := 50) (n := 2) 2 rfl rfl (fm_dec dtX0_passWeek 26 rfl) ?_
      refine pv_iald (k := 42) (n := 8) (pc := 51) (by decide) rfl rfl (ix_in hn9 (by omega)) (fm_dec dtX0_passWeek 27 rfl) ?_
      rw [i32_cl hn9]
      refine pv_iconst (pc := 52) (v := (-1)) (by decide) (fm_dec dtX0_passWeek 28 rfl) ?_
      refine pv_icmp_eq (pc := 53) 66 (by decide) (fm_dec dtX0_passWeek 29 rfl) (fun hc53 => ?_) (fun hc53 => ?_)
      · refine pv_iincc (pc := 66) 2 1 (by decide) rfl (by decide) rfl (fm_dec dtX0_passWeek 38 rfl) ?_
        dsimp only [List.set_cons_zero, List.set_cons_succ]
        refine pv_goto (pc := 69) 35 (by decide) (fm_dec dtX0_passWeek 39 rfl) ?_
        have hm : S.2 n = -1 := (by have h9 := congrArg Int32.toInt hc53; have zm : (-1 : Int32).toInt = -1 := (by decide); omega)
        rw [nI_succ1]
        exact ih (D.1 - (n + 1)) (by omega) (n + 1) _ (by omega) rfl ⟨hP.1, fun i hi => (by by_cases e : i = n; (subst e; rw [if_pos (Nat.lt_succ_self _), if_pos hm]; omega); (rw [hP.2.1 i hi]; by_cases e2 : i < n; rw [if_pos e2, if_pos (show i < n + 1 by omega)]; rw [if_neg e2, if_neg (show ¬ i < n + 1 by omega)])), hP.2.2⟩
      · refine pv_aloadn (pc := 56) (n := 1) 1 rfl rfl (fm_dec dtX0_passWeek 30 rfl) ?_
        refine pv_getR (k := 41) (j := 0) (ci := 6) (pc := 57) 42 rfl (by decide) pfl_X0_78 (by decide) rfl (by decide) (fm_dec dtX0_passWeek 31 rfl) ?_
        refine pv_iloadn (pc := 60) (n := 2) 2 rfl rfl (fm_dec dtX0_passWeek 32 rfl) ?_
        refine pv_dup2 (pc := 61) rfl rfl (fm_dec dtX0_passWeek 33 rfl) ?_
        refine pv_iald (k := 42) (n := 8) (pc := 62) (by decide) rfl rfl (ix_in hn9 (by omega)) (fm_dec dtX0_passWeek 34 rfl) ?_
        rw [i32_cl hn9]
        refine pv_iconst (pc := 63) (v := 1) (by decide) (fm_dec dtX0_passWeek 35 rfl) ?_
        refine pv_iadd (pc := 64) (fm_dec dtX0_passWeek 36 rfl) ?_
        refine pv_iast (k := 42) (n := 8) (pc := 65) (by decide) rfl rfl (ix_in hn9 (by omega)) (fm_dec dtX0_passWeek 37 rfl) ?_
        rw [i32_cl hn9]
        refine pv_iincc (pc := 66) 2 1 (by decide) rfl (by decide) rfl (fm_dec dtX0_passWeek 38 rfl) ?_
        dsimp only [List.set_cons_zero, List.set_cons_succ]
        refine pv_goto (pc := 69) 35 (by decide) (fm_dec dtX0_passWeek 39 rfl) ?_
        have hm : ¬ S.2 n = -1 := (fun h9 => hc53 (i32_ext (by have zm : (-1 : Int32).toInt = -1 := (by decide); omega)))
        rw [nI_succ1]
        exact ih (D.1 - (n + 1)) (by omega) (n + 1) _ (by omega) rfl ⟨⟨hP.1.1, hP.1.2.1, hP.1.2.2.1, hP.1.2.2.2.1, hP.1.2.2.2.2.1, hP.1.2.2.2.2.2⟩, fun i hi => (by rw [fmI_at]; by_cases e : i = n; (subst e; rw [if_pos ⟨rfl, rfl⟩, if_pos (Nat.lt_succ_self _), if_neg hm]; have z1 : (1 : Int32).toInt = 1 := (by decide); rw [sc_add (by omega) (by omega)]; omega); (rw [if_neg (by omega), hP.2.1 i hi]; by_cases e2 : i < n; rw [if_pos e2, if_pos (show i < n + 1 by omega)]; rw [if_neg e2, if_neg (show ¬ i < n + 1 by omega)])), fun k j a b => (by rw [fmI_k _ _ b]; exact hP.2.2 k j a b)⟩
set_option maxRecDepth 20000 in
theorem c_xweekT {M : fmM} {Q : fmR → fmM → Prop} {D : dD} {S : aS} (hD : dOk D) (hX : xdw 3 M D) (hs : xstT M D S) (ho : stOT D S) (hn : weS D S = none → Q (.inl (some (.int 0))) M) (hq : ∀ (M' : fmM) (S' : aS), weS D S = some S' → xstT M' D S' → sFrT M M' → Q (.inl (some (.int 1))) M') : pvGood Tx 0 qX0_passWeek [.ref 32, .ref 41] M Q := by
  refine pvGood_of (Nat.le_of_ble_eq_true rfl) ?_
  show pvEv Tx 0 qX0_passWeek 0 [some (.ref 32), some (.ref 41), none] [] M Q
  have z200 : (200 : Int32).toInt = 200 := (by decide)
  have g2 := hs.2.1
  have w2 := ho.1
  have b2 := hD.2.2.2.2.1
  refine pv_aloadn (pc := 0) (n := 1) 1 rfl rfl (fm_dec dtX0_passWeek 0 rfl) ?_
  refine pv_getI (k := 41) (j := 2) (ci := 6) (pc := 1) pfl_X0_29 (by decide) rfl (by decide) (fm_dec dtX0_passWeek 1 rfl) ?_
  refine pv_sipush (pc := 4) (v := 200) (by decide) (fm_dec dtX0_passWeek 2 rfl) ?_
  refine pv_icmp_lt (pc := 7) 12 (by decide) (fm_dec dtX0_passWeek 3 rfl) (fun hc7 => ?_) (fun hc7 => ?_)
  · refine pv_aloadn (pc := 12) (n := 1) 1 rfl rfl (fm_dec dtX0_passWeek 6 rfl) ?_
    refine pv_dup (pc := 13) rfl (fm_dec dtX0_passWeek 7 rfl) ?_
    refine pv_getI (k := 41) (j := 2) (ci := 6) (pc := 14) pfl_X0_29 (by decide) rfl (by decide) (fm_dec dtX0_passWeek 8 rfl) ?_
    refine pv_iconst (pc := 17) (v := 1) (by decide) (fm_dec dtX0_passWeek 9 rfl) ?_
    refine pv_iadd (pc := 18) (fm_dec dtX0_passWeek 10 rfl) ?_
    refine pv_putI (k := 41) (j := 2) (ci := 6) (pc := 19) pfl_X0_29 (by decide) rfl (by decide) (fm_dec dtX0_passWeek 11 rfl) ?_
    refine pv_aloadn (pc := 22) (n := 1) 1 rfl rfl (fm_dec dtX0_passWeek 12 rfl) ?_
    refine pv_aloadn (pc := 23) (n := 0) 0 rfl rfl (fm_dec dtX0_passWeek 13 rfl) ?_
    refine pv_getR (k := 32) (j := 0) (ci := 0) (pc := 24) 3 rfl (by decide) pfl_X0_15 (by decide) rfl (by decide) (fm_dec dtX0_passWeek 14 rfl) ?_
    refine pv_getI (k := 3) (j := 11) (ci := 8) (pc := 27) pfl_X0_134 (by decide) rfl (by decide) (fm_dec dtX0_passWeek 15 rfl) ?_
    refine pv_putI (k := 41) (j := 3) (ci := 6) (pc := 30) pfl_X0_116 (by decide) rfl (by decide) (fm_dec dtX0_passWeek 16 rfl) ?_
    refine pv_iconst (pc := 33) (v := 0) (by decide) (fm_dec dtX0_passWeek 17 rfl) ?_
    refine pv_istoren (pc := 34) (n := 2) 2 rfl (by decide) rfl (fm_dec dtX0_passWeek 18 rfl) ?_
    dsimp only [List.set_cons_zero, List.set_cons_succ]
    have hlt : S.1.1 < 200 := (by rw [sc_lt] at hc7; omega)
    refine xwe_loopT (M0 := fmI (fmI M 41 2 (M.1 41 2 + 1)) 41 3 (M.1 3 11)) (S := S) hD (hX.of (fun k j a b => by rw [fmI_k _ _ (by omega), fmI_k _ _ (by omega)])) ho (fun M' hP => ?_) D.1 0 _ (by omega) (by omega) ⟨⟨rfl, rfl, rfl, rfl, rfl, rfl⟩, fun i hi => (by rw [if_neg (Nat.not_lt_zero i)]; exact hs.2.2.2.2.2.2 i hi), fun k j a b => rfl⟩
    refine hq M' _ (if_neg (by omega)) ⟨by rw [hP.1.1]; exact hs.1, ?_, ?_, by rw [hP.1.2.2.2.1]; exact hs.2.2.2.1, by rw [hP.1.2.2.2.2.1]; exact hs.2.2.2.2.1, by rw [hP.1.2.2.2.2.2]; exact hs.2.2.2.2.2.1, fun i hi => (by rw [hP.2.1 i hi, if_pos hi])⟩ ⟨fun k j _ a b => (by rw [hP.2.2 k j a b, fmI_k _ _ a, fmI_k _ _ a]), fun k j a => by rw [hP.1.2.2.2.2.2]; rfl⟩
    · rw [hP.1.2.1]
      show (M.1 41 2 + 1).toInt = ((S.1.1 + 1 : Nat) : Int)
      exact i32_p1 g2 (by omega)
    · rw [hP.1.2.2.1]
      show (M.1 3 11).toInt = (((D.2.2.2.2 2).toNat : Nat) : Int)
      have g11 : (M.1 3 11).toInt = D.2.2.2.2 2 := hX.1.2.2.1
      omega
  · refine pv_iconst (pc := 10) (v := 0) (by decide) (fm_dec dtX0_passWeek 4 rfl) ?_
    exact pv_zreturn (pc := 11) rfl (by first | exact Or.inr rfl | exact Or.inl rfl) (fm_dec dtX0_passWeek 5 rfl) (hn (if_pos (by rw [sc_lt] at hc7; omega)))
theorem do_okT {D : dD} {cs : tC} {S S' : aS} {k i : Nat} (hD : dOk D) (ho : stOT D S) (hi : k < 3 → i < D.1) (h : doS D cs S k i = some S') : stOT D S' := by
  obtain ⟨w2, h12, hd, hp, l1, l2, ha, hd2⟩ := ho
  have pu : ∀ S' : aS, i < D.1 → puS D S i = some S' → stOT D S' := fun S' hi h => by
    unfold puS at h
    split at h
    · cases h
    · cases h
      refine ⟨w2, ?_, hd, hp, l1, l2, ⟨fun j hj => ?_, hd2⟩⟩
      · show S.1.2.1 - hoS D S i ≤ 12
        omega
      · show -1 ≤ (if j = i then (0 : Int) else S.2 j) ∧ (if j = i then (0 : Int) else S.2 j) ≤ (S.1.1 : Int) + 40
        have := ha j hj
        split <;> omega
  have di : ∀ S' : aS, i < D.1 → diS D cs S i = some S' → stOT D S' := fun S' hi h => by
    have d8 := hD.1
    have hc := coS_b (cs := cs) (S := S) hD hi
    unfold diS at h
    split at h
    · cases h
    · rename_i ht
      have ht : S.1.2.2.1.testBit i = false := by simpa using ht
      have hpa := pop8_add _ hd i (by omega) ht
      have hd3 : S.1.2.2.1 ||| 1 <<< i < 2 ^ D.1 := Nat.or_lt_two_pow hd2 (by rw [Nat.shiftLeft_eq, Nat.one_mul]; exact Nat.pow_lt_pow_right (by decide) hi)
      split at h
      · cases h
        refine ⟨w2, ?_, hpa.2, ?_, ?_, ?_, ⟨fun j hj => ha j hj, hd3⟩⟩
        · show S.1.2.1 - 2 ≤ 12
          omega
        · show S.1.2.2.2.1 + 1 + S.1.2.2.2.2.1 ≤ pop8 (S.1.2.2.1 ||| 1 <<< i)
          omega
        · show 0 ≤ S.1.2.2.2.2.2 + coS D cs S i
          omega
        · show S.1.2.2.2.2.2 + coS D cs S i ≤ 57024 * ((pop8 (S.1.2.2.1 ||| 1 <<< i) : Nat) : Int)
          rw [hpa.1]
          omega
      · cases h
        refine ⟨w2, h12, hpa.2, ?_, ?_, ?_, ⟨fun j hj => ?_, hd3⟩⟩
        · show S.1.2.2.2.1 + (S.1.2.2.2.2.1 + 1) ≤ pop8 (S.1.2.2.1 ||| 1 <<< i)
          omega
        · show 0 ≤ S.1.2.2.2.2.2 + coS D cs S i
          omega
        · show S.1.2.2.2.2.2 + coS D cs S i ≤ 57024 * ((pop8 (S.1.2.2.1 ||| 1 <<< i) : Nat) : Int)
          rw [hpa.1]
          omega
        · show -1 ≤ (if j = i then (-1 : Int) else S.2 j) ∧ (if j = i then (-1 : Int) else S.2 j) ≤ (S.1.1 : Int) + 40
          have := ha j hj
          split <;> omega
  have we : ∀ S' : aS, weS D S = some S' → stOT D S' := fun S' h => by
    have b2 := hD.2.2.2.2.1
    unfold weS at h
    split at h
    · cases h
    · cases h
      refine ⟨?_, ?_, hd, hp, l1, l2, ⟨fun j hj => ?_, hd2⟩⟩
      · show S.1.1 + 1 ≤ 200
        omega
      · show (D.2.2.2.2 2).toNat ≤ 12
        omega
      · show -1 ≤ (if S.2 j = -1 then (-1 : Int) else S.2 j + 1) ∧ (if S.2 j = -1 then (-1 : Int) else S.2 j + 1) ≤ ((S.1.1 + 1 : Nat) : Int) + 40
        have := ha j hj
        split <;> omega
  unfold doS at h
  split at h
  · split at h
    · exact pu S' (hi (by decide)) h
    · cases h
  · split at h
    · cases h
    · exact pu S' (hi (by decide)) h
  · exact di S' (hi (by decide)) h
  · exact we S' h
theorem pu_frT {M : fmM} {i : Nat} {h : Int32} : sFrT M (puM2T M i h) := ((sFrT.refl M).put (Or.inl rfl)).put (Or.inr rfl)
/-- all that the first side's queries read -/
def xAqT (M : fmM) (D : dD) (cs : tC) (S : aS) : Prop := dOk D ∧ xdw 3 M D ∧ lwX M cs ∧ xstT M D S ∧ stOT D S
theorem xAqT.low {M M' : fmM} {D : dD} {cs : tC} {S : aS} (h : xAqT M D cs S) (hk : ∀ k j, k ≠ 26 → M'.1 k j = M.1 k j) (h2 : M'.2 = M.2) : xAqT M' D cs S := ⟨h.1, h.2.1.of (fun k j a b => hk k j (by omega)), h.2.2.1.f (hk 23 3 (by decide)) (fun i => hk 24 i (by decide)), h.2.2.2.1.low hk h2, h.2.2.2.2⟩
/-- the same, with any long cells but the state's own -/
theorem xAqT.lowJ {M M' : fmM} {D : dD} {cs : tC} {S : aS} (h : xAqT M D cs S) (hk : ∀ k j, k ≠ 26 → M'.1 k j = M.1 k j) (h2 : M'.2 41 6 = M.2 41 6) : xAqT M' D cs S := ⟨h.1, h.2.1.of (fun k j a b => hk k j (by omega)), h.2.2.1.f (hk 23 3 (by decide)) (fun i => hk 24 i (by decide)), h.2.2.2.1.of (fun k j a => hk k j (by omega)) h2, h.2.2.2.2⟩
theorem ag_bT {D : dD} {S : aS} {i : Nat} (ho : stOT D S) (hi : i < D.1) : -1 ≤ S.2 i ∧ S.2 i ≤ 240 := by
  have h1 := ho.2.2.2.2.2.2.1 i hi
  have h2 := ho.1
  omega
/-- the piece's age, as it stands on the first side -/
theorem ag_xT {M : fmM} {D : dD} {S : aS} {i : Nat} (hs : xstT M D S) (hi : i < D.1) : (M.1 42 i).toInt = S.2 i := hs.2.2.2.2.2.2 i hi
set_option maxRecDepth 20000 in
theorem c_xsvT {M : fmM} {Q : fmR → fmM → Prop} {D : dD} {cs : tC} {S : aS} {i : Nat} (h : xAqT M D cs S) (hi : i < D.1) (hq : ∀ (M' : fmM) (r : Int64), (∀ k j, k ≠ 26 → M'.1 k j = M.1 k j) → M'.2 = M.2 → r.toInt = saS D cs S i → Q (.inl (some (.long r))) M') : pvGood Tx 10 qX0_savedRisk [.ref 32, .ref 41, .int (nI i)] M Q := by
  refine pvGood_of (Nat.le_of_ble_eq_true rfl) ?_
  show pvEv Tx 10 qX0_savedRisk 0 [some (.ref 32), some (.ref 41), some (.int (nI i)), none, none] [] M Q
  have hxq := h
  obtain ⟨hD, hX, hL, hs, ho⟩ := h
  have d8 := hD.1
  have hi9 : (nI i).toInt = (i : Int) := nI_toInt (by omega)
  have hi8 : i < 8 := (by omega)
  have g := ag_xT hs hi
  have g5 : (M.1 5 i).toInt = D.2.1 i 1 := hX.2.1 i hi 1 (by decide)
  have sm := sa_m (cs := cs) (S := S) hD hi
  have c1 := coS_b (cs := cs) (S := S) hD hi
  have c2 := coA_b (cs := cs) (dead := S.1.2.2.1) (w := S.1.1) (age := 0) hD hi
  have z0 : (0 : Int32).toInt = 0 := (by decide)
  refine pv_aloadn (pc := 0) (n := 0) 0 rfl rfl (fm_dec dtX0_savedRisk 0 rfl) ?_
  refine pv_aloadn (pc := 1) (n := 1) 1 rfl rfl (fm_dec dtX0_savedRisk 1 rfl) ?_
  refine pv_iloadn (pc := 2) (n := 2) 2 rfl rfl (fm_dec dtX0_savedRisk 2 rfl) ?_
  refine pv_invV2 (k := 32) (d' := 1) (pc := 3) pcv_X0_95 (by decide) rfl (Nat.le_of_ble_eq_true rfl) (by decide) (fm_dec dtX0_savedRisk 3 rfl) ?_
  refine c_xcanT hD hs ho hi (fun h3a h3b => ?_) (fun h3 => ?_)
  · refine pv_then1 ?_
    refine pv_if_eq (pc := 6) 21 (by decide) (fm_dec dtX0_savedRisk 4 rfl) (fun hc6 => by exfalso; revert hc6; decide) (fun _ => ?_)
    refine pv_aloadn (pc := 9) (n := 0) 0 rfl rfl (fm_dec dtX0_savedRisk 5 rfl) ?_
    refine pv_getR (k := 32) (j := 0) (ci := 0) (pc := 10) 3 rfl (by decide) pfl_X0_15 (by decide) rfl (by decide) (fm_dec dtX0_savedRisk 6 rfl) ?_
    refine pv_getR (k := 3) (j := 1) (ci := 8) (pc := 13) 5 rfl (by decide) pfl_X0_81 (by decide) rfl (by decide) (fm_dec dtX0_savedRisk 7 rfl) ?_
    refine pv_iloadn (pc := 16) (n := 2) 2 rfl rfl (fm_dec dtX0_savedRisk 8 rfl) ?_
    refine pv_iald (k := 5) (n := 8) (pc := 17) (by decide) rfl rfl (ix_in hi9 (by omega)) (fm_dec dtX0_savedRisk 9 rfl) ?_
    rw [i32_cl hi9]
    refine pv_if_ne (pc := 18) 23 (by decide) (fm_dec dtX0_savedRisk 10 rfl) (fun hc18 => ?_) (fun hc18 => ?_)
    · refine pv_aloadn (pc := 23) (n := 0) 0 rfl rfl (fm_dec dtX0_savedRisk 13 rfl) ?_
      refine pv_aloadn (pc := 24) (n := 1) 1 rfl rfl (fm_dec dtX0_savedRisk 14 rfl) ?_
      refine pv_iloadn (pc := 25) (n := 2) 2 rfl rfl (fm_dec dtX0_savedRisk 15 rfl) ?_
      refine pv_iconst (pc := 26) (v := 0) (by decide) (fm_dec dtX0_savedRisk 16 rfl) ?_
      refine pv_aloadn (pc := 27) (n := 1) 1 rfl rfl (fm_dec dtX0_savedRisk 17 rfl) ?_
      refine pv_getR (k := 41) (j := 0) (ci := 6) (pc := 28) 42 rfl (by decide) pfl_X0_78 (by decide) rfl (by decide) (fm_dec dtX0_savedRisk 18 rfl) ?_
      refine pv_iloadn (pc := 31) (n := 2) 2 rfl rfl (fm_dec dtX0_savedRisk 19 rfl) ?_
      refine pv_iald (k := 42) (n := 8) (pc := 32) (by decide) rfl rfl (ix_in hi9 (by omega)) (fm_dec dtX0_savedRisk 20 rfl) ?_
      rw [i32_cl hi9]
      refine pv_invV4 (k := 32) (d' := 3) (pc := 33) pcv_X0_84 (by decide) rfl (Nat.le_of_ble_eq_true rfl) (by decide) (fm_dec dtX0_savedRisk 21 rfl) ?_
      refine c_xcostT hD hX hL hs ho hi g (fun M33 r33 g33 h33 e33 => ?_)
      refine pv_then1 ?_
      refine pv_aloadn (pc := 36) (n := 0) 0 rfl rfl (fm_dec dtX0_savedRisk 22 rfl) ?_
      refine pv_aloadn (pc := 37) (n := 1) 1 rfl rfl (fm_dec dtX0_savedRisk 23 rfl) ?_
      refine pv_iloadn (pc := 38) (n := 2) 2 rfl rfl (fm_dec dtX0_savedRisk 24 rfl) ?_
      refine pv_iconst (pc := 39) (v := 0) (by decide) (fm_dec dtX0_savedRisk 25 rfl) ?_
      refine pv_iconst (pc := 40) (v := 0) (by decide) (fm_dec dtX0_savedRisk 26 rfl) ?_
      refine pv_invV4 (k := 32) (d' := 3) (pc := 41) pcv_X0_84 (by decide) rfl (Nat.le_of_ble_eq_true rfl) (by decide) (fm_dec dtX0_savedRisk 27 rfl) ?_
      refine c_xcostGT (ag := 0) (hxq.low g33 h33).1 (hxq.low g33 h33).2.1 (hxq.low g33 h33).2.2.1 (hxq.low g33 h33).2.2.2.1 ho hi (wk_z0T (hxq.low g33 h33).2.2.2.1 ho) (by have := ho.1; omega) (by decide) (by decide) (fun M41 r41 g41 h41 e41 => ?_)
      refine pv_then1 ?_
      refine pv_lsub (pc := 44) (fm_dec dtX0_savedRisk 28 rfl) ?_
      refine pv_lstoren (pc := 45) (n := 3) 3 rfl (by decide) rfl (fm_dec dtX0_savedRisk 29 rfl) ?_
      dsimp only [List.set_cons_zero, List.set_cons_succ]
      refine pv_lconst (pc := 46) (v := 0) (by decide) (fm_dec dtX0_savedRisk 30 rfl) ?_
      refine pv_aloadn (pc := 47) (n := 0) 0 rfl rfl (fm_dec dtX0_savedRisk 31 rfl) ?_
      refine pv_getR (k := 32) (j := 0) (ci := 0) (pc := 48) 3 rfl (by decide) pfl_X0_15 (by decide) rfl (by decide) (fm_dec dtX0_savedRisk 32 rfl) ?_
      refine pv_getR (k := 3) (j := 1) (ci := 8) (pc := 51) 5 rfl (by decide) pfl_X0_81 (by decide) rfl (by decide) (fm_dec dtX0_savedRisk 33 rfl) ?_
      refine pv_iloadn (pc := 54) (n := 2) 2 rfl rfl (fm_dec dtX0_savedRisk 34 rfl) ?_
      refine pv_iald (k := 5) (n := 8) (pc := 55) (by decide) rfl rfl (ix_in hi9 (by omega)) (fm_dec dtX0_savedRisk 35 rfl) ?_
      rw [i32_cl hi9, (show (M41.1 5 i) = M.1 5 i by rw [g41 5 i (by decide), g33 5 i (by decide)])]
      refine pv_i2l (pc := 56) (fm_dec dtX0_savedRisk 36 rfl) ?_
      refine pv_lloadn (pc := 57) (n := 3) 3 rfl rfl (fm_dec dtX0_savedRisk 37 rfl) ?_
      refine pv_lmul (pc := 58) (fm_dec dtX0_savedRisk 38 rfl) ?_
      refine pv_ml (pc := 59) pln_X0_99 plc_X0_99 pml_X0_99 (by decide) (Nat.le_of_ble_eq_true rfl) (fm_dec dtX0_savedRisk 39 rfl) ?_
      exact pv_lreturn (pc := 62) rfl (fm_dec dtX0_savedRisk 40 rfl) (hq M41 _ (fun k j a => (g41 k j a).trans (g33 k j a)) (h41.trans h33) (by rw [mxl_0, sa_1 h3a h3b, ml_i g5 (sb_j e33 e41 (by omega) (by omega)) (by omega) (by omega)]))
    · refine pv_lconst (pc := 21) (v := 0) (by decide) (fm_dec dtX0_savedRisk 11 rfl) ?_
      exact pv_lreturn (pc := 22) rfl (fm_dec dtX0_savedRisk 12 rfl) (hq M 0 (fun _ _ _ => rfl) rfl (by have e1 : D.2.1 i 1 = 0 := (by rw [← g5, hc18]; exact z0); rw [sa_1 h3a h3b, e1, Int.zero_mul]; decide))
  · refine pv_then1 ?_
    refine pv_if_eq (pc := 6) 21 (by decide) (fm_dec dtX0_savedRisk 4 rfl) (fun _ => ?_) (fun hc6 => by exfalso; revert hc6; decide)
    refine pv_lconst (pc := 21) (v := 0) (by decide) (fm_dec dtX0_savedRisk 11 rfl) ?_
    exact pv_lreturn (pc := 22) rfl (fm_dec dtX0_savedRisk 12 rfl) (hq M 0 (fun _ _ _ => rfl) rfl (by rw [sa_0 h3]; decide))
set_option maxRecDepth 20000 in
theorem xfi_loopT {Q : fmR → fmM → Prop} {M : fmM} {D : dD} {cs : tC} {S : aS} {hm : Int32} {mo : Nat} (h : xAqT M D cs S) (hm9 : hm.toInt = (mo : Int)) (hsv : ∀ j, j < D.1 → (M.2 40 j).toInt = saS D cs S j) : ∀ (m : Nat) (n : Nat) (w : Int32) (a : Int64) (b : Int32) (v9 : Option Value), n ≤ D.1 → D.1 - n = m → w.toInt = fiS (saS D cs S) (hoS D S) mo n → (fiS (saS D cs S) (hoS D S) mo n = -1 → a = 0 ∧ b = 1) ∧ (fiS (saS D cs S) (hoS D S) mo n ≠ -1 → a.toInt = saS D cs S (fiS (saS D cs S) (hoS D S) mo n).toNat ∧ b.toInt = ((hoS D S (fiS (saS D cs S) (hoS D S) mo n).toNat : Nat) : Int)) → (∀ r : Int32, r.toInt = fiS (saS D cs S) (hoS D S) mo D.1 → Q (.inl (some (.int r))) M) → pvEv Tx 20 qX0_firstOf 12 [some (.ref 32), some (.ref 41), some (.ref 40), some (.int hm), some (.int w), some (.long a), none, some (.int b), some (.int (nI n)), v9] [] M Q := by
  intro m
  induction m using Nat.strongRecOn with
  | _ m ih =>
    intro n w a b v9 hnD hm0 hw hab hq
    obtain ⟨hD, hX, hL, hs, ho⟩ := h
    have d8 := hD.1
    have hn9 : (nI n).toInt = (n : Int) := nI_toInt (by omega)
    have h39 : (M.1 3 9).toInt = (D.1 : Int) := hX.1.1
    refine pv_iload (pc := 12) (i := 8) rfl (fm_dec dtX0_firstOf 8 rfl) ?_
    refine pv_aloadn (pc := 14) (n := 0) 0 rfl rfl (fm_dec dtX0_firstOf 9 rfl) ?_
    refine pv_getR (k := 32) (j := 0) (ci := 0) (pc := 15) 3 rfl (by decide) pfl_X0_15 (by decide) rfl (by decide) (fm_dec dtX0_firstOf 10 rfl) ?_
    refine pv_getI (k := 3) (j := 9) (ci := 8) (pc := 18) pfl_X0_75 (by decide) rfl (by decide) (fm_dec dtX0_firstOf 11 rfl) ?_
    refine pv_icmp_ge (pc := 21) 84 (by decide) (fm_dec dtX0_firstOf 12 rfl) (fun hc21 => ?_) (fun hc21 => ?_)
    · refine pv_iload (pc := 84) (i := 4) rfl (fm_dec dtX0_firstOf 47 rfl) ?_
      exact pv_ireturn (pc := 86) rfl (fm_dec dtX0_firstOf 48 rfl) (by have e9 : n = D.1 := (by rw [sc_le] at hc21; omega); subst e9; exact hq _ hw)
    · have hn : n < D.1 := (by rw [sc_le] at hc21; omega)
      have fb := fi_b (sv := saS D cs S) (hr := hoS D S) (most := mo) n
      have sbn := sa_b (cs := cs) (S := S) hD hn
      have hbn := ho_b (S := S) hD hn
      have gn : (M.2 40 n).toInt = saS D cs S n := hsv n hn
      refine pv_iload (pc := 24) (i := 8) rfl (fm_dec dtX0_firstOf 13 rfl) ?_
      refine pv_aloadn (pc := 26) (n := 2) 2 rfl rfl (fm_dec dtX0_firstOf 14 rfl) ?_
      refine pv_alenJ (k := 40) (n := 8) (v := 8) (pc := 27) (by decide) rfl rfl (by decide) (fm_dec dtX0_firstOf 15 rfl) ?_
      refine pv_icmp_ge (pc := 28) 84 (by decide) (fm_dec dtX0_firstOf 16 rfl) (fun hc28 => by exfalso; rw [sc_le] at hc28; have z8 : (8 : Int32).toInt = 8 := (by decide); omega) (fun _ => ?_)
      refine pv_aloadn (pc := 31) (n := 0) 0 rfl rfl (fm_dec dtX0_firstOf 17 rfl) ?_
      refine pv_aloadn (pc := 32) (n := 1) 1 rfl rfl (fm_dec dtX0_firstOf 18 rfl) ?_
      refine pv_iload (pc := 33) (i := 8) rfl (fm_dec dtX0_firstOf 19 rfl) ?_
      refine pv_invV2 (k := 32) (d' := 2) (pc := 35) pcv_X0_113 (by decide) rfl (Nat.le_of_ble_eq_true rfl) (by decide) (fm_dec dtX0_firstOf 20 rfl) ?_
      refine c_xhoursT hD hX hs hn (fun r35 h35 => ?_)
      refine pv_then1 ?_
      refine pv_istore (pc := 38) (i := 9) (by decide) rfl (fm_dec dtX0_firstOf 21 rfl) ?_
      dsimp only [List.set_cons_zero, List.set_cons_succ]
      refine pv_iload (pc := 40) (i := 9) rfl (fm_dec dtX0_firstOf 22 rfl) ?_
      refine pv_iloadn (pc := 42) (n := 3) 3 rfl rfl (fm_dec dtX0_firstOf 23 rfl) ?_
      refine pv_icmp_gt (pc := 43) 78 (by decide) (fm_dec dtX0_firstOf 24 rfl) (fun hc43 => ?_) (fun hc43 => ?_)
      · refine pv_iincc (pc := 78) 8 1 (by decide) rfl (by decide) rfl (fm_dec dtX0_firstOf 45 rfl) ?_
        dsimp only [List.set_cons_zero, List.set_cons_succ]
        refine pv_goto (pc := 81) 12 (by decide) (fm_dec dtX0_firstOf 46 rfl) ?_
        have e9 : fiS (saS D cs S) (hoS D S) mo (n + 1) = fiS (saS D cs S) (hoS D S) mo n := fi_f (by rintro ⟨h1, -⟩; rw [sc_lt] at hc43; omega)
        rw [nI_succ1]
        exact ih (D.1 - (n + 1)) (by omega) (n + 1) _ _ _ _ (by omega) rfl (by rw [e9]; exact hw) (by rw [e9]; exact hab) hq
      · have p1 : (M.2 40 n * b.toInt64).toInt ≤ (a * r35.toInt64).toInt ↔ ¬ (0 < saS D cs S n ∧ (fiS (saS D cs S) (hoS D S) mo n = -1 ∨ saS D cs S (fiS (saS D cs S) (hoS D S) mo n).toNat * hoS D S n < saS D cs S n * hoS D S (fiS (saS D cs S) (hoS D S) mo n).toNat)) := (by
          by_cases e : fiS (saS D cs S) (hoS D S) mo n = -1
          · obtain ⟨ea, eb⟩ := hab.1 e
            rw [ea, eb, mj_i (n := 1) gn (by decide) sbn (by decide), mj_i (a := 0) (n := hoS D S n) (by decide) h35 (by decide) hbn.2, Int.zero_mul]
            constructor
            · rintro h1 ⟨h2, -⟩
              omega
            · intro h1
              have h3 : ¬ 0 < saS D cs S n := fun h4 => h1 ⟨h4, Or.inl e⟩
              omega
          · obtain ⟨ea, eb⟩ := hab.2 e
            have sbb := sa_b (cs := cs) (S := S) (i := (fiS (saS D cs S) (hoS D S) mo n).toNat) hD (by omega)
            have hbb := ho_b (S := S) (i := (fiS (saS D cs S) (hoS D S) mo n).toNat) hD (by omega)
            have hp := fb.2.2 e
            rw [mj_i gn eb sbn hbb.2, mj_i ea h35 sbb hbn.2]
            constructor
            · rintro h1 ⟨-, h2 | h2⟩
              · exact e h2
              · omega
            · intro h1
              rcases Int.lt_or_le (saS D cs S (fiS (saS D cs S) (hoS D S) mo n).toNat * (hoS D S n : Int)) (saS D cs S n * (hoS D S (fiS (saS D cs S) (hoS D S) mo n).toNat : Int)) with h2 | h2
              · refine absurd ⟨?_, Or.inr h2⟩ h1
                rcases Int.lt_or_le 0 (saS D cs S n) with h3 | h3
                · exact h3
                · have h4 : saS D cs S n = 0 := (by omega)
                  rw [h4, Int.zero_mul] at h2
                  have h5 := (mj_b sbb hbn.2).1
                  omega
              · exact h2)
        refine pv_aloadn (pc := 46) (n := 2) 2 rfl rfl (fm_dec dtX0_firstOf 25 rfl) ?_
        refine pv_iload (pc := 47) (i := 8) rfl (fm_dec dtX0_firstOf 26 rfl) ?_
        refine pv_lald (k := 40) (n := 8) (pc := 49) (by decide) rfl rfl (ix_in hn9 (by omega)) (fm_dec dtX0_firstOf 27 rfl) ?_
        rw [i32_cl hn9]
        refine pv_iload (pc := 50) (i := 7) rfl (fm_dec dtX0_firstOf 28 rfl) ?_
        refine pv_i2l (pc := 52) (fm_dec dtX0_firstOf 29 rfl) ?_
        refine pv_lmul (pc := 53) (fm_dec dtX0_firstOf 30 rfl) ?_
        refine pv_lload (pc := 54) (i := 5) rfl (fm_dec dtX0_firstOf 31 rfl) ?_
        refine pv_iload (pc := 56) (i := 9) rfl (fm_dec dtX0_firstOf 32 rfl) ?_
        refine pv_i2l (pc := 58) (fm_dec dtX0_firstOf 33 rfl) ?_
        refine pv_lmul (pc := 59) (fm_dec dtX0_firstOf 34 rfl) ?_
        refine pv_lcmp (pc := 60) (fm_dec dtX0_firstOf 35 rfl) ?_
        refine pv_if_le (pc := 61) 78 (by decide) (fm_dec dtX0_firstOf 36 rfl) (fun hc61 => ?_) (fun hc61 => ?_)
        · refine pv_iincc (pc := 78) 8 1 (by decide) rfl (by decide) rfl (fm_dec dtX0_firstOf 45 rfl) ?_
          dsimp only [List.set_cons_zero, List.set_cons_succ]
          refine pv_goto (pc := 81) 12 (by decide) (fm_dec dtX0_firstOf 46 rfl) ?_
          have e9 : fiS (saS D cs S) (hoS D S) mo (n + 1) = fiS (saS D cs S) (hoS D S) mo n := fi_f (by rintro ⟨-, h1⟩; exact p1.mp (lc_gt.mp hc61) h1)
          rw [nI_succ1]
          exact ih (D.1 - (n + 1)) (by omega) (n + 1) _ _ _ _ (by omega) rfl (by rw [e9]; exact hw) (by rw [e9]; exact hab) hq
        · refine pv_iload (pc := 64) (i := 8) rfl (fm_dec dtX0_firstOf 37 rfl) ?_
          refine pv_istore (pc := 66) (i := 4) (by decide) rfl (fm_dec dtX0_firstOf 38 rfl) ?_
          dsimp only [List.set_cons_zero, List.set_cons_succ]
          refine pv_aloadn (pc := 68) (n := 2) 2 rfl rfl (fm_dec dtX0_firstOf 39 rfl) ?_
          refine pv_iload (pc := 69) (i := 8) rfl (fm_dec dtX0_firstOf 40 rfl) ?_
          refine pv_lald (k := 40) (n := 8) (pc := 71) (by decide) rfl rfl (ix_in hn9 (by omega)) (fm_dec dtX0_firstOf 41 rfl) ?_
          rw [i32_cl hn9]
          refine pv_lstore (pc := 72) (i := 5) (by decide) rfl (fm_dec dtX0_firstOf 42 rfl) ?_
          dsimp only [List.set_cons_zero, List.set_cons_succ]
          refine pv_iload (pc := 74) (i := 9) rfl (fm_dec dtX0_firstOf 43 rfl) ?_
          refine pv_istore (pc := 76) (i := 7) (by decide) rfl (fm_dec dtX0_firstOf 44 rfl) ?_
          dsimp only [List.set_cons_zero, List.set_cons_succ]
          refine pv_iincc (pc := 78) 8 1 (by decide) rfl (by decide) rfl (fm_dec dtX0_firstOf 45 rfl) ?_
          dsimp only [List.set_cons_zero, List.set_cons_succ]
          refine pv_goto (pc := 81) 12 (by decide) (fm_dec dtX0_firstOf 46 rfl) ?_
          have e9 : fiS (saS D cs S) (hoS D S) mo (n + 1) = (n : Int) := fi_t ⟨by rw [sc_lt] at hc43; omega, Classical.not_not.mp (fun h1 => hc61 (lc_gt.mpr (p1.mpr h1)))⟩
          rw [nI_succ1]
          exact ih (D.1 - (n + 1)) (by omega) (n + 1) _ _ _ _ (by omega) rfl (by rw [e9]; exact hn9) (by rw [e9, Int.toNat_natCast]; exact ⟨fun e => absurd e (by omega), fun _ => ⟨gn, h35⟩⟩) hq
set_option maxRecDepth 20000 in
theorem c_xfoT {M : fmM} {Q : fmR → fmM → Prop} {D : dD} {cs : tC} {S : aS} {hm : Int32} {mo : Nat} (h : xAqT M D cs S) (hm9 : hm.toInt = (mo : Int)) (hsv : ∀ j, j < D.1 → (M.2 40 j).toInt = saS D cs S j) (hq : ∀ r : Int32, r.toInt = fiS (saS D cs S) (hoS D S) mo D.1 → Q (.inl (some (.int r))) M) : pvGood Tx 21 qX0_firstOf [.ref 32, .ref 41, .ref 40, .int hm] M Q := by
  refine pvGood_of (Nat.le_of_ble_eq_true rfl) ?_
  show pvEv Tx 21 qX0_firstOf 0 [some (.ref 32), some (.ref 41), some (.ref 40), some (.int hm), none, none, none, none, none, none] [] M Q
  refine pv_iconst (pc := 0) (v := (-1)) (by decide) (fm_dec dtX0_firstOf 0 rfl) ?_
  refine pv_istore (pc := 1) (i := 4) (by decide) rfl (fm_dec dtX0_firstOf 1 rfl) ?_
  dsimp only [List.set_cons_zero, List.set_cons_succ]
  refine pv_lconst (pc := 3) (v := 0) (by decide) (fm_dec dtX0_firstOf 2 rfl) ?_
  refine pv_lstore (pc := 4) (i := 5) (by decide) rfl (fm_dec dtX0_firstOf 3 rfl) ?_
  dsimp only [List.set_cons_zero, List.set_cons_succ]
  refine pv_iconst (pc := 6) (v := 1) (by decide) (fm_dec dtX0_firstOf 4 rfl) ?_
  refine pv_istore (pc := 7) (i := 7) (by decide) rfl (fm_dec dtX0_firstOf 5 rfl) ?_
  dsimp only [List.set_cons_zero, List.set_cons_succ]
  refine pv_iconst (pc := 9) (v := 0) (by decide) (fm_dec dtX0_firstOf 6 rfl) ?_
  refine pv_istore (pc := 10) (i := 8) (by decide) rfl (fm_dec dtX0_firstOf 7 rfl) ?_
  dsimp only [List.set_cons_zero, List.set_cons_succ]
  exact (xfi_loopT h hm9 hsv D.1 0 _ _ _ _ (Nat.zero_le _) rfl (by show (-1 : Int32).toInt = (-1 : Int); decide) ⟨fun _ => ⟨rfl, rfl⟩, fun e => absurd rfl e⟩ hq).up (by decide)
/-- what years leave on the first side -/
def yFr (M M' : fmM) : Prop := (∀ k j, k ≠ 26 → ¬ (39 ≤ k ∧ k ≤ 42) → M'.1 k j = M.1 k j) ∧ (∀ k j, k ≠ 40 → k ≠ 41 → M'.2 k j = M.2 k j)
theorem yFr.refl (M : fmM) : yFr M M := ⟨fun _ _ _ _ => rfl, fun _ _ _ _ => rfl⟩
theorem yFr.tr {M M1 M2 : fmM} (h : yFr M M1) (h' : yFr M1 M2) : yFr M M2 := ⟨fun k j a b => (h'.1 k j a b).trans (h.1 k j a b), fun k j a b => (h'.2 k j a b).trans (h.2 k j a b)⟩
theorem yFr.p39 {M0 M : fmM} {j : Nat} {v : Int32} (h : yFr M0 M) : yFr M0 (fmI M 39 j v) := ⟨fun k j' a b => by rw [fmI_k _ _ (by omega)]; exact h.1 k j' a b, h.2⟩
theorem yFr.s {M0 M M' : fmM} (h : yFr M0 M) (f : sFrT M M') : yFr M0 M' := ⟨fun k j a b => (f.1 k j a (by omega) (by omega)).trans (h.1 k j a b), fun k j a b => (f.2 k j b).trans (h.2 k j a b)⟩
theorem yFr.p40 {M0 M : fmM} {j : Nat} {v : Int64} (h : yFr M0 M) : yFr M0 (fmJ M 40 j v) := ⟨h.1, fun k j' a b => by rw [fmJ_k2 a]; exact h.2 k j' a b⟩
theorem xAqT.p39 {M : fmM} {D : dD} {cs : tC} {S : aS} {j : Nat} {v : Int32} (h : xAqT M D cs S) : xAqT (fmI M 39 j v) D cs S := ⟨h.1, h.2.1.of (fun k j' a b => by rw [fmI_k _ _ (by omega)]), h.2.2.1.f (by rw [fmI_k _ _ (by decide)]) (fun i => by rw [fmI_k _ _ (by decide)]), h.2.2.2.1.of (fun k j' a => by rw [fmI_k _ _ (by omega)]) rfl, h.2.2.2.2⟩
theorem xAqT.p40 {M : fmM} {D : dD} {cs : tC} {S : aS} {j : Nat} {v : Int64} (h : xAqT M D cs S) : xAqT (fmJ M 40 j v) D cs S := ⟨h.1, h.2.1.of (fun k j' a b => rfl), h.2.2.1.f rfl (fun i => rfl), h.2.2.2.1.of (fun k j' a => rfl) (by rw [fmJ_k2 (by decide)]), h.2.2.2.2⟩
theorem xAqT.s {M M' : fmM} {D : dD} {cs : tC} {S S' : aS} (h : xAqT M D cs S) (f : sFrT M M') (hs : xstT M' D S') (ho : stOT D S') : xAqT M' D cs S' := ⟨h.1, h.2.1.of (fun k j a b => f.1 k j (by omega) (by omega) (by omega)), h.2.2.1.f (f.1 23 3 (by decide) (by decide) (by decide)) (fun i => f.1 24 i (by decide) (by decide) (by decide)), hs, ho⟩
theorem pu_okT {D : dD} {cs : tC} {S S' : aS} {i : Nat} (hD : dOk D) (ho : stOT D S) (hi : i < D.1) (h : puS D S i = some S') : stOT D S' := by
  by_cases e : S.2 i = -1
  · exact do_okT (cs := cs) (k := 0) hD ho (fun _ => hi) ((if_pos e).trans h)
  · exact do_okT (cs := cs) (k := 1) hD ho (fun _ => hi) ((if_neg e).trans h)
theorem we_okT {D : dD} {S S' : aS} (hD : dOk D) (ho : stOT D S) (h : weS D S = some S') : stOT D S' := do_okT (cs := []) (k := 3) (i := 0) hD ho (fun h => absurd h (by decide)) h
set_option maxRecDepth 20000 in
theorem c_xdr {M : fmM} {Q : fmR → fmM → Prop}  (hq : ∀ r : Int32, r.toInt = ((drS (lcS (M.1 39 4)) : Nat) : Int) → Q (.inl (some (.int r))) (fmI M 39 4 (lcS (M.1 39 4)))) : pvGood Tx 0 qX4_drawOf64 [.ref 39] M Q := by
  refine pvGood_of (Nat.le_of_ble_eq_true rfl) ?_
  show pvEv Tx 0 qX4_drawOf64 0 [some (.ref 39)] [] M Q
  refine pv_aloadn (pc := 0) (n := 0) 0 rfl rfl (fm_dec dtX4_drawOf64 0 rfl) ?_
  refine pv_aloadn (pc := 1) (n := 0) 0 rfl rfl (fm_dec dtX4_drawOf64 1 rfl) ?_
  refine pv_getI (k := 39) (j := 4) (ci := 4) (pc := 2) pfl_X4_44 (by decide) rfl (by decide) (fm_dec dtX4_drawOf64 2 rfl) ?_
  refine pv_ldc (pc := 5) pkc_X4_59 (fm_dec dtX4_drawOf64 3 rfl) ?_
  refine pv_imul (pc := 7) (fm_dec dtX4_drawOf64 4 rfl) ?_
  refine pv_sipush (pc := 8) (v := 12345) (by decide) (fm_dec dtX4_drawOf64 5 rfl) ?_
  refine pv_iadd (pc := 11) (fm_dec dtX4_drawOf64 6 rfl) ?_
  refine pv_putI (k := 39) (j := 4) (ci := 4) (pc := 12) pfl_X4_44 (by decide) rfl (by decide) (fm_dec dtX4_drawOf64 7 rfl) ?_
  refine pv_aloadn (pc := 15) (n := 0) 0 rfl rfl (fm_dec dtX4_drawOf64 8 rfl) ?_
  refine pv_getI (k := 39) (j := 4) (ci := 4) (pc := 16) pfl_X4_44 (by decide) rfl (by decide) (fm_dec dtX4_drawOf64 9 rfl) ?_
  rw [fmI_s]
  refine pv_bipush (pc := 19) (v := 16) (by decide) (fm_dec dtX4_drawOf64 10 rfl) ?_
  refine pv_iushr (pc := 21) (fm_dec dtX4_drawOf64 11 rfl) ?_
  refine pv_sipush (pc := 22) (v := 32767) (by decide) (fm_dec dtX4_drawOf64 12 rfl) ?_
  refine pv_iand (pc := 25) (fm_dec dtX4_drawOf64 13 rfl) ?_
  refine pv_bipush (pc := 26) (v := 64) (by decide) (fm_dec dtX4_drawOf64 14 rfl) ?_
  refine pv_irem (pc := 28) (by decide) (fm_dec dtX4_drawOf64 15 rfl) ?_
  exact pv_ireturn (pc := 29) rfl (fm_dec dtX4_drawOf64 16 rfl) (hq _ (dr_x _))
set_option maxRecDepth 20000 in
theorem xyd_loop {Q : fmR → fmM → Prop} {M0 : fmM} {D : dD} {cs : tC} {p : aS × Int32} (hq : ∀ M' : fmM, xAqT M' D cs (ydS D cs D.1 p).1 → M'.1 39 4 = (ydS D cs D.1 p).2 → M'.1 39 1 = M0.1 39 1 → yFr M0 M' → Q (.inl none) M') : ∀ (m : Nat) (n : Nat) (M : fmM), xAqT M D cs (ydS D cs n p).1 → M.1 39 4 = (ydS D cs n p).2 → M.1 39 1 = M0.1 39 1 → yFr M0 M → n ≤ D.1 → D.1 - n = m → pvEv Tx 10 qX4_drawDeaths 2 [some (.ref 39), some (.int (nI n))] [] M Q := by
  intro m
  induction m using Nat.strongRecOn with
  | _ m ih =>
    intro n M h hs4 hw1 hf hnD hm
    have d8 := h.1.1
    have hn9 : (nI n).toInt = (n : Int) := nI_toInt (by omega)
    have h39 : (M.1 3 9).toInt = (D.1 : Int) := h.2.1.1.1
    refine pv_iloadn (pc := 2) (n := 1) 1 rfl rfl (fm_dec dtX4_drawDeaths 2 rfl) ?_
    refine pv_aloadn (pc := 3) (n := 0) 0 rfl rfl (fm_dec dtX4_drawDeaths 3 rfl) ?_
    refine pv_getR (k := 39) (j := 2) (ci := 4) (pc := 4) 32 rfl (by decide) pfl_X4_22 (by decide) rfl (by decide) (fm_dec dtX4_drawDeaths 4 rfl) ?_
    refine pv_getR (k := 32) (j := 0) (ci := 0) (pc := 7) 3 rfl (by decide) pfl_X4_60 (by decide) rfl (by decide) (fm_dec dtX4_drawDeaths 5 rfl) ?_
    refine pv_getI (k := 3) (j := 9) (ci := 8) (pc := 10) pfl_X4_64 (by decide) rfl (by decide) (fm_dec dtX4_drawDeaths 6 rfl) ?_
    refine pv_icmp_ge (pc := 13) 65 (by decide) (fm_dec dtX4_drawDeaths 7 rfl) (fun hc13 => ?_) (fun hc13 => ?_)
    · exact pv_return (pc := 65) rfl (fm_dec dtX4_drawDeaths 31 rfl) (by have e9 : n = D.1 := (by rw [sc_le] at hc13; omega); subst e9; exact hq M h hs4 hw1 hf)
    · have hn : n < D.1 := (by rw [sc_le] at hc13; omega)
      have g5 : (M.1 5 n).toInt = D.2.1 n 1 := h.2.1.2.1 n hn 1 (by decide)
      refine pv_aloadn (pc := 16) (n := 0) 0 rfl rfl (fm_dec dtX4_drawDeaths 8 rfl) ?_
      refine pv_getR (k := 39) (j := 0) (ci := 4) (pc := 17) 41 rfl (by decide) pfl_X4_12 (by decide) rfl (by decide) (fm_dec dtX4_drawDeaths 9 rfl) ?_
      refine pv_iloadn (pc := 20) (n := 1) 1 rfl rfl (fm_dec dtX4_drawDeaths 10 rfl) ?_
      refine pv_invV1 (k := 41) (d' := 0) (pc := 21) pcv_X4_69 (by decide) rfl (Nat.le_of_ble_eq_true rfl) (by decide) (fm_dec dtX4_drawDeaths 11 rfl) ?_
      refine c_xalivT h.2.2.2.1 h.2.2.2.2 (show n < 8 by omega) ?_
      refine pv_then1 ?_
      refine pv_if_eq (pc := 24) 59 (by decide) (fm_dec dtX4_drawDeaths 12 rfl) (fun hc24 => ?_) (fun hc24 => ?_)
      · refine pv_iincc (pc := 59) 1 1 (by decide) rfl (by decide) rfl (fm_dec dtX4_drawDeaths 29 rfl) ?_
        dsimp only [List.set_cons_zero, List.set_cons_succ]
        refine pv_goto (pc := 62) 2 (by decide) (fm_dec dtX4_drawDeaths 30 rfl) ?_
        rw [nI_succ1]
        have e9 := yd_d (D := D) (cs := cs) (n := n) (p := p) (al_b hc24)
        exact ih (D.1 - (n + 1)) (by omega) (n + 1) M (by rw [e9]; exact h) (by rw [e9]; exact hs4) hw1 hf (by omega) rfl
      · refine pv_aloadn (pc := 27) (n := 0) 0 rfl rfl (fm_dec dtX4_drawDeaths 13 rfl) ?_
        refine pv_invV0 (k := 39) (d' := 0) (pc := 28) pcv_X4_73 (by decide) rfl (Nat.le_of_ble_eq_true rfl) (by decide) (fm_dec dtX4_drawDeaths 14 rfl) ?_
        refine c_xdr (fun r28 h28 => ?_)
        refine pv_then1 ?_
        have e28 : r28.toInt = ((drS (lcS (ydS D cs n p).2) : Nat) : Int) := (by rw [h28, hs4])
        have h9 := h.p39 (j := 4) (v := lcS (M.1 39 4))
        refine pv_aloadn (pc := 31) (n := 0) 0 rfl rfl (fm_dec dtX4_drawDeaths 15 rfl) ?_
        refine pv_getR (k := 39) (j := 2) (ci := 4) (pc := 32) 32 rfl (by decide) pfl_X4_22 (by decide) rfl (by decide) (fm_dec dtX4_drawDeaths 16 rfl) ?_
        refine pv_getR (k := 32) (j := 0) (ci := 0) (pc := 35) 3 rfl (by decide) pfl_X4_60 (by decide) rfl (by decide) (fm_dec dtX4_drawDeaths 17 rfl) ?_
        refine pv_getR (k := 3) (j := 1) (ci := 8) (pc := 38) 5 rfl (by decide) pfl_X4_77 (by decide) rfl (by decide) (fm_dec dtX4_drawDeaths 18 rfl) ?_
        refine pv_iloadn (pc := 41) (n := 1) 1 rfl rfl (fm_dec dtX4_drawDeaths 19 rfl) ?_
        refine pv_iald (k := 5) (n := 8) (pc := 42) (by decide) rfl rfl (ix_in hn9 (by omega)) (fm_dec dtX4_drawDeaths 20 rfl) ?_
        rw [i32_cl hn9, fmI_k _ _ (show (5 : Nat) ≠ 39 by decide)]
        refine pv_icmp_ge (pc := 43) 59 (by decide) (fm_dec dtX4_drawDeaths 21 rfl) (fun hc43 => ?_) (fun hc43 => ?_)
        · refine pv_iincc (pc := 59) 1 1 (by decide) rfl (by decide) rfl (fm_dec dtX4_drawDeaths 29 rfl) ?_
          dsimp only [List.set_cons_zero, List.set_cons_succ]
          refine pv_goto (pc := 62) 2 (by decide) (fm_dec dtX4_drawDeaths 30 rfl) ?_
          rw [nI_succ1]
          have e9 := yd_n (D := D) (cs := cs) (n := n) (p := p) (al_n hc24) (by rw [sc_le] at hc43; omega)
          exact ih (D.1 - (n + 1)) (by omega) (n + 1) _ (by rw [e9]; exact h9) (by rw [e9, fmI_s, hs4]) (by rw [fmI_j _ _ (by decide)]; exact hw1) hf.p39 (by omega) rfl
        · refine pv_aloadn (pc := 46) (n := 0) 0 rfl rfl (fm_dec dtX4_drawDeaths 22 rfl) ?_
          refine pv_getR (k := 39) (j := 2) (ci := 4) (pc := 47) 32 rfl (by decide) pfl_X4_22 (by decide) rfl (by decide) (fm_dec dtX4_drawDeaths 23 rfl) ?_
          refine pv_aloadn (pc := 50) (n := 0) 0 rfl rfl (fm_dec dtX4_drawDeaths 24 rfl) ?_
          refine pv_getR (k := 39) (j := 0) (ci := 4) (pc := 51) 41 rfl (by decide) pfl_X4_12 (by decide) rfl (by decide) (fm_dec dtX4_drawDeaths 25 rfl) ?_
          refine pv_iloadn (pc := 54) (n := 1) 1 rfl rfl (fm_dec dtX4_drawDeaths 26 rfl) ?_
          refine pv_invV2 (k := 32) (d' := 4) (pc := 55) pcv_X4_81 (by decide) rfl (Nat.le_of_ble_eq_true rfl) (by decide) (fm_dec dtX4_drawDeaths 27 rfl) ?_
          refine c_xdieT h9.1 h9.2.1 h9.2.2.1 h9.2.2.2.1 h9.2.2.2.2 hn (fun h55 => ?_) (fun M55 S55 h55 x55 f55 => ?_)
          · refine pv_then1 ?_
            refine pv_pop (pc := 58) rfl (fm_dec dtX4_drawDeaths 28 rfl) ?_
            refine pv_iincc (pc := 59) 1 1 (by decide) rfl (by decide) rfl (fm_dec dtX4_drawDeaths 29 rfl) ?_
            dsimp only [List.set_cons_zero, List.set_cons_succ]
            refine pv_goto (pc := 62) 2 (by decide) (fm_dec dtX4_drawDeaths 30 rfl) ?_
            exact absurd (di_no h55) (by rw [al_n hc24]; decide)
          · refine pv_then1 ?_
            refine pv_pop (pc := 58) rfl (fm_dec dtX4_drawDeaths 28 rfl) ?_
            refine pv_iincc (pc := 59) 1 1 (by decide) rfl (by decide) rfl (fm_dec dtX4_drawDeaths 29 rfl) ?_
            dsimp only [List.set_cons_zero, List.set_cons_succ]
            refine pv_goto (pc := 62) 2 (by decide) (fm_dec dtX4_drawDeaths 30 rfl) ?_
            rw [nI_succ1]
            have e9 := yd_x (D := D) (cs := cs) (n := n) (p := p) (al_n hc24) (by rw [sc_le] at hc43; omega) h55
            exact ih (D.1 - (n + 1)) (by omega) (n + 1) M55 (by rw [e9]; exact h9.s f55 x55 (do_okT (cs := cs) (k := 2) h9.1 h9.2.2.2.2 (fun _ => hn) h55)) (by rw [e9, f55.1 39 4 (by decide) (by decide) (by decide), fmI_s, hs4]) (by rw [f55.1 39 1 (by decide) (by decide) (by decide), fmI_j _ _ (by decide)]; exact hw1) (hf.p39.s f55) (by omega) rfl
set_option maxRecDepth 20000 in
theorem c_xdd {M : fmM} {Q : fmR → fmM → Prop} {D : dD} {cs : tC} {p : aS × Int32} (h : xAqT M D cs p.1) (h4 : M.1 39 4 = p.2) (hq : ∀ M' : fmM, xAqT M' D cs (ydS D cs D.1 p).1 → M'.1 39 4 = (ydS D cs D.1 p).2 → M'.1 39 1 = M.1 39 1 → yFr M M' → Q (.inl none) M') : pvGood Tx 11 qX4_drawDeaths [.ref 39] M Q := by
  refine pvGood_of (Nat.le_of_ble_eq_true rfl) ?_
  show pvEv Tx 11 qX4_drawDeaths 0 [some (.ref 39), none] [] M Q
  refine pv_iconst (pc := 0) (v := 0) (by decide) (fm_dec dtX4_drawDeaths 0 rfl) ?_
  refine pv_istoren (pc := 1) (n := 1) 1 rfl (by decide) rfl (fm_dec dtX4_drawDeaths 1 rfl) ?_
  dsimp only [List.set_cons_zero, List.set_cons_succ]
  exact (xyd_loop hq D.1 0 M h h4 rfl (yFr.refl M) (Nat.zero_le _) rfl).up (by decide)
set_option maxRecDepth 20000 in
theorem xyp_1 {Q : fmR → fmM → Prop} {M0 : fmM} {D : dD} {cs : tC} {S : aS} (hq : ∀ (M : fmM) (k9 : Int32) (v2 : Option Value), xAqT M D cs S → (∀ j, j < D.1 → (M.2 40 j).toInt = saS D cs S j) → M.1 39 4 = M0.1 39 4 → M.1 39 1 = M0.1 39 1 → yFr M0 M → pvEv Tx 22 qX4_putFirsts 40 [some (.ref 39), some (.int k9), v2] [] M Q) : ∀ (m : Nat) (n : Nat) (M : fmM) (v2 : Option Value), xAqT M D cs S → (∀ j, j < n → (M.2 40 j).toInt = saS D cs S j) → M.1 39 4 = M0.1 39 4 → M.1 39 1 = M0.1 39 1 → yFr M0 M → n ≤ D.1 → D.1 - n = m → pvEv Tx 22 qX4_putFirsts 2 [some (.ref 39), some (.int (nI n)), v2] [] M Q := by
  intro m
  induction m using Nat.strongRecOn with
  | _ m ih =>
    intro n M v2 h hsv h4 h1 hf hnD hm
    have d8 := h.1.1
    have hn9 : (nI n).toInt = (n : Int) := nI_toInt (by omega)
    have h39 : (M.1 3 9).toInt = (D.1 : Int) := h.2.1.1.1
    refine pv_iloadn (pc := 2) (n := 1) 1 rfl rfl (fm_dec dtX4_putFirsts 2 rfl) ?_
    refine pv_aloadn (pc := 3) (n := 0) 0 rfl rfl (fm_dec dtX4_putFirsts 3 rfl) ?_
    refine pv_getR (k := 39) (j := 2) (ci := 4) (pc := 4) 32 rfl (by decide) pfl_X4_22 (by decide) rfl (by decide) (fm_dec dtX4_putFirsts 4 rfl) ?_
    refine pv_getR (k := 32) (j := 0) (ci := 0) (pc := 7) 3 rfl (by decide) pfl_X4_60 (by decide) rfl (by decide) (fm_dec dtX4_putFirsts 5 rfl) ?_
    refine pv_getI (k := 3) (j := 9) (ci := 8) (pc := 10) pfl_X4_64 (by decide) rfl (by decide) (fm_dec dtX4_putFirsts 6 rfl) ?_
    refine pv_icmp_ge (pc := 13) 40 (by decide) (fm_dec dtX4_putFirsts 7 rfl) (fun hc13 => ?_) (fun hc13 => ?_)
    · have e9 : n = D.1 := (by rw [sc_le] at hc13; omega)
      subst e9
      exact hq M _ _ h hsv h4 h1 hf
    · have hn : n < D.1 := (by rw [sc_le] at hc13; omega)
      refine pv_aloadn (pc := 16) (n := 0) 0 rfl rfl (fm_dec dtX4_putFirsts 8 rfl) ?_
      refine pv_getR (k := 39) (j := 3) (ci := 4) (pc := 17) 40 rfl (by decide) pfl_X4_18 (by decide) rfl (by decide) (fm_dec dtX4_putFirsts 9 rfl) ?_
      refine pv_iloadn (pc := 20) (n := 1) 1 rfl rfl (fm_dec dtX4_putFirsts 10 rfl) ?_
      refine pv_aloadn (pc := 21) (n := 0) 0 rfl rfl (fm_dec dtX4_putFirsts 11 rfl) ?_
      refine pv_getR (k := 39) (j := 2) (ci := 4) (pc := 22) 32 rfl (by decide) pfl_X4_22 (by decide) rfl (by decide) (fm_dec dtX4_putFirsts 12 rfl) ?_
      refine pv_aloadn (pc := 25) (n := 0) 0 rfl rfl (fm_dec dtX4_putFirsts 13 rfl) ?_
      refine pv_getR (k := 39) (j := 0) (ci := 4) (pc := 26) 41 rfl (by decide) pfl_X4_12 (by decide) rfl (by decide) (fm_dec dtX4_putFirsts 14 rfl) ?_
      refine pv_iloadn (pc := 29) (n := 1) 1 rfl rfl (fm_dec dtX4_putFirsts 15 rfl) ?_
      refine pv_invV2 (k := 32) (d' := 10) (pc := 30) pcv_X4_85 (by decide) rfl (Nat.le_of_ble_eq_true rfl) (by decide) (fm_dec dtX4_putFirsts 16 rfl) ?_
      refine c_xsvT h hn (fun M30 r30 g30 h30 e30 => ?_)
      refine pv_then1 ?_
      refine pv_last (k := 40) (n := 8) (pc := 33) (by decide) rfl rfl (ix_in hn9 (by omega)) (fm_dec dtX4_putFirsts 17 rfl) ?_
      refine pv_iincc (pc := 34) 1 1 (by decide) rfl (by decide) rfl (fm_dec dtX4_putFirsts 18 rfl) ?_
      dsimp only [List.set_cons_zero, List.set_cons_succ]
      refine pv_goto (pc := 37) 2 (by decide) (fm_dec dtX4_putFirsts 19 rfl) ?_
      rw [nI_succ1, i32_cl hn9]
      exact ih (D.1 - (n + 1)) (by omega) (n + 1) _ _ (h.lowJ (fun k j a => g30 k j a) (by rw [fmJ_k2 (by decide), h30])) (fun j hj => by by_cases e : j = n; (subst e; rw [fmJ_s2]; exact e30); (rw [fmJ_j _ _ e, h30]; exact hsv j (by omega))) ((g30 39 4 (by decide)).trans h4) ((g30 39 1 (by decide)).trans h1) ⟨fun k j a b => (g30 k j a).trans (hf.1 k j a b), fun k j a b => by rw [fmJ_k2 a, h30]; exact hf.2 k j a b⟩ (by omega) rfl
set_option maxRecDepth 20000 in
theorem xyp_2 {Q : fmR → fmM → Prop} {M0 : fmM} {D : dD} {cs : tC} {s0 : Int32} : ∀ (m : Nat) (n : Nat) (M : fmM) (v2 : Option Value) (S : aS) (w : Nat), xAqT M D cs S → (∀ j, j < D.1 → (M.2 40 j).toInt = saS D cs S j) → (M.1 39 1).toInt = (w : Int) → M.1 39 4 = s0 → yFr M0 M → n ≤ D.1 → D.1 - n = m → w + m ≤ 90000 → (∀ M' : fmM, xAqT M' D cs (ypS D cs m (S, w)).1 → (M'.1 39 1).toInt = (((ypS D cs m (S, w)).2 : Nat) : Int) → M'.1 39 4 = s0 → yFr M0 M' → Q (.inl none) M') → pvEv Tx 22 qX4_putFirsts 42 [some (.ref 39), some (.int (nI n)), v2] [] M Q := by
  intro m
  induction m using Nat.strongRecOn with
  | _ m ih =>
    intro n M v2 S w h hsv hw h4 hf hnD hm hwm hq
    have d8 := h.1.1
    have hn9 : (nI n).toInt = (n : Int) := nI_toInt (by omega)
    have h39 : (M.1 3 9).toInt = (D.1 : Int) := h.2.1.1.1
    refine pv_iloadn (pc := 42) (n := 1) 1 rfl rfl (fm_dec dtX4_putFirsts 22 rfl) ?_
    refine pv_aloadn (pc := 43) (n := 0) 0 rfl rfl (fm_dec dtX4_putFirsts 23 rfl) ?_
    refine pv_getR (k := 39) (j := 2) (ci := 4) (pc := 44) 32 rfl (by decide) pfl_X4_22 (by decide) rfl (by decide) (fm_dec dtX4_putFirsts 24 rfl) ?_
    refine pv_getR (k := 32) (j := 0) (ci := 0) (pc := 47) 3 rfl (by decide) pfl_X4_60 (by decide) rfl (by decide) (fm_dec dtX4_putFirsts 25 rfl) ?_
    refine pv_getI (k := 3) (j := 9) (ci := 8) (pc := 50) pfl_X4_64 (by decide) rfl (by decide) (fm_dec dtX4_putFirsts 26 rfl) ?_
    refine pv_icmp_ge (pc := 53) 123 (by decide) (fm_dec dtX4_putFirsts 27 rfl) (fun hc53 => ?_) (fun hc53 => ?_)
    · exact pv_return (pc := 123) rfl (fm_dec dtX4_putFirsts 63 rfl) (by have e9 : m = 0 := (by rw [sc_le] at hc53; omega); subst e9; exact hq M h hw h4 hf)
    · obtain ⟨f, rfl⟩ : ∃ f, m = f + 1 := ⟨m - 1, by rw [sc_le] at hc53; omega⟩
      refine pv_aloadn (pc := 56) (n := 0) 0 rfl rfl (fm_dec dtX4_putFirsts 28 rfl) ?_
      refine pv_getR (k := 39) (j := 2) (ci := 4) (pc := 57) 32 rfl (by decide) pfl_X4_22 (by decide) rfl (by decide) (fm_dec dtX4_putFirsts 29 rfl) ?_
      refine pv_aloadn (pc := 60) (n := 0) 0 rfl rfl (fm_dec dtX4_putFirsts 30 rfl) ?_
      refine pv_getR (k := 39) (j := 0) (ci := 4) (pc := 61) 41 rfl (by decide) pfl_X4_12 (by decide) rfl (by decide) (fm_dec dtX4_putFirsts 31 rfl) ?_
      refine pv_aloadn (pc := 64) (n := 0) 0 rfl rfl (fm_dec dtX4_putFirsts 32 rfl) ?_
      refine pv_getR (k := 39) (j := 3) (ci := 4) (pc := 65) 40 rfl (by decide) pfl_X4_18 (by decide) rfl (by decide) (fm_dec dtX4_putFirsts 33 rfl) ?_
      refine pv_aloadn (pc := 68) (n := 0) 0 rfl rfl (fm_dec dtX4_putFirsts 34 rfl) ?_
      refine pv_getR (k := 39) (j := 0) (ci := 4) (pc := 69) 41 rfl (by decide) pfl_X4_12 (by decide) rfl (by decide) (fm_dec dtX4_putFirsts 35 rfl) ?_
      refine pv_getI (k := 41) (j := 3) (ci := 6) (pc := 72) pfl_X4_89 (by decide) rfl (by decide) (fm_dec dtX4_putFirsts 36 rfl) ?_
      refine pv_invV3 (k := 32) (d' := 21) (pc := 75) pcv_X4_92 (by decide) rfl (Nat.le_of_ble_eq_true rfl) (by decide) (fm_dec dtX4_putFirsts 37 rfl) ?_
      refine c_xfoT (mo := S.1.2.1) h h.2.2.2.1.2.2.1 hsv (fun r75 e75 => ?_)
      refine pv_then1 ?_
      refine pv_istoren (pc := 78) (n := 2) 2 rfl (by decide) rfl (fm_dec dtX4_putFirsts 38 rfl) ?_
      dsimp only [List.set_cons_zero, List.set_cons_succ]
      refine pv_iloadn (pc := 79) (n := 2) 2 rfl rfl (fm_dec dtX4_putFirsts 39 rfl) ?_
      refine pv_iconst (pc := 80) (v := (-1)) (by decide) (fm_dec dtX4_putFirsts 40 rfl) ?_
      refine pv_icmp_eq (pc := 81) 99 (by decide) (fm_dec dtX4_putFirsts 41 rfl) (fun hc81 => ?_) (fun hc81 => ?_)
      · exact pv_return (pc := 99) rfl (fm_dec dtX4_putFirsts 49 rfl) (hq M (by rw [yp_0 (by show yfS D cs S = -1; rw [← show fiS (saS D cs S) (hoS D S) S.1.2.1 D.1 = yfS D cs S from rfl, ← e75, hc81]; decide)]; exact h) (by rw [yp_0 (by show yfS D cs S = -1; rw [← show fiS (saS D cs S) (hoS D S) S.1.2.1 D.1 = yfS D cs S from rfl, ← e75, hc81]; decide)]; exact hw) h4 hf)
      · have hne : ¬ yfS D cs S = -1 := (fun e => hc81 (i32_ext (e75.trans (by rw [show fiS (saS D cs S) (hoS D S) S.1.2.1 D.1 = yfS D cs S from rfl, e]; decide))))
        obtain ⟨i, ei, hi, hs0, hh⟩ := yf_b hne
        have er : r75 = nI i := nI_is (e75.trans ei) (by omega)
        have hi9 : (nI i).toInt = (i : Int) := nI_toInt (by omega)
        rw [er]
        refine pv_aloadn (pc := 84) (n := 0) 0 rfl rfl (fm_dec dtX4_putFirsts 42 rfl) ?_
        refine pv_getR (k := 39) (j := 2) (ci := 4) (pc := 85) 32 rfl (by decide) pfl_X4_22 (by decide) rfl (by decide) (fm_dec dtX4_putFirsts 43 rfl) ?_
        refine pv_aloadn (pc := 88) (n := 0) 0 rfl rfl (fm_dec dtX4_putFirsts 44 rfl) ?_
        refine pv_getR (k := 39) (j := 0) (ci := 4) (pc := 89) 41 rfl (by decide) pfl_X4_12 (by decide) rfl (by decide) (fm_dec dtX4_putFirsts 45 rfl) ?_
        refine pv_iloadn (pc := 92) (n := 2) 2 rfl rfl (fm_dec dtX4_putFirsts 46 rfl) ?_
        refine pv_invV2 (k := 32) (d' := 3) (pc := 93) pcv_X4_96 (by decide) rfl (Nat.le_of_ble_eq_true rfl) (by decide) (fm_dec dtX4_putFirsts 47 rfl) ?_
        refine c_xputT h.1 h.2.1 h.2.2.2.1 h.2.2.2.2 hi (fun h93 => ?_) (fun S93 h93 e93 x93 => ?_)
        · refine pv_then1 ?_
          refine pv_if_ne (pc := 96) 100 (by decide) (fm_dec dtX4_putFirsts 48 rfl) (fun hc96 => by exfalso; revert hc96; decide) (fun _ => ?_)
          exact pv_return (pc := 99) rfl (fm_dec dtX4_putFirsts 49 rfl) (by obtain ⟨S9, e9⟩ := sa_p hs0 hh; rw [e9] at h93; cases h93)
        · refine pv_then1 ?_
          refine pv_if_ne (pc := 96) 100 (by decide) (fm_dec dtX4_putFirsts 48 rfl) (fun _ => ?_) (fun hc96 => by exfalso; revert hc96; decide)
          have hA := h.s (pu_frT (M := M) (i := i) (h := h93)) x93 (pu_okT (cs := cs) h.1 h.2.2.2.2 hi e93)
          refine pv_aloadn (pc := 100) (n := 0) 0 rfl rfl (fm_dec dtX4_putFirsts 50 rfl) ?_
          refine pv_getR (k := 39) (j := 3) (ci := 4) (pc := 101) 40 rfl (by decide) pfl_X4_18 (by decide) rfl (by decide) (fm_dec dtX4_putFirsts 51 rfl) ?_
          refine pv_iloadn (pc := 104) (n := 2) 2 rfl rfl (fm_dec dtX4_putFirsts 52 rfl) ?_
          refine pv_lconst (pc := 105) (v := 0) (by decide) (fm_dec dtX4_putFirsts 53 rfl) ?_
          refine pv_last (k := 40) (n := 8) (pc := 106) (by decide) rfl rfl (ix_in hi9 (by omega)) (fm_dec dtX4_putFirsts 54 rfl) ?_
          refine pv_aloadn (pc := 107) (n := 0) 0 rfl rfl (fm_dec dtX4_putFirsts 55 rfl) ?_
          refine pv_dup (pc := 108) rfl (fm_dec dtX4_putFirsts 56 rfl) ?_
          refine pv_getI (k := 39) (j := 1) (ci := 4) (pc := 109) pfl_X4_41 (by decide) rfl (by decide) (fm_dec dtX4_putFirsts 57 rfl) ?_
          refine pv_iconst (pc := 112) (v := 1) (by decide) (fm_dec dtX4_putFirsts 58 rfl) ?_
          refine pv_iadd (pc := 113) (fm_dec dtX4_putFirsts 59 rfl) ?_
          refine pv_putI (k := 39) (j := 1) (ci := 4) (pc := 114) pfl_X4_41 (by decide) rfl (by decide) (fm_dec dtX4_putFirsts 60 rfl) ?_
          refine pv_iincc (pc := 117) 1 1 (by decide) rfl (by decide) rfl (fm_dec dtX4_putFirsts 61 rfl) ?_
          dsimp only [List.set_cons_zero, List.set_cons_succ]
          refine pv_goto (pc := 120) 42 (by decide) (fm_dec dtX4_putFirsts 62 rfl) ?_
          rw [nI_succ1, i32_cl hi9]
          have ey := yp_1 (D := D) (cs := cs) (f := f) (p := (S, w)) hne (by show puS D S (yfS D cs S).toNat = some S93; rw [ei, Int.toNat_natCast]; exact e93)
          exact ih f (by omega) (n + 1) _ _ S93 (w + 1) (hA.p40.p39) (fun j hj => by by_cases e : j = i; (subst e; show ((fmJ (puM2T M j h93) 40 j 0).2 40 j).toInt = _; rw [fmJ_s2, sa_pu (cs := cs) e93, if_pos rfl]; decide); (show ((fmJ (puM2T M i h93) 40 i 0).2 40 j).toInt = _; rw [fmJ_j _ _ e, sa_pu (cs := cs) e93, if_neg e]; exact hsv j hj)) (by rw [fmI_s]; exact i32_p1 (by show ((puM2T M i h93).1 39 1).toInt = _; rw [pu_frT.1 39 1 (by decide) (by decide) (by decide)]; exact hw) (by omega)) (by rw [fmI_j _ _ (by decide)]; show (puM2T M i h93).1 39 4 = _; rw [pu_frT.1 39 4 (by decide) (by decide) (by decide)]; exact h4) ((hf.s pu_frT).p40.p39) (by omega) (by omega) (by omega) (fun M' a b c d => hq M' (by rw [ey]; exact a) (by rw [ey]; exact b) c d)
set_option maxRecDepth 20000 in
theorem c_xpf {M : fmM} {Q : fmR → fmM → Prop} {D : dD} {cs : tC} {S : aS} {w : Nat} {s0 : Int32} (h : xAqT M D cs S) (hw : (M.1 39 1).toInt = (w : Int)) (hw9 : w ≤ 80000) (h4 : M.1 39 4 = s0) (hq : ∀ M' : fmM, xAqT M' D cs (ypS D cs D.1 (S, w)).1 → (M'.1 39 1).toInt = (((ypS D cs D.1 (S, w)).2 : Nat) : Int) → M'.1 39 4 = s0 → yFr M M' → Q (.inl none) M') : pvGood Tx 23 qX4_putFirsts [.ref 39] M Q := by
  refine pvGood_of (Nat.le_of_ble_eq_true rfl) ?_
  show pvEv Tx 23 qX4_putFirsts 0 [some (.ref 39), none, none] [] M Q
  have d8 := h.1.1
  refine pv_iconst (pc := 0) (v := 0) (by decide) (fm_dec dtX4_putFirsts 0 rfl) ?_
  refine pv_istoren (pc := 1) (n := 1) 1 rfl (by decide) rfl (fm_dec dtX4_putFirsts 1 rfl) ?_
  dsimp only [List.set_cons_zero, List.set_cons_succ]
  refine pvEv.up (d := 22) ?_ (by decide)
  refine xyp_1 (fun M40 k40 v40 h40 sv40 s40 w40 f40 => ?_) D.1 0 M _ h (fun j hj => absurd hj (Nat.not_lt_zero j)) rfl rfl (yFr.refl M) (Nat.zero_le _) rfl
  refine pv_iconst (pc := 40) (v := 0) (by decide) (fm_dec dtX4_putFirsts 20 rfl) ?_
  refine pv_istoren (pc := 41) (n := 1) 1 rfl (by decide) rfl (fm_dec dtX4_putFirsts 21 rfl) ?_
  dsimp only [List.set_cons_zero, List.set_cons_succ]
  exact xyp_2 (M0 := M) D.1 0 M40 _ S w h40 sv40 (by rw [w40]; exact hw) (s40.trans h4) f40 (Nat.zero_le _) rfl (by omega) hq
set_option maxRecDepth 20000 in
theorem xpy_loop {Q : fmR → fmM → Prop} {M0 : fmM} {D : dD} {cs : tC} {S : aS} {sd : Int32} {wk : Nat} (hwk : wk ≤ 60) (hq : ∀ M' : fmM, xAqT M' D cs (yrS D cs wk (zC S, sd, 0)).1 → (M'.1 39 1).toInt = (((yrS D cs wk (zC S, sd, 0)).2.2 : Nat) : Int) → yFr M0 M' → Q (.inl none) M') : ∀ (m : Nat) (k : Nat) (M : fmM), xAqT M D cs (yrS D cs k (zC S, sd, 0)).1 → M.1 39 4 = (yrS D cs k (zC S, sd, 0)).2.1 → (M.1 39 1).toInt = (((yrS D cs k (zC S, sd, 0)).2.2 : Nat) : Int) → yFr M0 M → k ≤ wk → wk - k = m → pvEv Tx 24 qX4_play 45 [some (.ref 39), some (.ref 47), some (.int sd), some (.int (nI wk)), some (.int (nI k))] [] M Q := by
  intro m
  induction m using Nat.strongRecOn with
  | _ m ih =>
    intro k M h h4 h1 hf hkw hm
    have d8 := h.1.1
    have hk9 : (nI k).toInt = (k : Int) := nI_toInt (by omega)
    have hwk9 : (nI wk).toInt = (wk : Int) := nI_toInt (by omega)
    refine pv_iload (pc := 45) (i := 4) rfl (fm_dec dtX4_play 24 rfl) ?_
    refine pv_iloadn (pc := 47) (n := 3) 3 rfl rfl (fm_dec dtX4_play 25 rfl) ?_
    refine pv_icmp_ge (pc := 48) 77 (by decide) (fm_dec dtX4_play 26 rfl) (fun hc48 => ?_) (fun hc48 => ?_)
    · exact pv_return (pc := 77) rfl (fm_dec dtX4_play 39 rfl) (by have e9 : k = wk := (by rw [sc_le] at hc48; omega); subst e9; exact hq M h h1 hf)
    · have hk : k < wk := (by rw [sc_le] at hc48; omega)
      have hw8 := yr_w (cs := cs) (S := zC S) (s := sd) d8 k
      refine pv_aloadn (pc := 51) (n := 0) 0 rfl rfl (fm_dec dtX4_play 27 rfl) ?_
      refine pv_invV0 (k := 39) (d' := 11) (pc := 52) pcv_X4_47 (by decide) rfl (Nat.le_of_ble_eq_true rfl) (by decide) (fm_dec dtX4_play 28 rfl) ?_
      refine c_xdd (p := ((yrS D cs k (zC S, sd, 0)).1, (yrS D cs k (zC S, sd, 0)).2.1)) h h4 (fun M52 h52 s52 w52 f52 => ?_)
      refine pv_then0 ?_
      refine pv_aloadn (pc := 55) (n := 0) 0 rfl rfl (fm_dec dtX4_play 29 rfl) ?_
      refine pv_invV0 (k := 39) (d' := 23) (pc := 56) pcv_X4_50 (by decide) rfl (Nat.le_of_ble_eq_true rfl) (by decide) (fm_dec dtX4_play 30 rfl) ?_
      refine c_xpf (w := (yrS D cs k (zC S, sd, 0)).2.2) h52 (by rw [w52]; exact h1) (by omega) s52 (fun M56 h56 w56 s56 f56 => ?_)
      refine pv_then0 ?_
      refine pv_aloadn (pc := 59) (n := 0) 0 rfl rfl (fm_dec dtX4_play 31 rfl) ?_
      refine pv_getR (k := 39) (j := 2) (ci := 4) (pc := 60) 32 rfl (by decide) pfl_X4_22 (by decide) rfl (by decide) (fm_dec dtX4_play 32 rfl) ?_
      refine pv_aloadn (pc := 63) (n := 0) 0 rfl rfl (fm_dec dtX4_play 33 rfl) ?_
      refine pv_getR (k := 39) (j := 0) (ci := 4) (pc := 64) 41 rfl (by decide) pfl_X4_12 (by decide) rfl (by decide) (fm_dec dtX4_play 34 rfl) ?_
      refine pv_invV1 (k := 32) (d' := 0) (pc := 67) pcv_X4_53 (by decide) rfl (Nat.le_of_ble_eq_true rfl) (by decide) (fm_dec dtX4_play 35 rfl) ?_
      refine c_xweekT h56.1 h56.2.1 h56.2.2.2.1 h56.2.2.2.2 (fun h67 => ?_) (fun M67 S67 h67 x67 f67 => ?_)
      · refine pv_then1 ?_
        refine pv_pop (pc := 70) rfl (fm_dec dtX4_play 36 rfl) ?_
        refine pv_iincc (pc := 71) 4 1 (by decide) rfl (by decide) rfl (fm_dec dtX4_play 37 rfl) ?_
        dsimp only [List.set_cons_zero, List.set_cons_succ]
        refine pv_goto (pc := 74) 45 (by decide) (fm_dec dtX4_play 38 rfl) ?_
        rw [nI_succ1]
        have e9 : yrS D cs (k + 1) (zC S, sd, 0) = ((ypS D cs D.1 ((ydS D cs D.1 ((yrS D cs k (zC S, sd, 0)).1, (yrS D cs k (zC S, sd, 0)).2.1)).1, (yrS D cs k (zC S, sd, 0)).2.2)).1, (ydS D cs D.1 ((yrS D cs k (zC S, sd, 0)).1, (yrS D cs k (zC S, sd, 0)).2.1)).2, (ypS D cs D.1 ((ydS D cs D.1 ((yrS D cs k (zC S, sd, 0)).1, (yrS D cs k (zC S, sd, 0)).2.1)).1, (yrS D cs k (zC S, sd, 0)).2.2)).2) := (by show yeS D cs (yrS D cs k (zC S, sd, 0)) = _; unfold yeS; rw [h67]; rfl)
        exact ih (wk - (k + 1)) (by omega) (k + 1) M56 (by rw [e9]; exact h56) (by rw [e9]; exact s56) (by rw [e9]; exact w56) ((hf.tr f52).tr f56) (by omega) rfl
      · refine pv_then1 ?_
        refine pv_pop (pc := 70) rfl (fm_dec dtX4_play 36 rfl) ?_
        refine pv_iincc (pc := 71) 4 1 (by decide) rfl (by decide) rfl (fm_dec dtX4_play 37 rfl) ?_
        dsimp only [List.set_cons_zero, List.set_cons_succ]
        refine pv_goto (pc := 74) 45 (by decide) (fm_dec dtX4_play 38 rfl) ?_
        rw [nI_succ1]
        have e9 : yrS D cs (k + 1) (zC S, sd, 0) = (S67, (ydS D cs D.1 ((yrS D cs k (zC S, sd, 0)).1, (yrS D cs k (zC S, sd, 0)).2.1)).2, (ypS D cs D.1 ((ydS D cs D.1 ((yrS D cs k (zC S, sd, 0)).1, (yrS D cs k (zC S, sd, 0)).2.1)).1, (yrS D cs k (zC S, sd, 0)).2.2)).2) := (by show yeS D cs (yrS D cs k (zC S, sd, 0)) = _; unfold yeS; rw [h67]; rfl)
        exact ih (wk - (k + 1)) (by omega) (k + 1) M67 (by rw [e9]; exact h56.s f67 x67 (we_okT h56.1 h56.2.2.2.2 h67)) (by rw [e9]; exact (f67.1 39 4 (by decide) (by decide) (by decide)).trans s56) (by rw [e9]; exact (by rw [f67.1 39 1 (by decide) (by decide) (by decide)]; exact w56)) (((hf.tr f52).tr f56).s f67) (by omega) rfl
theorem stc_41 : stC 41 42 := by decide +kernel
theorem stc_47 : stC 47 48 := so_now (z := 0) (by decide)
/-- the copy that years begin with -/
def pyM (M : fmM) (sd : Int32) : fmM := fmI (fmI (fmJ (fmI (fmI M 41 4 0) 41 5 0) 41 6 0) 39 1 0) 39 4 sd
theorem py_x {M M1 : fmM} {D : dD} {cs : tC} {S : aS} {sd : Int32} (h : xAq M D cs S) (c : cpR 41 42 47 48 M M1) : xAqT (pyM M1 sd) D cs (zC S) := by
  obtain ⟨hD, hX, hL, hs, ho⟩ := h
  have d8 := hD.1
  have k0 : ∀ k j, k ≠ 39 → k ≠ 41 → (pyM M1 sd).1 k j = M1.1 k j := fun k j a b => by
    unfold pyM
    rw [fmI_k _ _ a, fmI_k _ _ a]
    show (fmI (fmI M1 41 4 0) 41 5 0).1 k j = _
    rw [fmI_k _ _ b, fmI_k _ _ b]
  have k1 : ∀ j, j ≠ 4 → j ≠ 5 → (pyM M1 sd).1 41 j = M1.1 41 j := fun j a b => by
    unfold pyM
    rw [fmI_k _ _ (by decide), fmI_k _ _ (by decide)]
    show (fmI (fmI M1 41 4 0) 41 5 0).1 41 j = _
    rw [fmI_j _ _ b, fmI_j _ _ a]
  have e4 : (pyM M1 sd).1 41 4 = 0 := by
    unfold pyM
    rw [fmI_k _ _ (by decide), fmI_k _ _ (by decide)]
    show (fmI (fmI M1 41 4 0) 41 5 0).1 41 4 = _
    rw [fmI_j _ _ (by decide), fmI_s]
  have e5 : (pyM M1 sd).1 41 5 = 0 := by
    unfold pyM
    rw [fmI_k _ _ (by decide), fmI_k _ _ (by decide)]
    show (fmI (fmI M1 41 4 0) 41 5 0).1 41 5 = _
    rw [fmI_s]
  have e6 : (pyM M1 sd).2 41 6 = 0 := by
    show (fmJ (fmI (fmI M1 41 4 0) 41 5 0) 41 6 0).2 41 6 = 0
    exact fmJ_s2
  have s := c.1
  refine ⟨hD, hX.of (fun k j a b => by rw [k0 k j (by omega) (by omega)]; exact c.2.1 k j (by omega) (by omega)), hL.f (by rw [k0 23 3 (by decide) (by decide)]; exact c.2.1 23 3 (by decide) (by decide)) (fun i => by rw [k0 24 i (by decide) (by decide)]; exact c.2.1 24 i (by decide) (by decide)), ⟨?_, ?_, ?_, ?_, ?_, ?_, fun i hi => ?_⟩, ?_⟩
  · rw [k1 1 (by decide) (by decide), s.1 1 (by decide) (by decide)]
    exact hs.1
  · rw [k1 2 (by decide) (by decide), s.1 2 (by decide) (by decide)]
    exact hs.2.1
  · rw [k1 3 (by decide) (by decide), s.1 3 (by decide) (by decide)]
    exact hs.2.2.1
  · rw [e4]
    exact (show (0 : Int32).toInt = ((0 : Nat) : Int) by decide)
  · rw [e5]
    exact (show (0 : Int32).toInt = ((0 : Nat) : Int) by decide)
  · rw [e6]
    exact (show (0 : Int64).toInt = (0 : Int) by decide)
  · rw [k0 42 i (by decide) (by decide), s.2.2 i (by omega)]
    exact hs.2.2.2.2.2.2 i hi
  · exact ⟨ho.1, ho.2.1, ho.2.2.1, Nat.zero_le _, Int.le_refl _, (by show (0 : Int) ≤ 57024 * ((pop8 S.1.2.2.1 : Nat) : Int); omega), ho.2.2.2.2.2.2.1, ho.2.2.2.2.2.2.2⟩
theorem py_f {M M1 : fmM} {sd : Int32} (c : cpR 41 42 47 48 M M1) : yFr M (pyM M1 sd) := ⟨fun k j a b => by
  unfold pyM
  rw [fmI_k _ _ (by omega), fmI_k _ _ (by omega)]
  show (fmI (fmI M1 41 4 0) 41 5 0).1 k j = _
  rw [fmI_k _ _ (by omega), fmI_k _ _ (by omega)]
  exact c.2.1 k j (by omega) (by omega), fun k j a b => by
  show (fmJ (fmI (fmI M1 41 4 0) 41 5 0) 41 6 0).2 k j = _
  rw [fmJ_k2 b]
  exact c.2.2 k j b⟩
set_option maxRecDepth 20000 in
theorem c_xplay {M : fmM} {Q : fmR → fmM → Prop} {D : dD} {cs : tC} {S : aS} {sd : Int32} {wk : Nat} (h : xAq M D cs S) (hwk : wk ≤ 60) (hq : ∀ M' : fmM, xAqT M' D cs (yrS D cs wk (zC S, sd, 0)).1 → (M'.1 39 1).toInt = (((yrS D cs wk (zC S, sd, 0)).2.2 : Nat) : Int) → yFr M M' → Q (.inl none) M') : pvGood Tx 25 qX4_play [.ref 39, .ref 47, .int sd, .int (nI wk)] M Q := by
  refine pvGood_of (Nat.le_of_ble_eq_true rfl) ?_
  show pvEv Tx 25 qX4_play 0 [some (.ref 39), some (.ref 47), some (.int sd), some (.int (nI wk)), none] [] M Q
  refine pv_aloadn (pc := 0) (n := 0) 0 rfl rfl (fm_dec dtX4_play 0 rfl) ?_
  refine pv_getR (k := 39) (j := 0) (ci := 4) (pc := 1) 41 rfl (by decide) pfl_X4_12 (by decide) rfl (by decide) (fm_dec dtX4_play 1 rfl) ?_
  refine pv_aloadn (pc := 4) (n := 1) 1 rfl rfl (fm_dec dtX4_play 2 rfl) ?_
  refine pv_invV1 (k := 41) (d' := 0) (pc := 5) pcv_X4_26 (by decide) rfl (Nat.le_of_ble_eq_true rfl) (by decide) (fm_dec dtX4_play 3 rfl) ?_
  refine cp_S stc_41 stc_47 (by decide) (fun M5 c5 => ?_)
  refine pv_then0 ?_
  refine pv_aloadn (pc := 8) (n := 0) 0 rfl rfl (fm_dec dtX4_play 4 rfl) ?_
  refine pv_getR (k := 39) (j := 0) (ci := 4) (pc := 9) 41 rfl (by decide) pfl_X4_12 (by decide) rfl (by decide) (fm_dec dtX4_play 5 rfl) ?_
  refine pv_iconst (pc := 12) (v := 0) (by decide) (fm_dec dtX4_play 6 rfl) ?_
  refine pv_putI (k := 41) (j := 4) (ci := 6) (pc := 13) pfl_X4_30 (by decide) rfl (by decide) (fm_dec dtX4_play 7 rfl) ?_
  refine pv_aloadn (pc := 16) (n := 0) 0 rfl rfl (fm_dec dtX4_play 8 rfl) ?_
  refine pv_getR (k := 39) (j := 0) (ci := 4) (pc := 17) 41 rfl (by decide) pfl_X4_12 (by decide) rfl (by decide) (fm_dec dtX4_play 9 rfl) ?_
  refine pv_iconst (pc := 20) (v := 0) (by decide) (fm_dec dtX4_play 10 rfl) ?_
  refine pv_putI (k := 41) (j := 5) (ci := 6) (pc := 21) pfl_X4_34 (by decide) rfl (by decide) (fm_dec dtX4_play 11 rfl) ?_
  refine pv_aloadn (pc := 24) (n := 0) 0 rfl rfl (fm_dec dtX4_play 12 rfl) ?_
  refine pv_getR (k := 39) (j := 0) (ci := 4) (pc := 25) 41 rfl (by decide) pfl_X4_12 (by decide) rfl (by decide) (fm_dec dtX4_play 13 rfl) ?_
  refine pv_lconst (pc := 28) (v := 0) (by decide) (fm_dec dtX4_play 14 rfl) ?_
  refine pv_putJ (k := 41) (j := 6) (ci := 6) (pc := 29) pfl_X4_37 (by decide) rfl (by decide) (fm_dec dtX4_play 15 rfl) ?_
  refine pv_aloadn (pc := 32) (n := 0) 0 rfl rfl (fm_dec dtX4_play 16 rfl) ?_
  refine pv_iconst (pc := 33) (v := 0) (by decide) (fm_dec dtX4_play 17 rfl) ?_
  refine pv_putI (k := 39) (j := 1) (ci := 4) (pc := 34) pfl_X4_41 (by decide) rfl (by decide) (fm_dec dtX4_play 18 rfl) ?_
  refine pv_aloadn (pc := 37) (n := 0) 0 rfl rfl (fm_dec dtX4_play 19 rfl) ?_
  refine pv_iloadn (pc := 38) (n := 2) 2 rfl rfl (fm_dec dtX4_play 20 rfl) ?_
  refine pv_putI (k := 39) (j := 4) (ci := 4) (pc := 39) pfl_X4_44 (by decide) rfl (by decide) (fm_dec dtX4_play 21 rfl) ?_
  refine pv_iconst (pc := 42) (v := 0) (by decide) (fm_dec dtX4_play 22 rfl) ?_
  refine pv_istore (pc := 43) (i := 4) (by decide) rfl (fm_dec dtX4_play 23 rfl) ?_
  dsimp only [List.set_cons_zero, List.set_cons_succ]
  show pvEv Tx 25 qX4_play 45 _ _ (pyM M5 sd) Q
  refine pvEv.up (d := 24) ?_ (by decide)
  exact xpy_loop (M0 := M) hwk hq wk 0 (pyM M5 sd) (py_x h c5) (by unfold pyM; rw [fmI_s]; rfl) (by unfold pyM; rw [fmI_j _ _ (by decide), fmI_s]; exact (show (0 : Int32).toInt = ((0 : Nat) : Int) by decide)) (py_f c5) (Nat.zero_le _) rfl
def mk2 (M0 M : fmM) : Prop := (∀ k j, k ≠ 5 → k ≠ 6 → M.1 k j = M0.1 k j) ∧ M.2 = M0.2
set_option maxRecDepth 20000 in
theorem mfj_loop {Q : fmR → fmM → Prop} {M0 : fmM} {D : dD} {cs : tC} {S : aS} {hm : Int32} {mo : Nat} (hm9 : hm.toInt = (mo : Int)) : ∀ (m : Nat) (n : Nat) (M : fmM) (w : Int32), (mAq M D cs S ∧ mk2 M0 M) → n ≤ D.1 → D.1 - n = m → w.toInt = fiS (saS D cs S) (hoS D S) mo n → (∀ (r : Int32) (M' : fmM), mk2 M0 M' → r.toInt = fiS (saS D cs S) (hoS D S) mo D.1 → Q (.inl (some (.int r))) M') → pvEv Tm 20 qX11_firstOf 5 [some (.ref 0), some (.ref 7), some (.int hm), some (.int w), some (.int (nI n))] [] M Q := by
  intro m
  induction m using Nat.strongRecOn with
  | _ m ih =>
    intro n M w h hnD hm0 hw hq
    have h9q := h.1
    obtain ⟨hD, hY, hM, hd, ht, ho⟩ := h9q
    have d8 := hD.1
    have hn9 : (nI n).toInt = (n : Int) := nI_toInt (by omega)
    have h39 : (M.1 4 (Int32.toNatClampNeg 0)).toInt = (D.1 : Int) := hY.1
    refine pv_iload (pc := 5) (i := 4) rfl (fm_dec dtX11_firstOf 4 rfl) ?_
    refine pv_aloadn (pc := 7) (n := 0) 0 rfl rfl (fm_dec dtX11_firstOf 5 rfl) ?_
    refine pv_getR (k := 0) (j := 12) (ci := 11) (pc := 8) 4 rfl (by decide) pfl_X11_23 (by decide) rfl (by decide) (fm_dec dtX11_firstOf 6 rfl) ?_
    refine pv_iconst (pc := 11) (v := 0) (by decide) (fm_dec dtX11_firstOf 7 rfl) ?_
    refine pv_iald (k := 4) (n := 6) (pc := 12) (by decide) rfl rfl (fm_inl (by decide)) (fm_dec dtX11_firstOf 8 rfl) ?_
    refine pv_icmp_ge (pc := 13) 90 (by decide) (fm_dec dtX11_firstOf 9 rfl) (fun hc13 => ?_) (fun hc13 => ?_)
    · refine pv_iloadn (pc := 90) (n := 3) 3 rfl rfl (fm_dec dtX11_firstOf 53 rfl) ?_
      exact pv_ireturn (pc := 91) rfl (fm_dec dtX11_firstOf 54 rfl) (by have e9 : n = D.1 := (by rw [sc_le] at hc13; omega); subst e9; exact hq _ _ h.2 hw)
    · have hn : n < D.1 := (by rw [sc_le] at hc13; omega)
      have hn8 : n < 8 := (by omega)
      have fb := fi_b (sv := saS D cs S) (hr := hoS D S) (most := mo) n
      have sbn := sa_b (cs := cs) (S := S) hD hn
      have hbn := ho_b (S := S) hD hn
      refine pv_aloadn (pc := 16) (n := 0) 0 rfl rfl (fm_dec dtX11_firstOf 10 rfl) ?_
      refine pv_aloadn (pc := 17) (n := 1) 1 rfl rfl (fm_dec dtX11_firstOf 11 rfl) ?_
      refine pv_iload (pc := 18) (i := 4) rfl (fm_dec dtX11_firstOf 12 rfl) ?_
      refine pv_invV2 (k := 0) (d' := 10) (pc := 20) pcv_X11_355 (by decide) rfl (Nat.le_of_ble_eq_true rfl) (by decide) (fm_dec dtX11_firstOf 13 rfl) ?_
      refine c_msv (i := n) h.1 hn (fun M20 r20 g20 k20 e20 => ?_)
      refine pv_then1 ?_
      have h20 := h.1.low (fun k j _ x y => g20 k j x y) (g20 0 17 (by decide) (by decide))
      have z20 : mk2 M0 M20 := ⟨fun k j p q => (g20 k j p q).trans (h.2.1 k j p q), k20.trans h.2.2⟩
      refine pv_if_eq (pc := 23) 84 (by decide) (fm_dec dtX11_firstOf 14 rfl) (fun hc23 => ?_) (fun hc23 => ?_)
      · refine pv_iincc (pc := 84) 4 1 (by decide) rfl (by decide) rfl (fm_dec dtX11_firstOf 51 rfl) ?_
        dsimp only [List.set_cons_zero, List.set_cons_succ]
        refine pv_goto (pc := 87) 5 (by decide) (fm_dec dtX11_firstOf 52 rfl) ?_
        have e0 : saS D cs S n = 0 := (by rw [← e20, hc23]; decide)
        have e9 : fiS (saS D cs S) (hoS D S) mo (n + 1) = fiS (saS D cs S) (hoS D S) mo n := fi_f (by rintro ⟨-, h1, -⟩; omega)
        rw [nI_succ1]
        exact ih (D.1 - (n + 1)) (by omega) (n + 1) M20 _ ⟨h20, z20⟩ (by omega) rfl (by rw [e9]; exact hw) hq
      · refine pv_aloadn (pc := 26) (n := 0) 0 rfl rfl (fm_dec dtX11_firstOf 15 rfl) ?_
        refine pv_aloadn (pc := 27) (n := 1) 1 rfl rfl (fm_dec dtX11_firstOf 16 rfl) ?_
        refine pv_iload (pc := 28) (i := 4) rfl (fm_dec dtX11_firstOf 17 rfl) ?_
        refine pv_invV2 (k := 0) (d' := 2) (pc := 30) pcv_X11_290 (by decide) rfl (Nat.le_of_ble_eq_true rfl) (by decide) (fm_dec dtX11_firstOf 18 rfl) ?_
        refine c_hours7 hn9 hn8 (h5_ne hD h20.2.1) ?_
        refine pv_then1 ?_
        have er : (hrV M20 n).toInt = ((hoS D S n : Nat) : Int) := hrV_n hD h20.2.1 h20.2.2.2.2.1 ho hn
        refine pv_iloadn (pc := 33) (n := 2) 2 rfl rfl (fm_dec dtX11_firstOf 19 rfl) ?_
        refine pv_icmp_le (pc := 34) 40 (by decide) (fm_dec dtX11_firstOf 20 rfl) (fun hc34 => ?_) (fun hc34 => ?_)
        · refine pv_iloadn (pc := 40) (n := 3) 3 rfl rfl (fm_dec dtX11_firstOf 22 rfl) ?_
          refine pv_iconst (pc := 41) (v := (-1)) (by decide) (fm_dec dtX11_firstOf 23 rfl) ?_
          refine pv_icmp_eq (pc := 42) 81 (by decide) (fm_dec dtX11_firstOf 24 rfl) (fun hc42 => ?_) (fun hc42 => ?_)
          · refine pv_iload (pc := 81) (i := 4) rfl (fm_dec dtX11_firstOf 49 rfl) ?_
            refine pv_istoren (pc := 83) (n := 3) 3 rfl (by decide) rfl (fm_dec dtX11_firstOf 50 rfl) ?_
            dsimp only [List.set_cons_zero, List.set_cons_succ]
            refine pv_iincc (pc := 84) 4 1 (by decide) rfl (by decide) rfl (fm_dec dtX11_firstOf 51 rfl) ?_
            dsimp only [List.set_cons_zero, List.set_cons_succ]
            refine pv_goto (pc := 87) 5 (by decide) (fm_dec dtX11_firstOf 52 rfl) ?_
            have e1 : ¬ saS D cs S n = 0 := (fun e => hc23 (i32_ext (e20.trans (by rw [e]; decide))))
            have e9 : fiS (saS D cs S) (hoS D S) mo (n + 1) = (n : Int) := fi_t ⟨by rw [sc_le] at hc34; omega, by omega, Or.inl (by rw [← hw, hc42]; decide)⟩
            rw [nI_succ1]
            exact ih (D.1 - (n + 1)) (by omega) (n + 1) M20 _ ⟨h20, z20⟩ (by omega) rfl (by rw [e9]; exact hn9) hq
          · have hne : ¬ (fiS (saS D cs S) (hoS D S) mo n) = -1 := (fun e => hc42 (i32_ext (hw.trans (by rw [e]; decide))))
            have hbi : (fiS (saS D cs S) (hoS D S) mo n).toNat < D.1 := (by omega)
            have ewb : w = nI (fiS (saS D cs S) (hoS D S) mo n).toNat := nI_is (by omega) (by omega)
            have hwb9 : (nI (fiS (saS D cs S) (hoS D S) mo n).toNat).toInt = (((fiS (saS D cs S) (hoS D S) mo n).toNat : Nat) : Int) := nI_toInt (by omega)
            have sbb := sa_b (cs := cs) (S := S) (i := (fiS (saS D cs S) (hoS D S) mo n).toNat) hD hbi
            have hbb := ho_b (S := S) (i := (fiS (saS D cs S) (hoS D S) mo n).toNat) hD hbi
            have hw0 := hw
            rw [ewb]
            refine pv_aloadn (pc := 45) (n := 0) 0 rfl rfl (fm_dec dtX11_firstOf 25 rfl) ?_
            refine pv_aloadn (pc := 46) (n := 1) 1 rfl rfl (fm_dec dtX11_firstOf 26 rfl) ?_
            refine pv_iload (pc := 47) (i := 4) rfl (fm_dec dtX11_firstOf 27 rfl) ?_
            refine pv_invV2 (k := 0) (d' := 10) (pc := 49) pcv_X11_355 (by decide) rfl (Nat.le_of_ble_eq_true rfl) (by decide) (fm_dec dtX11_firstOf 28 rfl) ?_
            refine c_msv (i := n) h20 hn (fun M49 r49 g49 k49 e49 => ?_)
            refine pv_then1 ?_
            have h49 := h20.low (fun k j _ x y => g49 k j x y) (g49 0 17 (by decide) (by decide))
            have z49 : mk2 M0 M49 := ⟨fun k j p q => (g49 k j p q).trans (z20.1 k j p q), k49.trans z20.2⟩
            refine pv_i2l (pc := 52) (fm_dec dtX11_firstOf 29 rfl) ?_
            refine pv_aloadn (pc := 53) (n := 0) 0 rfl rfl (fm_dec dtX11_firstOf 30 rfl) ?_
            refine pv_aloadn (pc := 54) (n := 1) 1 rfl rfl (fm_dec dtX11_firstOf 31 rfl) ?_
            refine pv_iloadn (pc := 55) (n := 3) 3 rfl rfl (fm_dec dtX11_firstOf 32 rfl) ?_
            refine pv_invV2 (k := 0) (d' := 2) (pc := 56) pcv_X11_290 (by decide) rfl (Nat.le_of_ble_eq_true rfl) (by decide) (fm_dec dtX11_firstOf 33 rfl) ?_
            refine c_hours7 hwb9 (by omega) (h5_ne hD h49.2.1) ?_
            refine pv_then1 ?_
            refine pv_i2l (pc := 59) (fm_dec dtX11_firstOf 34 rfl) ?_
            refine pv_lmul (pc := 60) (fm_dec dtX11_firstOf 35 rfl) ?_
            refine pv_aloadn (pc := 61) (n := 0) 0 rfl rfl (fm_dec dtX11_firstOf 36 rfl) ?_
            refine pv_aloadn (pc := 62) (n := 1) 1 rfl rfl (fm_dec dtX11_firstOf 37 rfl) ?_
            refine pv_iloadn (pc := 63) (n := 3) 3 rfl rfl (fm_dec dtX11_firstOf 38 rfl) ?_
            refine pv_invV2 (k := 0) (d' := 10) (pc := 64) pcv_X11_355 (by decide) rfl (Nat.le_of_ble_eq_true rfl) (by decide) (fm_dec dtX11_firstOf 39 rfl) ?_
            refine c_msv (i := (fiS (saS D cs S) (hoS D S) mo n).toNat) h49 hbi (fun M64 r64 g64 k64 e64 => ?_)
            refine pv_then1 ?_
            have h64 := h49.low (fun k j _ x y => g64 k j x y) (g64 0 17 (by decide) (by decide))
            have z64 : mk2 M0 M64 := ⟨fun k j p q => (g64 k j p q).trans (z49.1 k j p q), k64.trans z49.2⟩
            refine pv_i2l (pc := 67) (fm_dec dtX11_firstOf 40 rfl) ?_
            refine pv_aloadn (pc := 68) (n := 0) 0 rfl rfl (fm_dec dtX11_firstOf 41 rfl) ?_
            refine pv_aloadn (pc := 69) (n := 1) 1 rfl rfl (fm_dec dtX11_firstOf 42 rfl) ?_
            refine pv_iload (pc := 70) (i := 4) rfl (fm_dec dtX11_firstOf 43 rfl) ?_
            refine pv_invV2 (k := 0) (d' := 2) (pc := 72) pcv_X11_290 (by decide) rfl (Nat.le_of_ble_eq_true rfl) (by decide) (fm_dec dtX11_firstOf 44 rfl) ?_
            refine c_hours7 hn9 hn8 (h5_ne hD h64.2.1) ?_
            refine pv_then1 ?_
            refine pv_i2l (pc := 75) (fm_dec dtX11_firstOf 45 rfl) ?_
            refine pv_lmul (pc := 76) (fm_dec dtX11_firstOf 46 rfl) ?_
            have q1 := mj_i (x := r49.toInt64) (z := hrV M49 (fiS (saS D cs S) (hoS D S) mo n).toNat) (by rw [Int32.toInt_toInt64]; exact e49) (hrV_n hD h49.2.1 h49.2.2.2.2.1 ho hbi) sbn hbb.2
            have q2 := mj_i (x := r64.toInt64) (z := hrV M64 n) (by rw [Int32.toInt_toInt64]; exact e64) (hrV_n hD h64.2.1 h64.2.2.2.2.1 ho hn) sbb hbn.2
            refine pv_lcmp (pc := 77) (fm_dec dtX11_firstOf 47 rfl) ?_
            refine pv_if_le (pc := 78) 84 (by decide) (fm_dec dtX11_firstOf 48 rfl) (fun hc78 => ?_) (fun hc78 => ?_)
            · refine pv_iincc (pc := 84) 4 1 (by decide) rfl (by decide) rfl (fm_dec dtX11_firstOf 51 rfl) ?_
              dsimp only [List.set_cons_zero, List.set_cons_succ]
              refine pv_goto (pc := 87) 5 (by decide) (fm_dec dtX11_firstOf 52 rfl) ?_
              have e1 : ¬ saS D cs S n = 0 := (fun e => hc23 (i32_ext (e20.trans (by rw [e]; decide))))
              have e9 : fiS (saS D cs S) (hoS D S) mo (n + 1) = fiS (saS D cs S) (hoS D S) mo n := fi_f (by rintro ⟨-, -, h1 | h1⟩; exact hne h1; have h2 := lc_gt.mp hc78; omega)
              rw [nI_succ1]
              exact ih (D.1 - (n + 1)) (by omega) (n + 1) M64 _ ⟨h64, z64⟩ (by omega) rfl (by rw [e9]; exact (by rw [← ewb]; exact hw)) hq
            · refine pv_iload (pc := 81) (i := 4) rfl (fm_dec dtX11_firstOf 49 rfl) ?_
              refine pv_istoren (pc := 83) (n := 3) 3 rfl (by decide) rfl (fm_dec dtX11_firstOf 50 rfl) ?_
              dsimp only [List.set_cons_zero, List.set_cons_succ]
              refine pv_iincc (pc := 84) 4 1 (by decide) rfl (by decide) rfl (fm_dec dtX11_firstOf 51 rfl) ?_
              dsimp only [List.set_cons_zero, List.set_cons_succ]
              refine pv_goto (pc := 87) 5 (by decide) (fm_dec dtX11_firstOf 52 rfl) ?_
              have e1 : ¬ saS D cs S n = 0 := (fun e => hc23 (i32_ext (e20.trans (by rw [e]; decide))))
              have e9 : fiS (saS D cs S) (hoS D S) mo (n + 1) = (n : Int) := fi_t ⟨by rw [sc_le] at hc34; omega, by omega, Or.inr (by have h2 : ¬ (r49.toInt64 * (hrV M49 (fiS (saS D cs S) (hoS D S) mo n).toNat).toInt64).toInt ≤ (r64.toInt64 * (hrV M64 n).toInt64).toInt := (fun e => hc78 (lc_gt.mpr e)); omega)⟩
              rw [nI_succ1]
              exact ih (D.1 - (n + 1)) (by omega) (n + 1) M64 _ ⟨h64, z64⟩ (by omega) rfl (by rw [e9]; exact hn9) hq
        · refine pv_goto (pc := 37) 84 (by decide) (fm_dec dtX11_firstOf 21 rfl) ?_
          refine pv_iincc (pc := 84) 4 1 (by decide) rfl (by decide) rfl (fm_dec dtX11_firstOf 51 rfl) ?_
          dsimp only [List.set_cons_zero, List.set_cons_succ]
          refine pv_goto (pc := 87) 5 (by decide) (fm_dec dtX11_firstOf 52 rfl) ?_
          have e9 : fiS (saS D cs S) (hoS D S) mo (n + 1) = fiS (saS D cs S) (hoS D S) mo n := fi_f (by rintro ⟨h1, -⟩; rw [sc_le] at hc34; omega)
          rw [nI_succ1]
          exact ih (D.1 - (n + 1)) (by omega) (n + 1) M20 _ ⟨h20, z20⟩ (by omega) rfl (by rw [e9]; exact hw) hq
set_option maxRecDepth 20000 in
theorem c_mfj {M : fmM} {Q : fmR → fmM → Prop} {D : dD} {cs : tC} {S : aS} {hm : Int32} {mo : Nat} (h : mAq M D cs S) (hm9 : hm.toInt = (mo : Int)) (hq : ∀ (r : Int32) (M' : fmM), mk2 M M' → r.toInt = fiS (saS D cs S) (hoS D S) mo D.1 → Q (.inl (some (.int r))) M') : pvGood Tm 21 qX11_firstOf [.ref 0, .ref 7, .int hm] M Q := by
  refine pvGood_of (Nat.le_of_ble_eq_true rfl) ?_
  show pvEv Tm 21 qX11_firstOf 0 [some (.ref 0), some (.ref 7), some (.int hm), none, none] [] M Q
  refine pv_iconst (pc := 0) (v := (-1)) (by decide) (fm_dec dtX11_firstOf 0 rfl) ?_
  refine pv_istoren (pc := 1) (n := 3) 3 rfl (by decide) rfl (fm_dec dtX11_firstOf 1 rfl) ?_
  dsimp only [List.set_cons_zero, List.set_cons_succ]
  refine pv_iconst (pc := 2) (v := 0) (by decide) (fm_dec dtX11_firstOf 2 rfl) ?_
  refine pv_istore (pc := 3) (i := 4) (by decide) rfl (fm_dec dtX11_firstOf 3 rfl) ?_
  dsimp only [List.set_cons_zero, List.set_cons_succ]
  exact (mfj_loop hm9 D.1 0 M _ ⟨h, fun _ _ _ _ => rfl, rfl⟩ (Nat.zero_le _) rfl (by show (-1 : Int32).toInt = (-1 : Int); decide) hq).up (by decide)
/-- of the first n lives: those that live, and those with a piece -/
def alC (w : Nat) : Nat → Nat
  | 0 => 0
  | n + 1 => alC w n + if w.testBit n = true then 0 else 1
def pcC (S : aS) : Nat → Nat
  | 0 => 0
  | n + 1 => pcC S n + if S.2 n = -1 then 0 else 1
theorem alC_t {w n : Nat} (h : w.testBit n = true) : alC w n = alC w (n + 1) := by
  show _ = alC w n + if w.testBit n = true then 0 else 1
  rw [if_pos h]
  rfl
theorem alC_f {w n : Nat} (h : w.testBit n = false) : alC w n + 1 = alC w (n + 1) := by
  show _ = alC w n + if w.testBit n = true then 0 else 1
  rw [if_neg (by rw [h]; decide)]
theorem pcC_n {S : aS} {n : Nat} (h : S.2 n = -1) : pcC S n = pcC S (n + 1) := by
  show _ = pcC S n + if S.2 n = -1 then 0 else 1
  rw [if_pos h]
  rfl
theorem pcC_y {S : aS} {n : Nat} (h : ¬ S.2 n = -1) : pcC S n + 1 = pcC S (n + 1) := by
  show _ = pcC S n + if S.2 n = -1 then 0 else 1
  rw [if_neg h]
theorem alC_8 : ∀ w, w < 256 → ∀ l, l < 9 → w < 2 ^ l → pop8 w + alC w l = l := by decide +kernel
theorem pcC_b (S : aS) : ∀ n, pcC S n ≤ n := by
  intro n
  induction n with
  | zero => exact Nat.le_refl _
  | succ n ih =>
    by_cases h : S.2 n = -1
    · rw [← pcC_n h]; omega
    · rw [← pcC_y h]; omega
set_option maxRecDepth 20000 in
theorem mal_loop {Q : fmR → fmM → Prop} {M : fmM} {D : dD} {cs : tC} {S : aS} (h : mAq M D cs S) : ∀ (m : Nat) (n : Nat), n ≤ D.1 → D.1 - n = m → Q (.inl (some (.int (nI (alC S.1.2.2.1 D.1))))) M → pvEv Tm 40 qX11_aliveIn 4 [some (.ref 0), some (.ref 7), some (.int (nI (alC S.1.2.2.1 n))), some (.int (nI n))] [] M Q := by
  intro m
  induction m using Nat.strongRecOn with
  | _ m ih =>
    intro n hnD hm hq
    obtain ⟨hD, hY, hM, hd, ht, ho⟩ := h
    have d8 := hD.1
    have hn9 : (nI n).toInt = (n : Int) := nI_toInt (by omega)
    have h39 : (M.1 4 (Int32.toNatClampNeg 0)).toInt = (D.1 : Int) := hY.1
    refine pv_iloadn (pc := 4) (n := 3) 3 rfl rfl (fm_dec dtX11_aliveIn 4 rfl) ?_
    refine pv_aloadn (pc := 5) (n := 0) 0 rfl rfl (fm_dec dtX11_aliveIn 5 rfl) ?_
    refine pv_getR (k := 0) (j := 12) (ci := 11) (pc := 6) 4 rfl (by decide) pfl_X11_23 (by decide) rfl (by decide) (fm_dec dtX11_aliveIn 6 rfl) ?_
    refine pv_iconst (pc := 9) (v := 0) (by decide) (fm_dec dtX11_aliveIn 7 rfl) ?_
    refine pv_iald (k := 4) (n := 6) (pc := 10) (by decide) rfl rfl (fm_inl (by decide)) (fm_dec dtX11_aliveIn 8 rfl) ?_
    refine pv_icmp_ge (pc := 11) 38 (by decide) (fm_dec dtX11_aliveIn 9 rfl) (fun hc11 => ?_) (fun hc11 => ?_)
    · refine pv_iloadn (pc := 38) (n := 2) 2 rfl rfl (fm_dec dtX11_aliveIn 24 rfl) ?_
      exact pv_ireturn (pc := 39) rfl (fm_dec dtX11_aliveIn 25 rfl) (by have e9 : n = D.1 := (by rw [sc_le] at hc11; omega); subst e9; exact hq)
    · have hn : n < D.1 := (by rw [sc_le] at hc11; omega)
      have e0 : M.1 7 (Int32.toNatClampNeg 0) = nI S.1.2.2.1 := nI_is ht.1 (by have := ho.2.2.1; omega)
      refine pv_iloadn (pc := 14) (n := 2) 2 rfl rfl (fm_dec dtX11_aliveIn 10 rfl) ?_
      refine pv_aloadn (pc := 15) (n := 1) 1 rfl rfl (fm_dec dtX11_aliveIn 11 rfl) ?_
      refine pv_iconst (pc := 16) (v := 0) (by decide) (fm_dec dtX11_aliveIn 12 rfl) ?_
      refine pv_iald (k := 7) (n := 14) (pc := 17) (by decide) rfl rfl (fm_inl (by decide)) (fm_dec dtX11_aliveIn 13 rfl) ?_
      refine pv_iloadn (pc := 18) (n := 3) 3 rfl rfl (fm_dec dtX11_aliveIn 14 rfl) ?_
      refine pv_iS2 (d' := 0) (pc := 19) pcs_X11_256 (Nat.le_of_ble_eq_true rfl) (by decide) (fm_dec dtX11_aliveIn 15 rfl) ?_
      refine c_has (fun h19 => ?_) (fun h19 => ?_)
      · refine pv_then1 ?_
        refine pv_if_eq (pc := 22) 29 (by decide) (fm_dec dtX11_aliveIn 16 rfl) (fun hc22 => by exfalso; revert hc22; decide) (fun _ => ?_)
        refine pv_iconst (pc := 25) (v := 0) (by decide) (fm_dec dtX11_aliveIn 17 rfl) ?_
        refine pv_goto (pc := 26) 30 (by decide) (fm_dec dtX11_aliveIn 18 rfl) ?_
        refine pv_iadd (pc := 30) (fm_dec dtX11_aliveIn 20 rfl) ?_
        refine pv_istoren (pc := 31) (n := 2) 2 rfl (by decide) rfl (fm_dec dtX11_aliveIn 21 rfl) ?_
        dsimp only [List.set_cons_zero, List.set_cons_succ]
        refine pv_iincc (pc := 32) 3 1 (by decide) rfl (by decide) rfl (fm_dec dtX11_aliveIn 22 rfl) ?_
        dsimp only [List.set_cons_zero, List.set_cons_succ]
        refine pv_goto (pc := 35) 4 (by decide) (fm_dec dtX11_aliveIn 23 rfl) ?_
        rw [Int32.add_zero, nI_succ1, alC_t ((has8 _ ho.2.2.1 n (by omega)).mp (by rw [← e0]; exact h19))]
        exact ih (D.1 - (n + 1)) (by omega) (n + 1) (by omega) rfl hq
      · refine pv_then1 ?_
        refine pv_if_eq (pc := 22) 29 (by decide) (fm_dec dtX11_aliveIn 16 rfl) (fun _ => ?_) (fun hc22 => by exfalso; revert hc22; decide)
        refine pv_iconst (pc := 29) (v := 1) (by decide) (fm_dec dtX11_aliveIn 19 rfl) ?_
        refine pv_iadd (pc := 30) (fm_dec dtX11_aliveIn 20 rfl) ?_
        refine pv_istoren (pc := 31) (n := 2) 2 rfl (by decide) rfl (fm_dec dtX11_aliveIn 21 rfl) ?_
        dsimp only [List.set_cons_zero, List.set_cons_succ]
        refine pv_iincc (pc := 32) 3 1 (by decide) rfl (by decide) rfl (fm_dec dtX11_aliveIn 22 rfl) ?_
        dsimp only [List.set_cons_zero, List.set_cons_succ]
        refine pv_goto (pc := 35) 4 (by decide) (fm_dec dtX11_aliveIn 23 rfl) ?_
        rw [nI_succ1, nI_succ1, alC_f (by cases e8 : S.1.2.2.1.testBit n with | false => rfl | true => exact absurd (by rw [e0]; exact (has8 _ ho.2.2.1 n (by omega)).mpr e8) h19)]
        exact ih (D.1 - (n + 1)) (by omega) (n + 1) (by omega) rfl hq
set_option maxRecDepth 20000 in
theorem c_mals {M : fmM} {Q : fmR → fmM → Prop} {D : dD} {cs : tC} {S : aS} (h : mAq M D cs S) (hq : Q (.inl (some (.int (nI (alC S.1.2.2.1 D.1))))) M) : pvGood Tm 40 qX11_aliveIn [.ref 0, .ref 7] M Q := by
  refine pvGood_of (Nat.le_of_ble_eq_true rfl) ?_
  show pvEv Tm 40 qX11_aliveIn 0 [some (.ref 0), some (.ref 7), none, none] [] M Q
  refine pv_iconst (pc := 0) (v := 0) (by decide) (fm_dec dtX11_aliveIn 0 rfl) ?_
  refine pv_istoren (pc := 1) (n := 2) 2 rfl (by decide) rfl (fm_dec dtX11_aliveIn 1 rfl) ?_
  dsimp only [List.set_cons_zero, List.set_cons_succ]
  refine pv_iconst (pc := 2) (v := 0) (by decide) (fm_dec dtX11_aliveIn 2 rfl) ?_
  refine pv_istoren (pc := 3) (n := 3) 3 rfl (by decide) rfl (fm_dec dtX11_aliveIn 3 rfl) ?_
  dsimp only [List.set_cons_zero, List.set_cons_succ]
  have d8 := h.1.1
  exact mal_loop h D.1 0 (by omega) rfl hq
def mstT (M : fmM) (D : dD) (S : aS) : Prop := (M.1 8 0).toInt = (S.1.2.2.1 : Int) ∧ (M.1 8 10).toInt = (S.1.1 : Int) ∧ (M.1 8 9).toInt = (S.1.2.1 : Int) ∧ (M.1 8 11).toInt = (S.1.2.2.2.1 : Int) ∧ (M.1 8 12).toInt = (S.1.2.2.2.2.1 : Int) ∧ (M.1 8 13).toInt = S.1.2.2.2.2.2 ∧ ∀ i, i < D.1 → (M.1 8 (1 + i)).toInt = if S.2 i = -1 then -1000 else (S.1.1 : Int) - S.2 i
theorem mstT.of {M M' : fmM} {D : dD} {S : aS} (h : mstT M D S) (e : ∀ j, M'.1 8 j = M.1 8 j) : mstT M' D S := by
  obtain ⟨a, b, c, d, e1, f, g⟩ := h
  exact ⟨by rw [e]; exact a, by rw [e]; exact b, by rw [e]; exact c, by rw [e]; exact d, by rw [e]; exact e1, by rw [e]; exact f, fun i hi => by rw [e]; exact g i hi⟩
theorem mstT.no {M : fmM} {D : dD} {S : aS} {i : Nat} (h : mstT M D S) (ho : stO D S) (hi : i < D.1) : M.1 8 (1 + i) = -1000 ↔ S.2 i = -1 := by
  have h9 := h.2.2.2.2.2.2 i hi
  have b := ho.2.2.2.2.2.2.1 i hi
  have zm : (-1000 : Int32).toInt = -1000 := by decide
  constructor
  · intro e
    rw [e, zm] at h9
    split at h9
    · assumption
    · omega
  · intro e
    rw [if_pos e] at h9
    exact i32_ext (h9.trans zm.symm)
set_option maxRecDepth 20000 in
theorem c_hasPiece7T {M : fmM} {Q : fmR → fmM → Prop} {i : Int32} {k : Nat} (hi : i.toInt = k) (hk : k < 8) (ht : ¬ M.1 8 (1 + k) = -1000 → Q (.inl (some (.int 1))) M) (hf : M.1 8 (1 + k) = -1000 → Q (.inl (some (.int 0))) M) : pvGood Tm 0 qX11_hasPiece [.ref 8, .int i] M Q := by
  refine pvGood_of (Nat.le_of_ble_eq_true rfl) ?_
  show pvEv Tm 0 qX11_hasPiece 0 [some (.ref 8), some (.int i)] [] M Q
  refine pv_aloadn (pc := 0) (n := 0) 0 rfl rfl (fm_dec dtX11_hasPiece 0 rfl) ?_
  refine pv_iconst (pc := 1) (v := 1) (by decide) (fm_dec dtX11_hasPiece 1 rfl) ?_
  refine pv_iloadn (pc := 2) (n := 1) 1 rfl rfl (fm_dec dtX11_hasPiece 2 rfl) ?_
  refine pv_iadd (pc := 3) (fm_dec dtX11_hasPiece 3 rfl) ?_
  refine pv_iald (k := 8) (n := 14) (pc := 4) (by decide) rfl rfl (ix_in (ix_1 hi (by omega)) (by omega)) (fm_dec dtX11_hasPiece 4 rfl) ?_
  refine pv_sipush (pc := 5) (v := (-1000)) (by decide) (fm_dec dtX11_hasPiece 5 rfl) ?_
  refine pv_icmp_eq (pc := 8) 15 (by decide) (fm_dec dtX11_hasPiece 6 rfl) (fun hc8 => ?_) (fun hc8 => ?_)
  · refine pv_iconst (pc := 15) (v := 0) (by decide) (fm_dec dtX11_hasPiece 9 rfl) ?_
    exact pv_zreturn (pc := 16) rfl (by first | exact Or.inr rfl | exact Or.inl rfl) (fm_dec dtX11_hasPiece 10 rfl) (by first | exact ht (by have h9 := i32_cl (ix_1 hi (by omega)); simp only [h9] at *; assumption) | exact hf (by have h9 := i32_cl (ix_1 hi (by omega)); simp only [h9] at *; assumption))
  · refine pv_iconst (pc := 11) (v := 1) (by decide) (fm_dec dtX11_hasPiece 7 rfl) ?_
    refine pv_goto (pc := 12) 16 (by decide) (fm_dec dtX11_hasPiece 8 rfl) ?_
    exact pv_zreturn (pc := 16) rfl (by first | exact Or.inr rfl | exact Or.inl rfl) (fm_dec dtX11_hasPiece 10 rfl) (by first | exact ht (by have h9 := i32_cl (ix_1 hi (by omega)); simp only [h9] at *; assumption) | exact hf (by have h9 := i32_cl (ix_1 hi (by omega)); simp only [h9] at *; assumption))
/-- the hours that a piece takes now -/
def hrVT (M : fmM) (k : Nat) : Int32 := if M.1 8 (1 + k) = -1000 then M.1 (35 + k) 3 else pvMx true 1 (M.1 (35 + k) 3 / M.1 4 5)
set_option maxRecDepth 20000 in
theorem c_hours7T {M : fmM} {Q : fmR → fmM → Prop} {i : Int32} {k : Nat} (hi : i.toInt = k) (hk : k < 8) (h5 : ¬ M.1 4 5 = 0) (hq : Q (.inl (some (.int (hrVT M k)))) M) : pvGood Tm 2 qX11_hoursFor [.ref 0, .ref 8, .int i] M Q := by
  refine pvGood_of (Nat.le_of_ble_eq_true rfl) ?_
  show pvEv Tm 2 qX11_hoursFor 0 [some (.ref 0), some (.ref 8), some (.int i)] [] M Q
  refine pv_aloadn (pc := 0) (n := 1) 1 rfl rfl (fm_dec dtX11_hoursFor 0 rfl) ?_
  refine pv_iloadn (pc := 1) (n := 2) 2 rfl rfl (fm_dec dtX11_hoursFor 1 rfl) ?_
  refine pv_iS2 (d' := 0) (pc := 2) pcs_X11_283 (Nat.le_of_ble_eq_true rfl) (by decide) (fm_dec dtX11_hoursFor 2 rfl) ?_
  refine c_hasPiece7T hi hk (fun h2 => ?_) (fun h2 => ?_)
  · refine pv_then1 ?_
    refine pv_if_eq (pc := 5) 16 (by decide) (fm_dec dtX11_hoursFor 3 rfl) (fun hc5 => by exfalso; revert hc5; decide) (fun _ => ?_)
    refine pv_aloadn (pc := 8) (n := 0) 0 rfl rfl (fm_dec dtX11_hoursFor 4 rfl) ?_
    refine pv_iloadn (pc := 9) (n := 2) 2 rfl rfl (fm_dec dtX11_hoursFor 5 rfl) ?_
    refine pv_invV1 (k := 0) (d' := 1) (pc := 10) pcv_X11_287 (by decide) rfl (Nat.le_of_ble_eq_true rfl) (by decide) (fm_dec dtX11_hoursFor 6 rfl) ?_
    refine c_renew hi hk h5 ?_
    refine pv_then1 ?_
    refine pv_goto (pc := 13) 24 (by decide) (fm_dec dtX11_hoursFor 7 rfl) ?_
    exact pv_ireturn (pc := 24) rfl (fm_dec dtX11_hoursFor 14 rfl) (by have h9 := hq; unfold hrVT at h9; rw [if_neg h2] at h9; exact h9)
  · refine pv_then1 ?_
    refine pv_if_eq (pc := 5) 16 (by decide) (fm_dec dtX11_hoursFor 3 rfl) (fun _ => ?_) (fun hc5 => by exfalso; revert hc5; decide)
    refine pv_aloadn (pc := 16) (n := 0) 0 rfl rfl (fm_dec dtX11_hoursFor 8 rfl) ?_
    refine pv_getR (k := 0) (j := 14) (ci := 11) (pc := 17) 17 rfl (by decide) pfl_X11_31 (by decide) rfl (by decide) (fm_dec dtX11_hoursFor 9 rfl) ?_
    refine pv_iloadn (pc := 20) (n := 2) 2 rfl rfl (fm_dec dtX11_hoursFor 10 rfl) ?_
    refine pv_aald (k := 17) (n := 8) (r := (35 + k)) (pc := 21) (by decide) (Or.inr (Or.inr rfl)) rfl (rw_life.inb hi hk) (rw_life.at hi hk) (rw_life.2.2.2 _ hk).2.1 (fm_dec dtX11_hoursFor 11 rfl) ?_
    refine pv_iconst (pc := 22) (v := 3) (by decide) (fm_dec dtX11_hoursFor 12 rfl) ?_
    refine pv_iald (k := (35 + k)) (n := 6) (pc := 23) (rw_life.2.2.2 _ hk).2.2.1 (rw_life.2.2.2 _ hk).2.2.2.1 (rw_life.2.2.2 _ hk).2.2.2.2 (fm_inl (by decide)) (fm_dec dtX11_hoursFor 13 rfl) ?_
    exact pv_ireturn (pc := 24) rfl (fm_dec dtX11_hoursFor 14 rfl) (by have h9 := hq; unfold hrVT at h9; rw [if_pos h2] at h9; exact h9)
set_option maxRecDepth 20000 in
theorem c_msdT {M : fmM} {Q : fmR → fmM → Prop} {D : dD} {S : aS} {i : Nat} (hD : dOk D) (hY : mdw M D) (hs : mstT M D S) (ho : stO D S) (hi : i < D.1) (hq : Q (.inl (some (.int (nI (sdA D S.1.2.2.1 i))))) M) : pvGood Tm 1 qX11_isByDead [.ref 0, .ref 8, .int (nI i)] M Q := by
  refine pvGood_of (Nat.le_of_ble_eq_true rfl) ?_
  show pvEv Tm 1 qX11_isByDead 0 [some (.ref 0), some (.ref 8), some (.int (nI i))] [] M Q
  have d8 := hD.1
  have hi9 : (nI i).toInt = (i : Int) := nI_toInt (by omega)
  have hi8 : i < 8 := (by omega)
  have g5 : (M.1 (35 + i) (Int32.toNatClampNeg 5)).toInt = chB D i := hY.2.2.2.1 i hi 5 (by decide)
  have zm : (-1 : Int32).toInt = -1 := (by decide)
  have ec : D.2.1 i 5 = chB D i := rfl
  have e0 : M.1 8 (Int32.toNatClampNeg 0) = nI S.1.2.2.1 := nI_is hs.1 (by have := ho.2.2.1; omega)
  refine pv_aloadn (pc := 0) (n := 0) 0 rfl rfl (fm_dec dtX11_isByDead 0 rfl) ?_
  refine pv_getR (k := 0) (j := 14) (ci := 11) (pc := 1) 17 rfl (by decide) pfl_X11_31 (by decide) rfl (by decide) (fm_dec dtX11_isByDead 1 rfl) ?_
  refine pv_iloadn (pc := 4) (n := 2) 2 rfl rfl (fm_dec dtX11_isByDead 2 rfl) ?_
  refine pv_aald (k := 17) (n := 8) (r := (35 + i)) (pc := 5) (by decide) (Or.inr (Or.inr rfl)) rfl (rw_life.inb hi9 hi8) (rw_life.at hi9 hi8) (rw_life.2.2.2 _ hi8).2.1 (fm_dec dtX11_isByDead 3 rfl) ?_
  refine pv_iconst (pc := 6) (v := 5) (by decide) (fm_dec dtX11_isByDead 4 rfl) ?_
  refine pv_iald (k := (35 + i)) (n := 6) (pc := 7) (rw_life.2.2.2 _ hi8).2.2.1 (rw_life.2.2.2 _ hi8).2.2.2.1 (rw_life.2.2.2 _ hi8).2.2.2.2 (fm_inl (by decide)) (fm_dec dtX11_isByDead 5 rfl) ?_
  refine pv_iconst (pc := 8) (v := (-1)) (by decide) (fm_dec dtX11_isByDead 6 rfl) ?_
  refine pv_icmp_eq (pc := 9) 33 (by decide) (fm_dec dtX11_isByDead 7 rfl) (fun hc9 => ?_) (fun hc9 => ?_)
  · refine pv_iconst (pc := 33) (v := 0) (by decide) (fm_dec dtX11_isByDead 21 rfl) ?_
    exact pv_ireturn (pc := 34) rfl (fm_dec dtX11_isByDead 22 rfl) (by have h9 := hq; unfold sdA at h9; rw [if_pos (by have h8 := congrArg Int32.toInt hc9; omega)] at h9; exact h9)
  · have hn9 : ¬ chB D i < 0 := (by intro h9; apply hc9; apply i32_ext; have h8 := (hD.2.2.1 i hi).2.2.2.2.2; omega)
    obtain ⟨k, hk, hk8, hkb, hkx⟩ := by_d hD hi g5 hn9
    refine pv_aloadn (pc := 12) (n := 1) 1 rfl rfl (fm_dec dtX11_isByDead 8 rfl) ?_
    refine pv_iconst (pc := 13) (v := 0) (by decide) (fm_dec dtX11_isByDead 9 rfl) ?_
    refine pv_iald (k := 8) (n := 14) (pc := 14) (by decide) rfl rfl (fm_inl (by decide)) (fm_dec dtX11_isByDead 10 rfl) ?_
    refine pv_aloadn (pc := 15) (n := 0) 0 rfl rfl (fm_dec dtX11_isByDead 11 rfl) ?_
    refine pv_getR (k := 0) (j := 14) (ci := 11) (pc := 16) 17 rfl (by decide) pfl_X11_31 (by decide) rfl (by decide) (fm_dec dtX11_isByDead 12 rfl) ?_
    refine pv_iloadn (pc := 19) (n := 2) 2 rfl rfl (fm_dec dtX11_isByDead 13 rfl) ?_
    refine pv_aald (k := 17) (n := 8) (r := (35 + i)) (pc := 20) (by decide) (Or.inr (Or.inr rfl)) rfl (rw_life.inb hi9 hi8) (rw_life.at hi9 hi8) (rw_life.2.2.2 _ hi8).2.1 (fm_dec dtX11_isByDead 14 rfl) ?_
    refine pv_iconst (pc := 21) (v := 5) (by decide) (fm_dec dtX11_isByDead 15 rfl) ?_
    refine pv_iald (k := (35 + i)) (n := 6) (pc := 22) (rw_life.2.2.2 _ hi8).2.2.1 (rw_life.2.2.2 _ hi8).2.2.2.1 (rw_life.2.2.2 _ hi8).2.2.2.2 (fm_inl (by decide)) (fm_dec dtX11_isByDead 16 rfl) ?_
    refine pv_iS2 (d' := 0) (pc := 23) pcs_X11_256 (Nat.le_of_ble_eq_true rfl) (by decide) (fm_dec dtX11_isByDead 17 rfl) ?_
    refine c_has (fun h23 => ?_) (fun h23 => ?_)
    · refine pv_then1 ?_
      refine pv_if_eq (pc := 26) 33 (by decide) (fm_dec dtX11_isByDead 18 rfl) (fun hc26 => by exfalso; revert hc26; decide) (fun _ => ?_)
      refine pv_iconst (pc := 29) (v := 1) (by decide) (fm_dec dtX11_isByDead 19 rfl) ?_
      refine pv_goto (pc := 30) 34 (by decide) (fm_dec dtX11_isByDead 20 rfl) ?_
      exact pv_ireturn (pc := 34) rfl (fm_dec dtX11_isByDead 22 rfl) (by have h9 := hq; unfold sdA at h9; rw [if_neg (by omega), ec, hkb, Int.toNat_natCast, if_pos ((has8 _ ho.2.2.1 k hk8).mp (by rw [← e0, ← hkx]; exact h23))] at h9; exact h9)
    · refine pv_then1 ?_
      refine pv_if_eq (pc := 26) 33 (by decide) (fm_dec dtX11_isByDead 18 rfl) (fun _ => ?_) (fun hc26 => by exfalso; revert hc26; decide)
      refine pv_iconst (pc := 33) (v := 0) (by decide) (fm_dec dtX11_isByDead 21 rfl) ?_
      exact pv_ireturn (pc := 34) rfl (fm_dec dtX11_isByDead 22 rfl) (by have h9 := hq; unfold sdA at h9; rw [if_neg (by omega), ec, hkb, Int.toNat_natCast, if_neg (fun h8 => h23 (by rw [e0, hkx]; exact (has8 _ ho.2.2.1 k hk8).mpr h8))] at h9; exact h9)
set_option maxRecDepth 20000 in
theorem c_mwrgGT {M : fmM} {Q : fmR → fmM → Prop} {D : dD} {cs : tC} {S : aS} {i a wN : Nat} {wr w : Int32} (hD : dOk D) (hY : mdw M D) (hL : lwM M cs) (hd : cs = [] ∨ dpB 23 0 cs = some 1) (hs : mstT M D S) (ho : stO D S) (hi : i < D.1) (hw : w.toInt = (wN : Int)) (hw2 : wN ≤ 300) (hr : wr.toInt = (wN : Int) - a) (ha : a ≤ 400) (hq : ∀ (M' : fmM) (r : Int32), (∀ k j, k ≠ 5 → k ≠ 6 → M'.1 k j = M.1 k j) → M'.2 = M.2 → r.toInt = wrS D cs S.1.2.2.1 wN i a → Q (.inl (some (.int r))) M') : pvGood Tm 5 qX11_wrongIn [.ref 0, .ref 8, .int (nI i), .int wr, .int w] M Q := by
  refine pvGood_of (Nat.le_of_ble_eq_true rfl) ?_
  show pvEv Tm 5 qX11_wrongIn 0 [some (.ref 0), some (.ref 8), some (.int (nI i)), some (.int wr), some (.int w)] [] M Q
  have d8 := hD.1
  have hi9 : (nI i).toInt = (i : Int) := nI_toInt (by omega)
  have hi8 : i < 8 := (by omega)
  have b2 := (hD.2.2.1 i hi).2.2.1
  have g2 : M.1 (35 + i) (Int32.toNatClampNeg 2) = nI (D.2.1 i 2).toNat := nI_is (by have h9 : (M.1 (35 + i) (Int32.toNatClampNeg 2)).toInt = D.2.1 i 2 := hY.2.2.2.1 i hi 2 (by decide); omega) (by omega)
  have ea : w - wr = nI a := nI_is (by rw [sc_sub (by omega) (by omega)]; omega) (by omega)
  refine pv_aloadn (pc := 0) (n := 0) 0 rfl rfl (fm_dec dtX11_wrongIn 0 rfl) ?_
  refine pv_iload (pc := 1) (i := 4) rfl (fm_dec dtX11_wrongIn 1 rfl) ?_
  refine pv_iloadn (pc := 3) (n := 3) 3 rfl rfl (fm_dec dtX11_wrongIn 2 rfl) ?_
  refine pv_isub (pc := 4) (fm_dec dtX11_wrongIn 3 rfl) ?_
  refine pv_aloadn (pc := 5) (n := 0) 0 rfl rfl (fm_dec dtX11_wrongIn 4 rfl) ?_
  refine pv_iloadn (pc := 6) (n := 2) 2 rfl rfl (fm_dec dtX11_wrongIn 5 rfl) ?_
  refine pv_iload (pc := 7) (i := 4) rfl (fm_dec dtX11_wrongIn 6 rfl) ?_
  refine pv_invV2 (k := 0) (d' := 0) (pc := 9) pcv_X11_263 (by decide) rfl (Nat.le_of_ble_eq_true rfl) (by decide) (fm_dec dtX11_wrongIn 7 rfl) ?_
  refine c_myr hD hY hi hw hw2 ?_
  refine pv_then1 ?_
  refine pv_aloadn (pc := 12) (n := 0) 0 rfl rfl (fm_dec dtX11_wrongIn 8 rfl) ?_
  refine pv_getR (k := 0) (j := 14) (ci := 11) (pc := 13) 17 rfl (by decide) pfl_X11_31 (by decide) rfl (by decide) (fm_dec dtX11_wrongIn 9 rfl) ?_
  refine pv_iloadn (pc := 16) (n := 2) 2 rfl rfl (fm_dec dtX11_wrongIn 10 rfl) ?_
  refine pv_aald (k := 17) (n := 8) (r := (35 + i)) (pc := 17) (by decide) (Or.inr (Or.inr rfl)) rfl (rw_life.inb hi9 hi8) (rw_life.at hi9 hi8) (rw_life.2.2.2 _ hi8).2.1 (fm_dec dtX11_wrongIn 11 rfl) ?_
  refine pv_iconst (pc := 18) (v := 2) (by decide) (fm_dec dtX11_wrongIn 12 rfl) ?_
  refine pv_iald (k := (35 + i)) (n := 6) (pc := 19) (rw_life.2.2.2 _ hi8).2.2.1 (rw_life.2.2.2 _ hi8).2.2.2.1 (rw_life.2.2.2 _ hi8).2.2.2.2 (fm_inl (by decide)) (fm_dec dtX11_wrongIn 13 rfl) ?_
  refine pv_aloadn (pc := 20) (n := 0) 0 rfl rfl (fm_dec dtX11_wrongIn 14 rfl) ?_
  refine pv_aloadn (pc := 21) (n := 1) 1 rfl rfl (fm_dec dtX11_wrongIn 15 rfl) ?_
  refine pv_iloadn (pc := 22) (n := 2) 2 rfl rfl (fm_dec dtX11_wrongIn 16 rfl) ?_
  refine pv_invV2 (k := 0) (d' := 1) (pc := 23) pcv_X11_266 (by decide) rfl (Nat.le_of_ble_eq_true rfl) (by decide) (fm_dec dtX11_wrongIn 17 rfl) ?_
  refine c_msdT hD hY hs ho hi ?_
  refine pv_then1 ?_
  refine pv_aloadn (pc := 26) (n := 0) 0 rfl rfl (fm_dec dtX11_wrongIn 18 rfl) ?_
  refine pv_iloadn (pc := 27) (n := 2) 2 rfl rfl (fm_dec dtX11_wrongIn 19 rfl) ?_
  refine pv_iloadn (pc := 28) (n := 3) 3 rfl rfl (fm_dec dtX11_wrongIn 20 rfl) ?_
  refine pv_iload (pc := 29) (i := 4) rfl (fm_dec dtX11_wrongIn 21 rfl) ?_
  refine pv_invV3 (k := 0) (d' := 0) (pc := 31) pcv_X11_270 (by decide) rfl (Nat.le_of_ble_eq_true rfl) (by decide) (fm_dec dtX11_wrongIn 22 rfl) ?_
  refine c_mcg hD hY ?_
  refine pv_then1 ?_
  refine pv_invV5 (k := 0) (d' := 4) (pc := 34) pcv_X11_273 (by decide) rfl (Nat.le_of_ble_eq_true rfl) (by decide) (fm_dec dtX11_wrongIn 23 rfl) ?_
  refine c_mlw hL hd (fun M34 g34 h34 => ?_)
  refine pv_then1 ?_
  exact pv_ireturn (pc := 37) rfl (fm_dec dtX11_wrongIn 24 rfl) (hq M34 _ g34 h34 (by unfold wrS; rw [ea, g2, hi9, hw, hr]))
set_option maxRecDepth 20000 in
theorem c_mcoGT {M : fmM} {Q : fmR → fmM → Prop} {D : dD} {cs : tC} {S : aS} {i wN : Nat} {ag : Int} {wr w : Int32} (hD : dOk D) (hY : mdw M D) (hL : lwM M cs) (hd : cs = [] ∨ dpB 23 0 cs = some 1) (hs : mstT M D S) (ho : stO D S) (hi : i < D.1) (hw : w.toInt = (wN : Int)) (hw2 : wN ≤ 300) (hr : wr.toInt = if ag = -1 then -1000 else (wN : Int) - ag) (ha : -1 ≤ ag ∧ ag ≤ 400) (hq : ∀ (M' : fmM) (r : Int32), (∀ k j, k ≠ 5 → k ≠ 6 → M'.1 k j = M.1 k j) → M'.2 = M.2 → r.toInt = coA D cs S.1.2.2.1 wN i ag → Q (.inl (some (.int r))) M') : pvGood Tm 6 qX11_costIn [.ref 0, .ref 8, .int (nI i), .int wr, .int w] M Q := by
  refine pvGood_of (Nat.le_of_ble_eq_true rfl) ?_
  show pvEv Tm 6 qX11_costIn 0 [some (.ref 0), some (.ref 8), some (.int (nI i)), some (.int wr), some (.int w)] [] M Q
  have d8 := hD.1
  have hi9 : (nI i).toInt = (i : Int) := nI_toInt (by omega)
  have hi8 : i < 8 := (by omega)
  have zm : (-1000 : Int32).toInt = -1000 := (by decide)
  have z64 : (64 : Int32).toInt = 64 := (by decide)
  have b2 := (hD.2.2.1 i hi).2.2.1
  have b3 := hD.2.2.2.2.2.1
  have b4 := hD.2.2.2.2.2.2.1
  have g2 : (M.1 (35 + i) (Int32.toNatClampNeg 2)).toInt = D.2.1 i 2 := hY.2.2.2.1 i hi 2 (by decide)
  have g3 : (M.1 4 (Int32.toNatClampNeg 3)).toInt = D.2.2.2.2 3 := hY.2.2.1 3 (by decide) (by decide)
  have g4 : (M.1 4 (Int32.toNatClampNeg 4)).toInt = D.2.2.2.2 4 := hY.2.2.1 4 (by decide) (by decide)
  refine pv_iloadn (pc := 0) (n := 3) 3 rfl rfl (fm_dec dtX11_costIn 0 rfl) ?_
  refine pv_sipush (pc := 1) (v := (-1000)) (by decide) (fm_dec dtX11_costIn 1 rfl) ?_
  refine pv_icmp_ne (pc := 4) 28 (by decide) (fm_dec dtX11_costIn 2 rfl) (fun hc4 => ?_) (fun hc4 => ?_)
  · have hne : ¬ ag = -1 := (fun h9 => hc4 (i32_ext (by rw [hr, if_pos h9, zm])))
    rw [if_neg hne] at hr
    refine pv_aloadn (pc := 28) (n := 0) 0 rfl rfl (fm_dec dtX11_costIn 17 rfl) ?_
    refine pv_getR (k := 0) (j := 12) (ci := 11) (pc := 29) 4 rfl (by decide) pfl_X11_23 (by decide) rfl (by decide) (fm_dec dtX11_costIn 18 rfl) ?_
    refine pv_iconst (pc := 32) (v := 4) (by decide) (fm_dec dtX11_costIn 19 rfl) ?_
    refine pv_iald (k := 4) (n := 6) (pc := 33) (by decide) rfl rfl (fm_inl (by decide)) (fm_dec dtX11_costIn 20 rfl) ?_
    refine pv_aloadn (pc := 34) (n := 0) 0 rfl rfl (fm_dec dtX11_costIn 21 rfl) ?_
    refine pv_getR (k := 0) (j := 14) (ci := 11) (pc := 35) 17 rfl (by decide) pfl_X11_31 (by decide) rfl (by decide) (fm_dec dtX11_costIn 22 rfl) ?_
    refine pv_iloadn (pc := 38) (n := 2) 2 rfl rfl (fm_dec dtX11_costIn 23 rfl) ?_
    refine pv_aald (k := 17) (n := 8) (r := (35 + i)) (pc := 39) (by decide) (Or.inr (Or.inr rfl)) rfl (rw_life.inb hi9 hi8) (rw_life.at hi9 hi8) (rw_life.2.2.2 _ hi8).2.1 (fm_dec dtX11_costIn 24 rfl) ?_
    refine pv_iconst (pc := 40) (v := 2) (by decide) (fm_dec dtX11_costIn 25 rfl) ?_
    refine pv_iald (k := (35 + i)) (n := 6) (pc := 41) (rw_life.2.2.2 _ hi8).2.2.1 (rw_life.2.2.2 _ hi8).2.2.2.1 (rw_life.2.2.2 _ hi8).2.2.2.2 (fm_inl (by decide)) (fm_dec dtX11_costIn 26 rfl) ?_
    refine pv_imul (pc := 42) (fm_dec dtX11_costIn 27 rfl) ?_
    refine pv_aloadn (pc := 43) (n := 0) 0 rfl rfl (fm_dec dtX11_costIn 28 rfl) ?_
    refine pv_aloadn (pc := 44) (n := 1) 1 rfl rfl (fm_dec dtX11_costIn 29 rfl) ?_
    refine pv_iloadn (pc := 45) (n := 2) 2 rfl rfl (fm_dec dtX11_costIn 30 rfl) ?_
    refine pv_iloadn (pc := 46) (n := 3) 3 rfl rfl (fm_dec dtX11_costIn 31 rfl) ?_
    refine pv_iload (pc := 47) (i := 4) rfl (fm_dec dtX11_costIn 32 rfl) ?_
    refine pv_invV4 (k := 0) (d' := 5) (pc := 49) pcv_X11_276 (by decide) rfl (Nat.le_of_ble_eq_true rfl) (by decide) (fm_dec dtX11_costIn 33 rfl) ?_
    refine c_mwrgGT (a := ag.toNat) hD hY hL hd hs ho hi hw hw2 (by omega) (by omega) (fun M49 r49 g49 h49 e49 => ?_)
    refine pv_then1 ?_
    refine pv_imul (pc := 52) (fm_dec dtX11_costIn 34 rfl) ?_
    exact pv_ireturn (pc := 53) rfl (fm_dec dtX11_costIn 35 rfl) (hq M49 _ g49 h49 (by have h1 := mul_b (a := D.2.2.2.2 4) (b := D.2.1 i 2) (m := 9) (n := 99) (by omega) (by omega) (by omega) (by omega); have hw9 := wrS_b (D := D) (cs := cs) (dead := S.1.2.2.1) (w := wN) (i := i) (age := ag.toNat); have h2 := mul_b (a := D.2.2.2.2 4 * D.2.1 i 2) (b := wrS D cs S.1.2.2.1 wN i ag.toNat) (m := 891) (n := 64) (by omega) (by omega) hw9.1 hw9.2; have e1 : (M.1 4 (Int32.toNatClampNeg 4) * M.1 (35 + i) (Int32.toNatClampNeg 2)).toInt = D.2.2.2.2 4 * D.2.1 i 2 := (by rw [sc_mul (by rw [g4, g2]; omega) (by rw [g4, g2]; omega), g4, g2]); rw [sc_mul (by rw [e1, e49]; omega) (by rw [e1, e49]; omega), e1, e49]; unfold coA; rw [if_neg hne]))
  · refine pv_bipush (pc := 7) (v := 64) (by decide) (fm_dec dtX11_costIn 3 rfl) ?_
    refine pv_aloadn (pc := 9) (n := 0) 0 rfl rfl (fm_dec dtX11_costIn 4 rfl) ?_
    refine pv_getR (k := 0) (j := 12) (ci := 11) (pc := 10) 4 rfl (by decide) pfl_X11_23 (by decide) rfl (by decide) (fm_dec dtX11_costIn 5 rfl) ?_
    refine pv_iconst (pc := 13) (v := 3) (by decide) (fm_dec dtX11_costIn 6 rfl) ?_
    refine pv_iald (k := 4) (n := 6) (pc := 14) (by decide) rfl rfl (fm_inl (by decide)) (fm_dec dtX11_costIn 7 rfl) ?_
    refine pv_imul (pc := 15) (fm_dec dtX11_costIn 8 rfl) ?_
    refine pv_aloadn (pc := 16) (n := 0) 0 rfl rfl (fm_dec dtX11_costIn 9 rfl) ?_
    refine pv_getR (k := 0) (j := 14) (ci := 11) (pc := 17) 17 rfl (by decide) pfl_X11_31 (by decide) rfl (by decide) (fm_dec dtX11_costIn 10 rfl) ?_
    refine pv_iloadn (pc := 20) (n := 2) 2 rfl rfl (fm_dec dtX11_costIn 11 rfl) ?_
    refine pv_aald (k := 17) (n := 8) (r := (35 + i)) (pc := 21) (by decide) (Or.inr (Or.inr rfl)) rfl (rw_life.inb hi9 hi8) (rw_life.at hi9 hi8) (rw_life.2.2.2 _ hi8).2.1 (fm_dec dtX11_costIn 12 rfl) ?_
    refine pv_iconst (pc := 22) (v := 2) (by decide) (fm_dec dtX11_costIn 13 rfl) ?_
    refine pv_iald (k := (35 + i)) (n := 6) (pc := 23) (rw_life.2.2.2 _ hi8).2.2.1 (rw_life.2.2.2 _ hi8).2.2.2.1 (rw_life.2.2.2 _ hi8).2.2.2.2 (fm_inl (by decide)) (fm_dec dtX11_costIn 14 rfl) ?_
    refine pv_imul (pc := 24) (fm_dec dtX11_costIn 15 rfl) ?_
    refine pv_goto (pc := 25) 53 (by decide) (fm_dec dtX11_costIn 16 rfl) ?_
    exact pv_ireturn (pc := 53) rfl (fm_dec dtX11_costIn 35 rfl) (hq M _ (fun _ _ _ _ => rfl) rfl (by have hm : ag = -1 := (by have h9 := congrArg Int32.toInt hc4; rw [hr, zm] at h9; split at h9; assumption; omega); have h1 := mul_b (a := 64) (b := D.2.2.2.2 3) (m := 64) (n := 9) (by omega) (by omega) (by omega) (by omega); have h2 := mul_b (a := 64 * D.2.2.2.2 3) (b := D.2.1 i 2) (m := 576) (n := 99) (by omega) (by omega) (by omega) (by omega); have e1 : ((64 : Int32) * M.1 4 (Int32.toNatClampNeg 3)).toInt = 64 * D.2.2.2.2 3 := (by rw [sc_mul (by rw [z64, g3]; omega) (by rw [z64, g3]; omega), z64, g3]); rw [sc_mul (by rw [e1, g2]; omega) (by rw [e1, g2]; omega), e1, g2]; unfold coA; rw [if_pos hm]))
theorem c_mcoT {M : fmM} {Q : fmR → fmM → Prop} {D : dD} {cs : tC} {S : aS} {i : Nat} {wr w : Int32} (hD : dOk D) (hY : mdw M D) (hL : lwM M cs) (hd : cs = [] ∨ dpB 23 0 cs = some 1) (hs : mstT M D S) (ho : stO D S) (hi : i < D.1) (hw : w.toInt = (S.1.1 : Int)) (hr : wr.toInt = if S.2 i = -1 then -1000 else (S.1.1 : Int) - S.2 i) (hq : ∀ (M' : fmM) (r : Int32), (∀ k j, k ≠ 5 → k ≠ 6 → M'.1 k j = M.1 k j) → M'.2 = M.2 → r.toInt = coS D cs S i → Q (.inl (some (.int r))) M') : pvGood Tm 6 qX11_costIn [.ref 0, .ref 8, .int (nI i), .int wr, .int w] M Q := c_mcoGT hD hY hL hd hs ho hi hw (by have := ho.1; omega) hr (by have h1 := ho.2.2.2.2.2.2.1 i hi; have h2 := ho.1; omega) hq
/-- and the other's -/
def mAqT (M : fmM) (D : dD) (cs : tC) (S : aS) : Prop := dOk D ∧ mdw M D ∧ lwM M cs ∧ (cs = [] ∨ dpB 23 0 cs = some 1) ∧ mstT M D S ∧ stO D S
theorem mAqT.low {M M' : fmM} {D : dD} {cs : tC} {S : aS} (h : mAqT M D cs S) (hk : ∀ k j, k ≠ 0 → k ≠ 5 → k ≠ 6 → M'.1 k j = M.1 k j) (h0 : M'.1 0 17 = M.1 0 17) : mAqT M' D cs S := ⟨h.1, h.2.1.k h.1 (fun k j a => hk k j (by omega) (by omega) (by omega)), h.2.2.1.f h0 (fun k j a => hk k j (by omega) (by omega) (by omega)), h.2.2.2.1, h.2.2.2.2.1.of (fun j => hk 8 j (by decide) (by decide) (by decide)), h.2.2.2.2.2⟩
theorem mAqT.z {M : fmM} {D : dD} {cs : tC} {S : aS} {x : Int32} (h : mAqT M D cs S) : mAqT (fmI M 0 0 x) D cs S := h.low (fun k j a _ _ => by rw [fmI_k _ _ a]) (by rw [fmI_j _ _ (by decide)])
theorem hrV_nT {M : fmM} {D : dD} {S : aS} {i : Nat} (hD : dOk D) (hY : mdw M D) (hs : mstT M D S) (ho : stO D S) (hi : i < D.1) : (hrVT M i).toInt = ((hoS D S i : Nat) : Int) := by
  have b3 := (hD.2.2.1 i hi).2.2.2.1
  have b5 := hD.2.2.2.2.2.2.2
  have g3 : (M.1 (35 + i) 3).toInt = D.2.1 i 3 := hY.2.2.2.1 i hi 3 (by decide)
  have g5 : (M.1 4 5).toInt = D.2.2.2.2 5 := hY.2.2.1 5 (by decide) (by decide)
  unfold hrVT hoS
  by_cases e : S.2 i = -1
  · rw [if_pos e, if_pos ((hs.no ho hi).mpr e)]
    omega
  · rw [if_neg e, if_neg (fun h9 => e ((hs.no ho hi).mp h9))]
    exact mx_1 (dv_n (by omega) (by omega) (by omega) (by omega))
set_option maxRecDepth 20000 in
theorem c_mmayT {M : fmM} {Q : fmR → fmM → Prop} {D : dD} {S : aS} {i : Nat} (hD : dOk D) (hs : mstT M D S) (ho : stO D S) (hi : i < D.1) (ht : ¬ S.1.2.2.1.testBit i = true → ¬ S.2 i = 0 → Q (.inl (some (.int 1))) M) (hf : (S.1.2.2.1.testBit i = true ∨ S.2 i = 0) → Q (.inl (some (.int 0))) M) : pvGood Tm 1 qX11_mayWrite [.ref 0, .ref 8, .int (nI i)] M Q := by
  refine pvGood_of (Nat.le_of_ble_eq_true rfl) ?_
  show pvEv Tm 1 qX11_mayWrite 0 [some (.ref 0), some (.ref 8), some (.int (nI i))] [] M Q
  have d8 := hD.1
  have hi9 : (nI i).toInt = (i : Int) := nI_toInt (by omega)
  have hi8 : i < 8 := (by omega)
  have h1i := one_i hi8
  have e0 : M.1 8 (Int32.toNatClampNeg 0) = nI S.1.2.2.1 := nI_is hs.1 (by have := ho.2.2.1; omega)
  have g := hs.2.2.2.2.2.2 i hi
  have g10 : (M.1 8 (Int32.toNatClampNeg 10)).toInt = (S.1.1 : Int) := hs.2.1
  have bs := ho.2.2.2.2.2.2.1 i hi
  refine pv_aloadn (pc := 0) (n := 1) 1 rfl rfl (fm_dec dtX11_mayWrite 0 rfl) ?_
  refine pv_iconst (pc := 1) (v := 0) (by decide) (fm_dec dtX11_mayWrite 1 rfl) ?_
  refine pv_iald (k := 8) (n := 14) (pc := 2) (by decide) rfl rfl (fm_inl (by decide)) (fm_dec dtX11_mayWrite 2 rfl) ?_
  refine pv_iloadn (pc := 3) (n := 2) 2 rfl rfl (fm_dec dtX11_mayWrite 3 rfl) ?_
  refine pv_iS2 (d' := 0) (pc := 4) pcs_X11_256 (Nat.le_of_ble_eq_true rfl) (by decide) (fm_dec dtX11_mayWrite 4 rfl) ?_
  refine c_has (fun h4 => ?_) (fun h4 => ?_)
  · refine pv_then1 ?_
    refine pv_if_ne (pc := 7) 26 (by decide) (fm_dec dtX11_mayWrite 5 rfl) (fun _ => ?_) (fun hc7 => by exfalso; revert hc7; decide)
    refine pv_iconst (pc := 26) (v := 0) (by decide) (fm_dec dtX11_mayWrite 17 rfl) ?_
    exact pv_zreturn (pc := 27) rfl (by first | exact Or.inr rfl | exact Or.inl rfl) (fm_dec dtX11_mayWrite 18 rfl) (hf (Or.inl ((has8 _ ho.2.2.1 i hi8).mp (by rw [← e0]; exact h4))))
  · refine pv_then1 ?_
    refine pv_if_ne (pc := 7) 26 (by decide) (fm_dec dtX11_mayWrite 5 rfl) (fun hc7 => by exfalso; revert hc7; decide) (fun _ => ?_)
    refine pv_aloadn (pc := 10) (n := 1) 1 rfl rfl (fm_dec dtX11_mayWrite 6 rfl) ?_
    refine pv_iconst (pc := 11) (v := 1) (by decide) (fm_dec dtX11_mayWrite 7 rfl) ?_
    refine pv_iloadn (pc := 12) (n := 2) 2 rfl rfl (fm_dec dtX11_mayWrite 8 rfl) ?_
    refine pv_iadd (pc := 13) (fm_dec dtX11_mayWrite 9 rfl) ?_
    refine pv_iald (k := 8) (n := 14) (pc := 14) (by decide) rfl rfl (ix_in h1i (by omega)) (fm_dec dtX11_mayWrite 10 rfl) ?_
    rw [i32_cl h1i]
    refine pv_aloadn (pc := 15) (n := 1) 1 rfl rfl (fm_dec dtX11_mayWrite 11 rfl) ?_
    refine pv_bipush (pc := 16) (v := 10) (by decide) (fm_dec dtX11_mayWrite 12 rfl) ?_
    refine pv_iald (k := 8) (n := 14) (pc := 18) (by decide) rfl rfl (fm_inl (by decide)) (fm_dec dtX11_mayWrite 13 rfl) ?_
    refine pv_icmp_eq (pc := 19) 26 (by decide) (fm_dec dtX11_mayWrite 14 rfl) (fun hc19 => ?_) (fun hc19 => ?_)
    · refine pv_iconst (pc := 26) (v := 0) (by decide) (fm_dec dtX11_mayWrite 17 rfl) ?_
      exact pv_zreturn (pc := 27) rfl (by first | exact Or.inr rfl | exact Or.inl rfl) (fm_dec dtX11_mayWrite 18 rfl) (hf (Or.inr (by have h9 := congrArg Int32.toInt hc19; rw [g, g10] at h9; split at h9; omega; omega)))
    · refine pv_iconst (pc := 22) (v := 1) (by decide) (fm_dec dtX11_mayWrite 15 rfl) ?_
      refine pv_goto (pc := 23) 27 (by decide) (fm_dec dtX11_mayWrite 16 rfl) ?_
      exact pv_zreturn (pc := 27) rfl (by first | exact Or.inr rfl | exact Or.inl rfl) (fm_dec dtX11_mayWrite 18 rfl) (ht (fun h9 => h4 (by rw [e0]; exact (has8 _ ho.2.2.1 i hi8).mpr h9)) (fun h9 => hc19 (i32_ext (by rw [g, g10, if_neg (by omega)]; omega))))
def wrM2T (M : fmM) (i : Nat) : fmM := fmI (fmI M 8 9 (M.1 8 9 - hrVT M i)) 8 (1 + i) (M.1 8 10)
theorem wr_stT {M : fmM} {D : dD} {S : aS} {i : Nat} (hD : dOk D) (hY : mdw M D) (hs : mstT M D S) (ho : stO D S) (hi : i < D.1) (hle : hoS D S i ≤ S.1.2.1) : mstT (wrM2T M i) D ((S.1.1, S.1.2.1 - hoS D S i, S.1.2.2), fun j => if j = i then 0 else S.2 j) := by
  have hh := hrV_nT hD hY hs ho hi
  obtain ⟨a, b, c, d, e, f, g⟩ := hs
  have d8 := hD.1
  have h12 := ho.2.1
  have k : ∀ j, ¬ j = 9 → ¬ j = 1 + i → (wrM2T M i).1 8 j = M.1 8 j := fun j n1 n2 => by
    unfold wrM2T
    rw [fmI_j _ _ n2, fmI_j _ _ n1]
  refine ⟨by rw [k 0 (by omega) (by omega)]; exact a, by rw [k 10 (by omega) (by omega)]; exact b, ?_, by rw [k 11 (by omega) (by omega)]; exact d, by rw [k 12 (by omega) (by omega)]; exact e, by rw [k 13 (by omega) (by omega)]; exact f, fun j hj => ?_⟩
  · unfold wrM2T
    rw [fmI_j _ _ (by omega), fmI_s, sc_sub (by omega) (by omega)]
    show _ = ((S.1.2.1 - hoS D S i : Nat) : Int)
    omega
  · show _ = if (if j = i then (0 : Int) else S.2 j) = -1 then -1000 else (S.1.1 : Int) - (if j = i then 0 else S.2 j)
    by_cases e0 : j = i
    · subst e0
      unfold wrM2T
      rw [fmI_s, if_pos rfl, if_neg (by decide)]
      omega
    · rw [k (1 + j) (by omega) (by omega), if_neg e0]
      exact g j hj
set_option maxRecDepth 20000 in
theorem c_mwriT {M : fmM} {Q : fmR → fmM → Prop} {D : dD} {i : Nat} (hD : dOk D) (hY : mdw M D) (hi : i < D.1) (hq : Q (.inl none) (wrM2T M i)) : pvGood Tm 3 qX11_writes [.ref 0, .ref 8, .int (nI i)] M Q := by
  refine pvGood_of (Nat.le_of_ble_eq_true rfl) ?_
  show pvEv Tm 3 qX11_writes 0 [some (.ref 0), some (.ref 8), some (.int (nI i))] [] M Q
  have d8 := hD.1
  have hi9 : (nI i).toInt = (i : Int) := nI_toInt (by omega)
  have hi8 : i < 8 := (by omega)
  have h1i := one_i hi8
  refine pv_aloadn (pc := 0) (n := 1) 1 rfl rfl (fm_dec dtX11_writes 0 rfl) ?_
  refine pv_bipush (pc := 1) (v := 9) (by decide) (fm_dec dtX11_writes 1 rfl) ?_
  refine pv_dup2 (pc := 3) rfl rfl (fm_dec dtX11_writes 2 rfl) ?_
  refine pv_iald (k := 8) (n := 14) (pc := 4) (by decide) rfl rfl (fm_inl (by decide)) (fm_dec dtX11_writes 3 rfl) ?_
  refine pv_aloadn (pc := 5) (n := 0) 0 rfl rfl (fm_dec dtX11_writes 4 rfl) ?_
  refine pv_aloadn (pc := 6) (n := 1) 1 rfl rfl (fm_dec dtX11_writes 5 rfl) ?_
  refine pv_iloadn (pc := 7) (n := 2) 2 rfl rfl (fm_dec dtX11_writes 6 rfl) ?_
  refine pv_invV2 (k := 0) (d' := 2) (pc := 8) pcv_X11_290 (by decide) rfl (Nat.le_of_ble_eq_true rfl) (by decide) (fm_dec dtX11_writes 7 rfl) ?_
  refine c_hours7T hi9 hi8 (h5_ne hD hY) ?_
  refine pv_then1 ?_
  refine pv_isub (pc := 11) (fm_dec dtX11_writes 8 rfl) ?_
  refine pv_iast (k := 8) (n := 14) (pc := 12) (by decide) rfl rfl (fm_inl (by decide)) (fm_dec dtX11_writes 9 rfl) ?_
  refine pv_aloadn (pc := 13) (n := 1) 1 rfl rfl (fm_dec dtX11_writes 10 rfl) ?_
  refine pv_iconst (pc := 14) (v := 1) (by decide) (fm_dec dtX11_writes 11 rfl) ?_
  refine pv_iloadn (pc := 15) (n := 2) 2 rfl rfl (fm_dec dtX11_writes 12 rfl) ?_
  refine pv_iadd (pc := 16) (fm_dec dtX11_writes 13 rfl) ?_
  refine pv_aloadn (pc := 17) (n := 1) 1 rfl rfl (fm_dec dtX11_writes 14 rfl) ?_
  refine pv_bipush (pc := 18) (v := 10) (by decide) (fm_dec dtX11_writes 15 rfl) ?_
  refine pv_iald (k := 8) (n := 14) (pc := 20) (by decide) rfl rfl (fm_inl (by decide)) (fm_dec dtX11_writes 16 rfl) ?_
  refine pv_iast (k := 8) (n := 14) (pc := 21) (by decide) rfl rfl (ix_in h1i (by omega)) (fm_dec dtX11_writes 17 rfl) ?_
  rw [i32_cl h1i]
  exact pv_return (pc := 22) rfl (fm_dec dtX11_writes 18 rfl) hq
/-- nothing but the state and the law's own cells has changed -/
def mFrT (M M' : fmM) : Prop := (∀ k j, k ≠ 5 → k ≠ 6 → k ≠ 8 → M'.1 k j = M.1 k j) ∧ M'.2 = M.2
theorem mFrT.refl (M : fmM) : mFrT M M := ⟨fun _ _ _ _ _ => rfl, rfl⟩
theorem mFrT.trans {M M1 M2 : fmM} (h : mFrT M M1) (h' : mFrT M1 M2) : mFrT M M2 := ⟨fun k j a b c => (h'.1 k j a b c).trans (h.1 k j a b c), h'.2.trans h.2⟩
theorem mFrT.put {M M1 : fmM} {j : Nat} {x : Int32} (h : mFrT M M1) : mFrT M (fmI M1 8 j x) := ⟨fun k' j' a b c => by rw [fmI_k _ _ c]; exact h.1 k' j' a b c, h.2⟩
def dmMT (M : fmM) (c : Int32) (i : Nat) (no : Bool) : fmM := fmI (fmI (if no then fmI (fmI (fmI M 8 13 (M.1 8 13 + c)) 8 11 (M.1 8 11 + 1)) 8 9 (pvMx true 0 (M.1 8 9 - 2)) else fmI (fmI M 8 13 (M.1 8 13 + c)) 8 12 (M.1 8 12 + 1)) 8 0 (M.1 8 0 ||| 1 <<< (nI i &&& 31))) 8 (1 + i) (-1000)
theorem dm_frT {M0 M : fmM} {c : Int32} {i : Nat} {no : Bool} (h : mFrT M0 M) : mFrT M0 (dmMT M c i no) := by
  unfold dmMT
  cases no with
  | true => exact (((h.put).put).put).put.put
  | false => exact ((h.put).put).put.put
theorem dm_stT {M : fmM} {D : dD} {cs : tC} {S : aS} {i : Nat} {c : Int32} (hD : dOk D) (hs : mstT M D S) (ho : stO D S) (hi : i < D.1) (ht : S.1.2.2.1.testBit i = false) (hc : c.toInt = coS D cs S i) : ∃ S', diS D cs S i = some S' ∧ mstT (dmMT M c i (decide (S.2 i = -1))) D S' := by
  obtain ⟨a, b, c0, d, e, f, g⟩ := hs
  have d8 := hD.1
  have hcb := coS_b (cs := cs) (S := S) hD hi
  have p8 := pop8_le _ ho.2.2.1
  have hp := ho.2.2.2.1
  have h12 := ho.2.1
  have l1 := ho.2.2.2.2.1
  have l2 := ho.2.2.2.2.2.1
  have z0 : (0 : Int32).toInt = 0 := by decide
  have z1 : (1 : Int32).toInt = 1 := by decide
  have z2 : (2 : Int32).toInt = 2 := by decide
  have zm : (-1000 : Int32).toInt = -1000 := by decide
  have e1 : M.1 8 0 = nI S.1.2.2.1 := nI_is a (by have := ho.2.2.1; omega)
  have eo : (M.1 8 0 ||| 1 <<< (nI i &&& 31)).toInt = ((S.1.2.2.1 ||| 1 <<< i : Nat) : Int) := by rw [e1]; exact or8n _ ho.2.2.1 i (by omega)
  have el : (M.1 8 13 + c).toInt = S.1.2.2.2.2.2 + coS D cs S i := by rw [sc_add (by omega) (by omega), f, hc]
  unfold diS
  rw [if_neg (by rw [ht]; decide)]
  by_cases hm : S.2 i = -1
  · rw [if_pos hm]
    refine ⟨_, rfl, ?_⟩
    have e9 : dmMT M c i (decide (S.2 i = -1)) = fmI (fmI (fmI (fmI (fmI M 8 13 (M.1 8 13 + c)) 8 11 (M.1 8 11 + 1)) 8 9 (pvMx true 0 (M.1 8 9 - 2))) 8 0 (M.1 8 0 ||| 1 <<< (nI i &&& 31))) 8 (1 + i) (-1000) := by
      unfold dmMT
      rw [if_pos (decide_eq_true hm)]
    rw [e9]
    refine ⟨?_, ?_, ?_, ?_, ?_, ?_, fun j hj => ?_⟩
    · rw [fmI_j _ _ (by omega), fmI_s]; exact eo
    · rw [fmI_j _ _ (by omega), fmI_j _ _ (by decide), fmI_j _ _ (by decide), fmI_j _ _ (by decide), fmI_j _ _ (by decide)]; exact b
    · rw [fmI_j _ _ (by omega), fmI_j _ _ (by decide), fmI_s, mxt, sc_sub (by omega) (by omega), z0, z2, c0]
      show _ = ((S.1.2.1 - 2 : Nat) : Int)
      omega
    · rw [fmI_j _ _ (by omega), fmI_j _ _ (by decide), fmI_j _ _ (by decide), fmI_s, sc_add (by omega) (by omega)]
      show _ = ((S.1.2.2.2.1 + 1 : Nat) : Int)
      omega
    · rw [fmI_j _ _ (by omega), fmI_j _ _ (by decide), fmI_j _ _ (by decide), fmI_j _ _ (by decide), fmI_j _ _ (by decide)]; exact e
    · rw [fmI_j _ _ (by omega), fmI_j _ _ (by decide), fmI_j _ _ (by decide), fmI_j _ _ (by decide), fmI_s]; exact el
    · show _ = if S.2 j = -1 then -1000 else (S.1.1 : Int) - S.2 j
      by_cases e0 : j = i
      · subst e0
        rw [fmI_s, if_pos hm]
        exact zm
      · rw [fmI_j _ _ (by omega), fmI_j _ _ (by omega), fmI_j _ _ (by omega), fmI_j _ _ (by omega), fmI_j _ _ (by omega)]
        exact g j hj
  · rw [if_neg hm]
    refine ⟨_, rfl, ?_⟩
    have e9 : dmMT M c i (decide (S.2 i = -1)) = fmI (fmI (fmI (fmI M 8 13 (M.1 8 13 + c)) 8 12 (M.1 8 12 + 1)) 8 0 (M.1 8 0 ||| 1 <<< (nI i &&& 31))) 8 (1 + i) (-1000) := by
      unfold dmMT
      rw [if_neg (by rw [decide_eq_true_eq]; exact hm)]
    rw [e9]
    refine ⟨?_, ?_, ?_, ?_, ?_, ?_, fun j hj => ?_⟩
    · rw [fmI_j _ _ (by omega), fmI_s]; exact eo
    · rw [fmI_j _ _ (by omega), fmI_j _ _ (by decide), fmI_j _ _ (by decide), fmI_j _ _ (by decide)]; exact b
    · rw [fmI_j _ _ (by omega), fmI_j _ _ (by decide), fmI_j _ _ (by decide), fmI_j _ _ (by decide)]; exact c0
    · rw [fmI_j _ _ (by omega), fmI_j _ _ (by decide), fmI_j _ _ (by decide), fmI_j _ _ (by decide)]; exact d
    · rw [fmI_j _ _ (by omega), fmI_j _ _ (by decide), fmI_s, sc_add (by omega) (by omega)]
      show _ = ((S.1.2.2.2.2.1 + 1 : Nat) : Int)
      omega
    · rw [fmI_j _ _ (by omega), fmI_j _ _ (by decide), fmI_j _ _ (by decide), fmI_s]; exact el
    · show _ = if (if j = i then (-1 : Int) else S.2 j) = -1 then -1000 else (S.1.1 : Int) - (if j = i then -1 else S.2 j)
      by_cases e0 : j = i
      · subst e0
        rw [fmI_s, if_pos rfl, if_pos rfl]
        exact zm
      · rw [fmI_j _ _ (by omega), fmI_j _ _ (by omega), fmI_j _ _ (by omega), fmI_j _ _ (by omega), if_neg e0]
        exact g j hj
set_option maxRecDepth 20000 in
theorem c_mcofT {M : fmM} {Q : fmR → fmM → Prop} {D : dD} {cs : tC} {S : aS} {i : Nat} (hD : dOk D) (hY : mdw M D) (hL : lwM M cs) (hd : cs = [] ∨ dpB 23 0 cs = some 1) (hs : mstT M D S) (ho : stO D S) (hi : i < D.1) (ht : S.1.2.2.1.testBit i = false) (hq : ∀ (M' : fmM) (r : Int32), (∀ k j, k ≠ 5 → k ≠ 6 → M'.1 k j = M.1 k j) → M'.2 = M.2 → r.toInt = coS D cs S i → Q (.inl (some (.int r))) M') : pvGood Tm 7 qX11_costOf [.ref 0, .ref 8, .int (nI i)] M Q := by
  refine pvGood_of (Nat.le_of_ble_eq_true rfl) ?_
  show pvEv Tm 7 qX11_costOf 0 [some (.ref 0), some (.ref 8), some (.int (nI i))] [] M Q
  have d8 := hD.1
  have hi9 : (nI i).toInt = (i : Int) := nI_toInt (by omega)
  have hi8 : i < 8 := (by omega)
  have h1i := one_i hi8
  have e0 : M.1 8 (Int32.toNatClampNeg 0) = nI S.1.2.2.1 := nI_is hs.1 (by have := ho.2.2.1; omega)
  refine pv_aloadn (pc := 0) (n := 1) 1 rfl rfl (fm_dec dtX11_costOf 0 rfl) ?_
  refine pv_iconst (pc := 1) (v := 0) (by decide) (fm_dec dtX11_costOf 1 rfl) ?_
  refine pv_iald (k := 8) (n := 14) (pc := 2) (by decide) rfl rfl (fm_inl (by decide)) (fm_dec dtX11_costOf 2 rfl) ?_
  refine pv_iloadn (pc := 3) (n := 2) 2 rfl rfl (fm_dec dtX11_costOf 3 rfl) ?_
  refine pv_iS2 (d' := 0) (pc := 4) pcs_X11_256 (Nat.le_of_ble_eq_true rfl) (by decide) (fm_dec dtX11_costOf 4 rfl) ?_
  refine c_has (fun h4 => ?_) (fun h4 => ?_)
  · refine pv_then1 ?_
    refine pv_if_eq (pc := 7) 14 (by decide) (fm_dec dtX11_costOf 5 rfl) (fun hc7 => by exfalso; revert hc7; decide) (fun _ => ?_)
    refine pv_iconst (pc := 10) (v := 0) (by decide) (fm_dec dtX11_costOf 6 rfl) ?_
    refine pv_goto (pc := 11) 29 (by decide) (fm_dec dtX11_costOf 7 rfl) ?_
    exact pv_ireturn (pc := 29) rfl (fm_dec dtX11_costOf 20 rfl) (by exfalso; have h9 := (has8 _ ho.2.2.1 i hi8).mp (by rw [← e0]; exact h4); rw [ht] at h9; cases h9)
  · refine pv_then1 ?_
    refine pv_if_eq (pc := 7) 14 (by decide) (fm_dec dtX11_costOf 5 rfl) (fun _ => ?_) (fun hc7 => by exfalso; revert hc7; decide)
    refine pv_aloadn (pc := 14) (n := 0) 0 rfl rfl (fm_dec dtX11_costOf 8 rfl) ?_
    refine pv_aloadn (pc := 15) (n := 1) 1 rfl rfl (fm_dec dtX11_costOf 9 rfl) ?_
    refine pv_iloadn (pc := 16) (n := 2) 2 rfl rfl (fm_dec dtX11_costOf 10 rfl) ?_
    refine pv_aloadn (pc := 17) (n := 1) 1 rfl rfl (fm_dec dtX11_costOf 11 rfl) ?_
    refine pv_iconst (pc := 18) (v := 1) (by decide) (fm_dec dtX11_costOf 12 rfl) ?_
    refine pv_iloadn (pc := 19) (n := 2) 2 rfl rfl (fm_dec dtX11_costOf 13 rfl) ?_
    refine pv_iadd (pc := 20) (fm_dec dtX11_costOf 14 rfl) ?_
    refine pv_iald (k := 8) (n := 14) (pc := 21) (by decide) rfl rfl (ix_in h1i (by omega)) (fm_dec dtX11_costOf 15 rfl) ?_
    rw [i32_cl h1i]
    refine pv_aloadn (pc := 22) (n := 1) 1 rfl rfl (fm_dec dtX11_costOf 16 rfl) ?_
    refine pv_bipush (pc := 23) (v := 10) (by decide) (fm_dec dtX11_costOf 17 rfl) ?_
    refine pv_iald (k := 8) (n := 14) (pc := 25) (by decide) rfl rfl (fm_inl (by decide)) (fm_dec dtX11_costOf 18 rfl) ?_
    refine pv_invV4 (k := 0) (d' := 6) (pc := 26) pcv_X11_280 (by decide) rfl (Nat.le_of_ble_eq_true rfl) (by decide) (fm_dec dtX11_costOf 19 rfl) ?_
    refine c_mcoT hD hY hL hd hs ho hi hs.2.1 (hs.2.2.2.2.2.2 i hi) (fun M26 r26 g26 h26 e26 => ?_)
    refine pv_then1 ?_
    exact pv_ireturn (pc := 29) rfl (fm_dec dtX11_costOf 20 rfl) (hq M26 r26 g26 h26 e26)
set_option maxRecDepth 20000 in
theorem c_mdieT {M : fmM} {Q : fmR → fmM → Prop} {D : dD} {cs : tC} {S : aS} {i : Nat} (hD : dOk D) (hY : mdw M D) (hL : lwM M cs) (hd : cs = [] ∨ dpB 23 0 cs = some 1) (hs : mstT M D S) (ho : stO D S) (hi : i < D.1) (ht : S.1.2.2.1.testBit i = false) (hq : ∀ (M' : fmM) (S' : aS), diS D cs S i = some S' → mstT M' D S' → mFrT M M' → Q (.inl none) M') : pvGood Tm 8 qX11_dies [.ref 0, .ref 8, .int (nI i)] M Q := by
  refine pvGood_of (Nat.le_of_ble_eq_true rfl) ?_
  show pvEv Tm 8 qX11_dies 0 [some (.ref 0), some (.ref 8), some (.int (nI i)), none] [] M Q
  have d8 := hD.1
  have hi9 : (nI i).toInt = (i : Int) := nI_toInt (by omega)
  have hi8 : i < 8 := (by omega)
  have h1i := one_i hi8
  refine pv_aloadn (pc := 0) (n := 0) 0 rfl rfl (fm_dec dtX11_dies 0 rfl) ?_
  refine pv_aloadn (pc := 1) (n := 1) 1 rfl rfl (fm_dec dtX11_dies 1 rfl) ?_
  refine pv_iloadn (pc := 2) (n := 2) 2 rfl rfl (fm_dec dtX11_dies 2 rfl) ?_
  refine pv_invV2 (k := 0) (d' := 7) (pc := 3) pcv_X11_293 (by decide) rfl (Nat.le_of_ble_eq_true rfl) (by decide) (fm_dec dtX11_dies 3 rfl) ?_
  refine c_mcofT hD hY hL hd hs ho hi ht (fun M6 r6 g6 h6 e6 => ?_)
  refine pv_then1 ?_
  refine pv_istoren (pc := 6) (n := 3) 3 rfl (by decide) rfl (fm_dec dtX11_dies 4 rfl) ?_
  dsimp only [List.set_cons_zero, List.set_cons_succ]
  have hs6 : mstT M6 D S := hs.of (fun j => g6 8 j (by decide) (by decide))
  obtain ⟨S9, e9, h9⟩ := dm_stT (cs := cs) hD hs6 ho hi ht e6
  have f9 : mFrT M (dmMT M6 r6 i (decide (S.2 i = -1))) := dm_frT ⟨fun k j a b _ => g6 k j a b, h6⟩
  have n9 : (fmI M6 8 13 (M6.1 8 13 + r6)).1 8 (1 + i) = M6.1 8 (1 + i) := fmI_j _ _ (by omega)
  refine pv_aloadn (pc := 7) (n := 1) 1 rfl rfl (fm_dec dtX11_dies 5 rfl) ?_
  refine pv_bipush (pc := 8) (v := 13) (by decide) (fm_dec dtX11_dies 6 rfl) ?_
  refine pv_dup2 (pc := 10) rfl rfl (fm_dec dtX11_dies 7 rfl) ?_
  refine pv_iald (k := 8) (n := 14) (pc := 11) (by decide) rfl rfl (fm_inl (by decide)) (fm_dec dtX11_dies 8 rfl) ?_
  refine pv_iloadn (pc := 12) (n := 3) 3 rfl rfl (fm_dec dtX11_dies 9 rfl) ?_
  refine pv_iadd (pc := 13) (fm_dec dtX11_dies 10 rfl) ?_
  refine pv_iast (k := 8) (n := 14) (pc := 14) (by decide) rfl rfl (fm_inl (by decide)) (fm_dec dtX11_dies 11 rfl) ?_
  refine pv_aloadn (pc := 15) (n := 1) 1 rfl rfl (fm_dec dtX11_dies 12 rfl) ?_
  refine pv_iloadn (pc := 16) (n := 2) 2 rfl rfl (fm_dec dtX11_dies 13 rfl) ?_
  refine pv_iS2 (d' := 0) (pc := 17) pcs_X11_283 (Nat.le_of_ble_eq_true rfl) (by decide) (fm_dec dtX11_dies 14 rfl) ?_
  refine c_hasPiece7T hi9 hi8 (fun h17 => ?_) (fun h17 => ?_)
  · refine pv_then1 ?_
    refine pv_if_eq (pc := 20) 34 (by decide) (fm_dec dtX11_dies 15 rfl) (fun hc20 => by exfalso; revert hc20; decide) (fun _ => ?_)
    refine pv_aloadn (pc := 23) (n := 1) 1 rfl rfl (fm_dec dtX11_dies 16 rfl) ?_
    refine pv_bipush (pc := 24) (v := 12) (by decide) (fm_dec dtX11_dies 17 rfl) ?_
    refine pv_dup2 (pc := 26) rfl rfl (fm_dec dtX11_dies 18 rfl) ?_
    refine pv_iald (k := 8) (n := 14) (pc := 27) (by decide) rfl rfl (fm_inl (by decide)) (fm_dec dtX11_dies 19 rfl) ?_
    refine pv_iconst (pc := 28) (v := 1) (by decide) (fm_dec dtX11_dies 20 rfl) ?_
    refine pv_iadd (pc := 29) (fm_dec dtX11_dies 21 rfl) ?_
    refine pv_iast (k := 8) (n := 14) (pc := 30) (by decide) rfl rfl (fm_inl (by decide)) (fm_dec dtX11_dies 22 rfl) ?_
    refine pv_goto (pc := 31) 56 (by decide) (fm_dec dtX11_dies 23 rfl) ?_
    refine pv_aloadn (pc := 56) (n := 1) 1 rfl rfl (fm_dec dtX11_dies 41 rfl) ?_
    refine pv_iconst (pc := 57) (v := 0) (by decide) (fm_dec dtX11_dies 42 rfl) ?_
    refine pv_dup2 (pc := 58) rfl rfl (fm_dec dtX11_dies 43 rfl) ?_
    refine pv_iald (k := 8) (n := 14) (pc := 59) (by decide) rfl rfl (fm_inl (by decide)) (fm_dec dtX11_dies 44 rfl) ?_
    refine pv_iconst (pc := 60) (v := 1) (by decide) (fm_dec dtX11_dies 45 rfl) ?_
    refine pv_iloadn (pc := 61) (n := 2) 2 rfl rfl (fm_dec dtX11_dies 46 rfl) ?_
    refine pv_ishl (pc := 62) (fm_dec dtX11_dies 47 rfl) ?_
    refine pv_ior (pc := 63) (fm_dec dtX11_dies 48 rfl) ?_
    refine pv_iast (k := 8) (n := 14) (pc := 64) (by decide) rfl rfl (fm_inl (by decide)) (fm_dec dtX11_dies 49 rfl) ?_
    refine pv_aloadn (pc := 65) (n := 1) 1 rfl rfl (fm_dec dtX11_dies 50 rfl) ?_
    refine pv_iconst (pc := 66) (v := 1) (by decide) (fm_dec dtX11_dies 51 rfl) ?_
    refine pv_iloadn (pc := 67) (n := 2) 2 rfl rfl (fm_dec dtX11_dies 52 rfl) ?_
    refine pv_iadd (pc := 68) (fm_dec dtX11_dies 53 rfl) ?_
    refine pv_sipush (pc := 69) (v := (-1000)) (by decide) (fm_dec dtX11_dies 54 rfl) ?_
    refine pv_iast (k := 8) (n := 14) (pc := 72) (by decide) rfl rfl (ix_in h1i (by omega)) (fm_dec dtX11_dies 55 rfl) ?_
    rw [i32_cl h1i]
    exact pv_return (pc := 73) rfl (fm_dec dtX11_dies 56 rfl) (by first | (have hm : ¬ S.2 i = -1 := (fun h8 => h17 (n9.trans ((hs6.no ho hi).mpr h8))); have e8 : dmMT M6 r6 i (decide (S.2 i = -1)) = _ := (by unfold dmMT; rw [if_neg (by rw [decide_eq_true_eq]; exact hm)]); rw [e8] at h9 f9; exact hq _ S9 e9 h9 f9) | (have hm : S.2 i = -1 := (hs6.no ho hi).mp (n9.symm.trans h17); have e8 : dmMT M6 r6 i (decide (S.2 i = -1)) = _ := (by unfold dmMT; rw [if_pos (decide_eq_true hm)]); rw [e8] at h9 f9; exact hq _ S9 e9 h9 f9))
  · refine pv_then1 ?_
    refine pv_if_eq (pc := 20) 34 (by decide) (fm_dec dtX11_dies 15 rfl) (fun _ => ?_) (fun hc20 => by exfalso; revert hc20; decide)
    refine pv_aloadn (pc := 34) (n := 1) 1 rfl rfl (fm_dec dtX11_dies 24 rfl) ?_
    refine pv_bipush (pc := 35) (v := 11) (by decide) (fm_dec dtX11_dies 25 rfl) ?_
    refine pv_dup2 (pc := 37) rfl rfl (fm_dec dtX11_dies 26 rfl) ?_
    refine pv_iald (k := 8) (n := 14) (pc := 38) (by decide) rfl rfl (fm_inl (by decide)) (fm_dec dtX11_dies 27 rfl) ?_
    refine pv_iconst (pc := 39) (v := 1) (by decide) (fm_dec dtX11_dies 28 rfl) ?_
    refine pv_iadd (pc := 40) (fm_dec dtX11_dies 29 rfl) ?_
    refine pv_iast (k := 8) (n := 14) (pc := 41) (by decide) rfl rfl (fm_inl (by decide)) (fm_dec dtX11_dies 30 rfl) ?_
    refine pv_aloadn (pc := 42) (n := 1) 1 rfl rfl (fm_dec dtX11_dies 31 rfl) ?_
    refine pv_bipush (pc := 43) (v := 9) (by decide) (fm_dec dtX11_dies 32 rfl) ?_
    refine pv_iconst (pc := 45) (v := 0) (by decide) (fm_dec dtX11_dies 33 rfl) ?_
    refine pv_aloadn (pc := 46) (n := 1) 1 rfl rfl (fm_dec dtX11_dies 34 rfl) ?_
    refine pv_bipush (pc := 47) (v := 9) (by decide) (fm_dec dtX11_dies 35 rfl) ?_
    refine pv_iald (k := 8) (n := 14) (pc := 49) (by decide) rfl rfl (fm_inl (by decide)) (fm_dec dtX11_dies 36 rfl) ?_
    refine pv_iconst (pc := 50) (v := 2) (by decide) (fm_dec dtX11_dies 37 rfl) ?_
    refine pv_isub (pc := 51) (fm_dec dtX11_dies 38 rfl) ?_
    refine pv_mm (pc := 52) pmm_X11_240 (by decide) (Nat.le_of_ble_eq_true rfl) (fm_dec dtX11_dies 39 rfl) ?_
    refine pv_iast (k := 8) (n := 14) (pc := 55) (by decide) rfl rfl (fm_inl (by decide)) (fm_dec dtX11_dies 40 rfl) ?_
    refine pv_aloadn (pc := 56) (n := 1) 1 rfl rfl (fm_dec dtX11_dies 41 rfl) ?_
    refine pv_iconst (pc := 57) (v := 0) (by decide) (fm_dec dtX11_dies 42 rfl) ?_
    refine pv_dup2 (pc := 58) rfl rfl (fm_dec dtX11_dies 43 rfl) ?_
    refine pv_iald (k := 8) (n := 14) (pc := 59) (by decide) rfl rfl (fm_inl (by decide)) (fm_dec dtX11_dies 44 rfl) ?_
    refine pv_iconst (pc := 60) (v := 1) (by decide) (fm_dec dtX11_dies 45 rfl) ?_
    refine pv_iloadn (pc := 61) (n := 2) 2 rfl rfl (fm_dec dtX11_dies 46 rfl) ?_
    refine pv_ishl (pc := 62) (fm_dec dtX11_dies 47 rfl) ?_
    refine pv_ior (pc := 63) (fm_dec dtX11_dies 48 rfl) ?_
    refine pv_iast (k := 8) (n := 14) (pc := 64) (by decide) rfl rfl (fm_inl (by decide)) (fm_dec dtX11_dies 49 rfl) ?_
    refine pv_aloadn (pc := 65) (n := 1) 1 rfl rfl (fm_dec dtX11_dies 50 rfl) ?_
    refine pv_iconst (pc := 66) (v := 1) (by decide) (fm_dec dtX11_dies 51 rfl) ?_
    refine pv_iloadn (pc := 67) (n := 2) 2 rfl rfl (fm_dec dtX11_dies 52 rfl) ?_
    refine pv_iadd (pc := 68) (fm_dec dtX11_dies 53 rfl) ?_
    refine pv_sipush (pc := 69) (v := (-1000)) (by decide) (fm_dec dtX11_dies 54 rfl) ?_
    refine pv_iast (k := 8) (n := 14) (pc := 72) (by decide) rfl rfl (ix_in h1i (by omega)) (fm_dec dtX11_dies 55 rfl) ?_
    rw [i32_cl h1i]
    exact pv_return (pc := 73) rfl (fm_dec dtX11_dies 56 rfl) (by first | (have hm : ¬ S.2 i = -1 := (fun h8 => h17 (n9.trans ((hs6.no ho hi).mpr h8))); have e8 : dmMT M6 r6 i (decide (S.2 i = -1)) = _ := (by unfold dmMT; rw [if_neg (by rw [decide_eq_true_eq]; exact hm)]); rw [e8] at h9 f9; exact hq _ S9 e9 h9 f9) | (have hm : S.2 i = -1 := (hs6.no ho hi).mp (n9.symm.trans h17); have e8 : dmMT M6 r6 i (decide (S.2 i = -1)) = _ := (by unfold dmMT; rw [if_pos (decide_eq_true hm)]); rw [e8] at h9 f9; exact hq _ S9 e9 h9 f9))
set_option maxRecDepth 20000 in
theorem c_mweekT {M : fmM} {Q : fmR → fmM → Prop} {D : dD} {S : aS} (hD : dOk D) (hY : mdw M D) (hs : mstT M D S) (ho : stO D S) (hn : weS D S = none → Q (.inl (some (.int 0))) M) (hq : ∀ (M' : fmM) (S' : aS), weS D S = some S' → mstT M' D S' → mFrT M M' → Q (.inl (some (.int 1))) M') : pvGood Tm 0 qX11_weekEnds [.ref 0, .ref 8] M Q := by
  refine pvGood_of (Nat.le_of_ble_eq_true rfl) ?_
  show pvEv Tm 0 qX11_weekEnds 0 [some (.ref 0), some (.ref 8)] [] M Q
  have z200 : (200 : Int32).toInt = 200 := (by decide)
  have b2 := hD.2.2.2.2.1
  have w2 := ho.1
  have g10 : (M.1 8 (Int32.toNatClampNeg 10)).toInt = (S.1.1 : Int) := hs.2.1
  refine pv_aloadn (pc := 0) (n := 1) 1 rfl rfl (fm_dec dtX11_weekEnds 0 rfl) ?_
  refine pv_bipush (pc := 1) (v := 10) (by decide) (fm_dec dtX11_weekEnds 1 rfl) ?_
  refine pv_iald (k := 8) (n := 14) (pc := 3) (by decide) rfl rfl (fm_inl (by decide)) (fm_dec dtX11_weekEnds 2 rfl) ?_
  refine pv_sipush (pc := 4) (v := 200) (by decide) (fm_dec dtX11_weekEnds 3 rfl) ?_
  refine pv_icmp_ne (pc := 7) 12 (by decide) (fm_dec dtX11_weekEnds 4 rfl) (fun hc7 => ?_) (fun hc7 => ?_)
  · refine pv_aloadn (pc := 12) (n := 1) 1 rfl rfl (fm_dec dtX11_weekEnds 7 rfl) ?_
    refine pv_bipush (pc := 13) (v := 10) (by decide) (fm_dec dtX11_weekEnds 8 rfl) ?_
    refine pv_dup2 (pc := 15) rfl rfl (fm_dec dtX11_weekEnds 9 rfl) ?_
    refine pv_iald (k := 8) (n := 14) (pc := 16) (by decide) rfl rfl (fm_inl (by decide)) (fm_dec dtX11_weekEnds 10 rfl) ?_
    refine pv_iconst (pc := 17) (v := 1) (by decide) (fm_dec dtX11_weekEnds 11 rfl) ?_
    refine pv_iadd (pc := 18) (fm_dec dtX11_weekEnds 12 rfl) ?_
    refine pv_iast (k := 8) (n := 14) (pc := 19) (by decide) rfl rfl (fm_inl (by decide)) (fm_dec dtX11_weekEnds 13 rfl) ?_
    refine pv_aloadn (pc := 20) (n := 1) 1 rfl rfl (fm_dec dtX11_weekEnds 14 rfl) ?_
    refine pv_bipush (pc := 21) (v := 9) (by decide) (fm_dec dtX11_weekEnds 15 rfl) ?_
    refine pv_aloadn (pc := 23) (n := 0) 0 rfl rfl (fm_dec dtX11_weekEnds 16 rfl) ?_
    refine pv_getR (k := 0) (j := 12) (ci := 11) (pc := 24) 4 rfl (by decide) pfl_X11_23 (by decide) rfl (by decide) (fm_dec dtX11_weekEnds 17 rfl) ?_
    refine pv_iconst (pc := 27) (v := 2) (by decide) (fm_dec dtX11_weekEnds 18 rfl) ?_
    refine pv_iald (k := 4) (n := 6) (pc := 28) (by decide) rfl rfl (fm_inl (by decide)) (fm_dec dtX11_weekEnds 19 rfl) ?_
    refine pv_iast (k := 8) (n := 14) (pc := 29) (by decide) rfl rfl (fm_inl (by decide)) (fm_dec dtX11_weekEnds 20 rfl) ?_
    refine pv_iconst (pc := 30) (v := 1) (by decide) (fm_dec dtX11_weekEnds 21 rfl) ?_
    exact pv_zreturn (pc := 31) rfl (by first | exact Or.inr rfl | exact Or.inl rfl) (fm_dec dtX11_weekEnds 22 rfl) (hq _ _ (if_neg (fun h9 => hc7 (i32_ext (by omega)))) ⟨hs.1, (by show (M.1 8 10 + 1).toInt = ((S.1.1 + 1 : Nat) : Int); exact i32_p1 hs.2.1 (by omega)), (by show (M.1 4 2).toInt = (((D.2.2.2.2 2).toNat : Nat) : Int); have g := hY.2.2.1 2 (by decide) (by decide); omega), hs.2.2.2.1, hs.2.2.2.2.1, hs.2.2.2.2.2.1, fun i hi => (by have d8 := hD.1; have g := hs.2.2.2.2.2.2 i hi; have bs := ho.2.2.2.2.2.2.1 i hi; show _ = if (if S.2 i = -1 then (-1 : Int) else S.2 i + 1) = -1 then -1000 else ((S.1.1 + 1 : Nat) : Int) - (if S.2 i = -1 then (-1 : Int) else S.2 i + 1); rw [fmI_j _ _ (by show ¬ 1 + i = 9; omega), fmI_j _ _ (by show ¬ 1 + i = 10; omega), g]; split; rfl; rw [if_neg (by omega)]; omega)⟩ ((mFrT.refl M).put.put))
  · refine pv_iconst (pc := 10) (v := 0) (by decide) (fm_dec dtX11_weekEnds 5 rfl) ?_
    exact pv_zreturn (pc := 11) rfl (by first | exact Or.inr rfl | exact Or.inl rfl) (fm_dec dtX11_weekEnds 6 rfl) (hn (if_pos (by have h9 := congrArg Int32.toInt hc7; omega)))
set_option maxRecDepth 20000 in
theorem c_mcofAT {M : fmM} {Q : fmR → fmM → Prop} {D : dD} {cs : tC} {S : aS} {i : Nat} (h : mAqT M D cs S) (hi : i < D.1) (hq : ∀ (M' : fmM) (r : Int32), (∀ k j, k ≠ 5 → k ≠ 6 → M'.1 k j = M.1 k j) → M'.2 = M.2 → r.toInt = (if S.1.2.2.1.testBit i then 0 else coS D cs S i) → Q (.inl (some (.int r))) M') : pvGood Tm 8 qX11_costOf [.ref 0, .ref 8, .int (nI i)] M Q := by
  refine pvGood_of (Nat.le_of_ble_eq_true rfl) ?_
  show pvEv Tm 8 qX11_costOf 0 [some (.ref 0), some (.ref 8), some (.int (nI i))] [] M Q
  obtain ⟨hD, hY, hM, hd, ht, ho⟩ := h
  have d8 := hD.1
  have hi9 : (nI i).toInt = (i : Int) := nI_toInt (by omega)
  have hi8 : i < 8 := (by omega)
  have h1i := one_i hi8
  have e0 : M.1 8 (Int32.toNatClampNeg 0) = nI S.1.2.2.1 := nI_is ht.1 (by have := ho.2.2.1; omega)
  refine pv_aloadn (pc := 0) (n := 1) 1 rfl rfl (fm_dec dtX11_costOf 0 rfl) ?_
  refine pv_iconst (pc := 1) (v := 0) (by decide) (fm_dec dtX11_costOf 1 rfl) ?_
  refine pv_iald (k := 8) (n := 14) (pc := 2) (by decide) rfl rfl (fm_inl (by decide)) (fm_dec dtX11_costOf 2 rfl) ?_
  refine pv_iloadn (pc := 3) (n := 2) 2 rfl rfl (fm_dec dtX11_costOf 3 rfl) ?_
  refine pv_iS2 (d' := 0) (pc := 4) pcs_X11_256 (Nat.le_of_ble_eq_true rfl) (by decide) (fm_dec dtX11_costOf 4 rfl) ?_
  refine c_has (fun h4 => ?_) (fun h4 => ?_)
  · refine pv_then1 ?_
    refine pv_if_eq (pc := 7) 14 (by decide) (fm_dec dtX11_costOf 5 rfl) (fun hc7 => by exfalso; revert hc7; decide) (fun _ => ?_)
    refine pv_iconst (pc := 10) (v := 0) (by decide) (fm_dec dtX11_costOf 6 rfl) ?_
    refine pv_goto (pc := 11) 29 (by decide) (fm_dec dtX11_costOf 7 rfl) ?_
    exact pv_ireturn (pc := 29) rfl (fm_dec dtX11_costOf 20 rfl) (hq _ _ (fun _ _ _ _ => rfl) rfl (by rw [if_pos ((has8 _ ho.2.2.1 i hi8).mp (by rw [← e0]; exact h4))]; decide))
  · refine pv_then1 ?_
    refine pv_if_eq (pc := 7) 14 (by decide) (fm_dec dtX11_costOf 5 rfl) (fun _ => ?_) (fun hc7 => by exfalso; revert hc7; decide)
    refine pv_aloadn (pc := 14) (n := 0) 0 rfl rfl (fm_dec dtX11_costOf 8 rfl) ?_
    refine pv_aloadn (pc := 15) (n := 1) 1 rfl rfl (fm_dec dtX11_costOf 9 rfl) ?_
    refine pv_iloadn (pc := 16) (n := 2) 2 rfl rfl (fm_dec dtX11_costOf 10 rfl) ?_
    refine pv_aloadn (pc := 17) (n := 1) 1 rfl rfl (fm_dec dtX11_costOf 11 rfl) ?_
    refine pv_iconst (pc := 18) (v := 1) (by decide) (fm_dec dtX11_costOf 12 rfl) ?_
    refine pv_iloadn (pc := 19) (n := 2) 2 rfl rfl (fm_dec dtX11_costOf 13 rfl) ?_
    refine pv_iadd (pc := 20) (fm_dec dtX11_costOf 14 rfl) ?_
    refine pv_iald (k := 8) (n := 14) (pc := 21) (by decide) rfl rfl (ix_in h1i (by omega)) (fm_dec dtX11_costOf 15 rfl) ?_
    rw [i32_cl h1i]
    refine pv_aloadn (pc := 22) (n := 1) 1 rfl rfl (fm_dec dtX11_costOf 16 rfl) ?_
    refine pv_bipush (pc := 23) (v := 10) (by decide) (fm_dec dtX11_costOf 17 rfl) ?_
    refine pv_iald (k := 8) (n := 14) (pc := 25) (by decide) rfl rfl (fm_inl (by decide)) (fm_dec dtX11_costOf 18 rfl) ?_
    refine pv_invV4 (k := 0) (d' := 6) (pc := 26) pcv_X11_280 (by decide) rfl (Nat.le_of_ble_eq_true rfl) (by decide) (fm_dec dtX11_costOf 19 rfl) ?_
    refine c_mcoT hD hY hM hd ht ho hi ht.2.1 (ht.2.2.2.2.2.2 i hi) (fun M26 r26 g26 h26 e26 => ?_)
    refine pv_then1 ?_
    exact pv_ireturn (pc := 29) rfl (fm_dec dtX11_costOf 20 rfl) (hq _ _ g26 h26 (by rw [if_neg (fun h9 => h4 (by rw [e0]; exact (has8 _ ho.2.2.1 i hi8).mpr h9))]; exact e26))
set_option maxRecDepth 20000 in
theorem c_msvT {M : fmM} {Q : fmR → fmM → Prop} {D : dD} {cs : tC} {S : aS} {i : Nat} (h : mAqT M D cs S) (hi : i < D.1) (hq : ∀ (M' : fmM) (r : Int32), (∀ k j, k ≠ 5 → k ≠ 6 → M'.1 k j = M.1 k j) → M'.2 = M.2 → r.toInt = saS D cs S i → Q (.inl (some (.int r))) M') : pvGood Tm 10 qX11_saved [.ref 0, .ref 8, .int (nI i)] M Q := by
  refine pvGood_of (Nat.le_of_ble_eq_true rfl) ?_
  show pvEv Tm 10 qX11_saved 0 [some (.ref 0), some (.ref 8), some (.int (nI i))] [] M Q
  have hmq := h
  obtain ⟨hD, hY, hM, hd, ht, ho⟩ := h
  have d8 := hD.1
  have hi9 : (nI i).toInt = (i : Int) := nI_toInt (by omega)
  have hi8 : i < 8 := (by omega)
  have g5 : (M.1 (35 + i) (Int32.toNatClampNeg 1)).toInt = D.2.1 i 1 := hY.2.2.2.1 i hi 1 (by decide)
  have sm := sa_m (cs := cs) (S := S) hD hi
  have c1 := coS_b (cs := cs) (S := S) hD hi
  have c2 := coA_b (cs := cs) (dead := S.1.2.2.1) (w := S.1.1) (age := 0) hD hi
  have z0 : (0 : Int32).toInt = 0 := (by decide)
  refine pv_aloadn (pc := 0) (n := 0) 0 rfl rfl (fm_dec dtX11_saved 0 rfl) ?_
  refine pv_aloadn (pc := 1) (n := 1) 1 rfl rfl (fm_dec dtX11_saved 1 rfl) ?_
  refine pv_iloadn (pc := 2) (n := 2) 2 rfl rfl (fm_dec dtX11_saved 2 rfl) ?_
  refine pv_invV2 (k := 0) (d' := 1) (pc := 3) pcv_X11_296 (by decide) rfl (Nat.le_of_ble_eq_true rfl) (by decide) (fm_dec dtX11_saved 3 rfl) ?_
  refine c_mmayT hD ht ho hi (fun h3a h3b => ?_) (fun h3 => ?_)
  · refine pv_then1 ?_
    refine pv_if_eq (pc := 6) 46 (by decide) (fm_dec dtX11_saved 4 rfl) (fun hc6 => by exfalso; revert hc6; decide) (fun _ => ?_)
    refine pv_iconst (pc := 9) (v := 0) (by decide) (fm_dec dtX11_saved 5 rfl) ?_
    refine pv_aloadn (pc := 10) (n := 0) 0 rfl rfl (fm_dec dtX11_saved 6 rfl) ?_
    refine pv_getR (k := 0) (j := 14) (ci := 11) (pc := 11) 17 rfl (by decide) pfl_X11_31 (by decide) rfl (by decide) (fm_dec dtX11_saved 7 rfl) ?_
    refine pv_iloadn (pc := 14) (n := 2) 2 rfl rfl (fm_dec dtX11_saved 8 rfl) ?_
    refine pv_aald (k := 17) (n := 8) (r := (35 + i)) (pc := 15) (by decide) (Or.inr (Or.inr rfl)) rfl (rw_life.inb hi9 hi8) (rw_life.at hi9 hi8) (rw_life.2.2.2 _ hi8).2.1 (fm_dec dtX11_saved 9 rfl) ?_
    refine pv_iconst (pc := 16) (v := 1) (by decide) (fm_dec dtX11_saved 10 rfl) ?_
    refine pv_iald (k := (35 + i)) (n := 6) (pc := 17) (rw_life.2.2.2 _ hi8).2.2.1 (rw_life.2.2.2 _ hi8).2.2.2.1 (rw_life.2.2.2 _ hi8).2.2.2.2 (fm_inl (by decide)) (fm_dec dtX11_saved 11 rfl) ?_
    refine pv_aloadn (pc := 18) (n := 0) 0 rfl rfl (fm_dec dtX11_saved 12 rfl) ?_
    refine pv_aloadn (pc := 19) (n := 1) 1 rfl rfl (fm_dec dtX11_saved 13 rfl) ?_
    refine pv_iloadn (pc := 20) (n := 2) 2 rfl rfl (fm_dec dtX11_saved 14 rfl) ?_
    refine pv_invV2 (k := 0) (d' := 8) (pc := 21) pcv_X11_293 (by decide) rfl (Nat.le_of_ble_eq_true rfl) (by decide) (fm_dec dtX11_saved 15 rfl) ?_
    refine c_mcofAT hmq hi (fun M21 r21 g21 h21 e21 => ?_)
    refine pv_then1 ?_
    have hm21 := hmq.low (fun k j _ a b => g21 k j a b) (g21 0 17 (by decide) (by decide))
    have g10 : (M21.1 8 (Int32.toNatClampNeg 10)).toInt = (S.1.1 : Int) := hm21.2.2.2.2.1.2.1
    refine pv_aloadn (pc := 24) (n := 0) 0 rfl rfl (fm_dec dtX11_saved 16 rfl) ?_
    refine pv_aloadn (pc := 25) (n := 1) 1 rfl rfl (fm_dec dtX11_saved 17 rfl) ?_
    refine pv_iloadn (pc := 26) (n := 2) 2 rfl rfl (fm_dec dtX11_saved 18 rfl) ?_
    refine pv_aloadn (pc := 27) (n := 1) 1 rfl rfl (fm_dec dtX11_saved 19 rfl) ?_
    refine pv_bipush (pc := 28) (v := 10) (by decide) (fm_dec dtX11_saved 20 rfl) ?_
    refine pv_iald (k := 8) (n := 14) (pc := 30) (by decide) rfl rfl (fm_inl (by decide)) (fm_dec dtX11_saved 21 rfl) ?_
    refine pv_aloadn (pc := 31) (n := 1) 1 rfl rfl (fm_dec dtX11_saved 22 rfl) ?_
    refine pv_bipush (pc := 32) (v := 10) (by decide) (fm_dec dtX11_saved 23 rfl) ?_
    refine pv_iald (k := 8) (n := 14) (pc := 34) (by decide) rfl rfl (fm_inl (by decide)) (fm_dec dtX11_saved 24 rfl) ?_
    refine pv_invV4 (k := 0) (d' := 6) (pc := 35) pcv_X11_280 (by decide) rfl (Nat.le_of_ble_eq_true rfl) (by decide) (fm_dec dtX11_saved 25 rfl) ?_
    refine c_mcoGT (ag := 0) hD hm21.2.1 hm21.2.2.1 hd hm21.2.2.2.2.1 ho hi g10 (by have := ho.1; omega) (by rw [g10, if_neg (by decide)]; omega) (by decide) (fun M35 r35 g35 h35 e35 => ?_)
    refine pv_then1 ?_
    refine pv_isub (pc := 38) (fm_dec dtX11_saved 26 rfl) ?_
    refine pv_imul (pc := 39) (fm_dec dtX11_saved 27 rfl) ?_
    refine pv_mm (pc := 40) pmm_X11_240 (by decide) (Nat.le_of_ble_eq_true rfl) (fm_dec dtX11_saved 28 rfl) ?_
    refine pv_goto (pc := 43) 47 (by decide) (fm_dec dtX11_saved 29 rfl) ?_
    exact pv_ireturn (pc := 47) rfl (fm_dec dtX11_saved 31 rfl) (hq M35 _ (fun k j a b => (g35 k j a b).trans (g21 k j a b)) (h35.trans h21) (by have e3 : r21.toInt = coS D cs S i := (by rw [e21, if_neg h3a]); have e4 : (r21 - r35).toInt = coS D cs S i - coA D cs S.1.2.2.1 S.1.1 i 0 := (by rw [sc_sub (by omega) (by omega), e3, e35]); rw [mxt, sa_1 h3a h3b, z0, sc_mul (by rw [g5, e4]; omega) (by rw [g5, e4]; omega), g5, e4]))
  · refine pv_then1 ?_
    refine pv_if_eq (pc := 6) 46 (by decide) (fm_dec dtX11_saved 4 rfl) (fun _ => ?_) (fun hc6 => by exfalso; revert hc6; decide)
    refine pv_iconst (pc := 46) (v := 0) (by decide) (fm_dec dtX11_saved 30 rfl) ?_
    exact pv_ireturn (pc := 47) rfl (fm_dec dtX11_saved 31 rfl) (hq M 0 (fun _ _ _ _ => rfl) rfl (by rw [sa_0 h3]; decide))
set_option maxRecDepth 20000 in
theorem mfj_loopT {Q : fmR → fmM → Prop} {M0 : fmM} {D : dD} {cs : tC} {S : aS} {hm : Int32} {mo : Nat} (hm9 : hm.toInt = (mo : Int)) : ∀ (m : Nat) (n : Nat) (M : fmM) (w : Int32), (mAqT M D cs S ∧ mk2 M0 M) → n ≤ D.1 → D.1 - n = m → w.toInt = fiS (saS D cs S) (hoS D S) mo n → (∀ (r : Int32) (M' : fmM), mk2 M0 M' → r.toInt = fiS (saS D cs S) (hoS D S) mo D.1 → Q (.inl (some (.int r))) M') → pvEv Tm 20 qX11_firstOf 5 [some (.ref 0), some (.ref 8), some (.int hm), some (.int w), some (.int (nI n))] [] M Q := by
  intro m
  induction m using Nat.strongRecOn with
  | _ m ih =>
    intro n M w h hnD hm0 hw hq
    have h9q := h.1
    obtain ⟨hD, hY, hM, hd, ht, ho⟩ := h9q
    have d8 := hD.1
    have hn9 : (nI n).toInt = (n : Int) := nI_toInt (by omega)
    have h39 : (M.1 4 (Int32.toNatClampNeg 0)).toInt = (D.1 : Int) := hY.1
    refine pv_iload (pc := 5) (i := 4) rfl (fm_dec dtX11_firstOf 4 rfl) ?_
    refine pv_aloadn (pc := 7) (n := 0) 0 rfl rfl (fm_dec dtX11_firstOf 5 rfl) ?_
    refine pv_getR (k := 0) (j := 12) (ci := 11) (pc := 8) 4 rfl (by decide) pfl_X11_23 (by decide) rfl (by decide) (fm_dec dtX11_firstOf 6 rfl) ?_
    refine pv_iconst (pc := 11) (v := 0) (by decide) (fm_dec dtX11_firstOf 7 rfl) ?_
    refine pv_iald (k := 4) (n := 6) (pc := 12) (by decide) rfl rfl (fm_inl (by decide)) (fm_dec dtX11_firstOf 8 rfl) ?_
    refine pv_icmp_ge (pc := 13) 90 (by decide) (fm_dec dtX11_firstOf 9 rfl) (fun hc13 => ?_) (fun hc13 => ?_)
    · refine pv_iloadn (pc := 90) (n := 3) 3 rfl rfl (fm_dec dtX11_firstOf 53 rfl) ?_
      exact pv_ireturn (pc := 91) rfl (fm_dec dtX11_firstOf 54 rfl) (by have e9 : n = D.1 := (by rw [sc_le] at hc13; omega); subst e9; exact hq _ _ h.2 hw)
    · have hn : n < D.1 := (by rw [sc_le] at hc13; omega)
      have hn8 : n < 8 := (by omega)
      have fb := fi_b (sv := saS D cs S) (hr := hoS D S) (most := mo) n
      have sbn := sa_b (cs := cs) (S := S) hD hn
      have hbn := ho_b (S := S) hD hn
      refine pv_aloadn (pc := 16) (n := 0) 0 rfl rfl (fm_dec dtX11_firstOf 10 rfl) ?_
      refine pv_aloadn (pc := 17) (n := 1) 1 rfl rfl (fm_dec dtX11_firstOf 11 rfl) ?_
      refine pv_iload (pc := 18) (i := 4) rfl (fm_dec dtX11_firstOf 12 rfl) ?_
      refine pv_invV2 (k := 0) (d' := 10) (pc := 20) pcv_X11_355 (by decide) rfl (Nat.le_of_ble_eq_true rfl) (by decide) (fm_dec dtX11_firstOf 13 rfl) ?_
      refine c_msvT (i := n) h.1 hn (fun M20 r20 g20 k20 e20 => ?_)
      refine pv_then1 ?_
      have h20 := h.1.low (fun k j _ x y => g20 k j x y) (g20 0 17 (by decide) (by decide))
      have z20 : mk2 M0 M20 := ⟨fun k j p q => (g20 k j p q).trans (h.2.1 k j p q), k20.trans h.2.2⟩
      refine pv_if_eq (pc := 23) 84 (by decide) (fm_dec dtX11_firstOf 14 rfl) (fun hc23 => ?_) (fun hc23 => ?_)
      · refine pv_iincc (pc := 84) 4 1 (by decide) rfl (by decide) rfl (fm_dec dtX11_firstOf 51 rfl) ?_
        dsimp only [List.set_cons_zero, List.set_cons_succ]
        refine pv_goto (pc := 87) 5 (by decide) (fm_dec dtX11_firstOf 52 rfl) ?_
        have e0 : saS D cs S n = 0 := (by rw [← e20, hc23]; decide)
        have e9 : fiS (saS D cs S) (hoS D S) mo (n + 1) = fiS (saS D cs S) (hoS D S) mo n := fi_f (by rintro ⟨-, h1, -⟩; omega)
        rw [nI_succ1]
        exact ih (D.1 - (n + 1)) (by omega) (n + 1) M20 _ ⟨h20, z20⟩ (by omega) rfl (by rw [e9]; exact hw) hq
      · refine pv_aloadn (pc := 26) (n := 0) 0 rfl rfl (fm_dec dtX11_firstOf 15 rfl) ?_
        refine pv_aloadn (pc := 27) (n := 1) 1 rfl rfl (fm_dec dtX11_firstOf 16 rfl) ?_
        refine pv_iload (pc := 28) (i := 4) rfl (fm_dec dtX11_firstOf 17 rfl) ?_
        refine pv_invV2 (k := 0) (d' := 2) (pc := 30) pcv_X11_290 (by decide) rfl (Nat.le_of_ble_eq_true rfl) (by decide) (fm_dec dtX11_firstOf 18 rfl) ?_
        refine c_hours7T hn9 hn8 (h5_ne hD h20.2.1) ?_
        refine pv_then1 ?_
        have er : (hrVT M20 n).toInt = ((hoS D S n : Nat) : Int) := hrV_nT hD h20.2.1 h20.2.2.2.2.1 ho hn
        refine pv_iloadn (pc := 33) (n := 2) 2 rfl rfl (fm_dec dtX11_firstOf 19 rfl) ?_
        refine pv_icmp_le (pc := 34) 40 (by decide) (fm_dec dtX11_firstOf 20 rfl) (fun hc34 => ?_) (fun hc34 => ?_)
        · refine pv_iloadn (pc := 40) (n := 3) 3 rfl rfl (fm_dec dtX11_firstOf 22 rfl) ?_
          refine pv_iconst (pc := 41) (v := (-1)) (by decide) (fm_dec dtX11_firstOf 23 rfl) ?_
          refine pv_icmp_eq (pc := 42) 81 (by decide) (fm_dec dtX11_firstOf 24 rfl) (fun hc42 => ?_) (fun hc42 => ?_)
          · refine pv_iload (pc := 81) (i := 4) rfl (fm_dec dtX11_firstOf 49 rfl) ?_
            refine pv_istoren (pc := 83) (n := 3) 3 rfl (by decide) rfl (fm_dec dtX11_firstOf 50 rfl) ?_
            dsimp only [List.set_cons_zero, List.set_cons_succ]
            refine pv_iincc (pc := 84) 4 1 (by decide) rfl (by decide) rfl (fm_dec dtX11_firstOf 51 rfl) ?_
            dsimp only [List.set_cons_zero, List.set_cons_succ]
            refine pv_goto (pc := 87) 5 (by decide) (fm_dec dtX11_firstOf 52 rfl) ?_
            have e1 : ¬ saS D cs S n = 0 := (fun e => hc23 (i32_ext (e20.trans (by rw [e]; decide))))
            have e9 : fiS (saS D cs S) (hoS D S) mo (n + 1) = (n : Int) := fi_t ⟨by rw [sc_le] at hc34; omega, by omega, Or.inl (by rw [← hw, hc42]; decide)⟩
            rw [nI_succ1]
            exact ih (D.1 - (n + 1)) (by omega) (n + 1) M20 _ ⟨h20, z20⟩ (by omega) rfl (by rw [e9]; exact hn9) hq
          · have hne : ¬ (fiS (saS D cs S) (hoS D S) mo n) = -1 := (fun e => hc42 (i32_ext (hw.trans (by rw [e]; decide))))
            have hbi : (fiS (saS D cs S) (hoS D S) mo n).toNat < D.1 := (by omega)
            have ewb : w = nI (fiS (saS D cs S) (hoS D S) mo n).toNat := nI_is (by omega) (by omega)
            have hwb9 : (nI (fiS (saS D cs S) (hoS D S) mo n).toNat).toInt = (((fiS (saS D cs S) (hoS D S) mo n).toNat : Nat) : Int) := nI_toInt (by omega)
            have sbb := sa_b (cs := cs) (S := S) (i := (fiS (saS D cs S) (hoS D S) mo n).toNat) hD hbi
            have hbb := ho_b (S := S) (i := (fiS (saS D cs S) (hoS D S) mo n).toNat) hD hbi
            have hw0 := hw
            rw [ewb]
            refine pv_aloadn (pc := 45) (n := 0) 0 rfl rfl (fm_dec dtX11_firstOf 25 rfl) ?_
            refine pv_aloadn (pc := 46) (n := 1) 1 rfl rfl (fm_dec dtX11_firstOf 26 rfl) ?_
            refine pv_iload (pc := 47) (i := 4) rfl (fm_dec dtX11_firstOf 27 rfl) ?_
            refine pv_invV2 (k := 0) (d' := 10) (pc := 49) pcv_X11_355 (by decide) rfl (Nat.le_of_ble_eq_true rfl) (by decide) (fm_dec dtX11_firstOf 28 rfl) ?_
            refine c_msvT (i := n) h20 hn (fun M49 r49 g49 k49 e49 => ?_)
            refine pv_then1 ?_
            have h49 := h20.low (fun k j _ x y => g49 k j x y) (g49 0 17 (by decide) (by decide))
            have z49 : mk2 M0 M49 := ⟨fun k j p q => (g49 k j p q).trans (z20.1 k j p q), k49.trans z20.2⟩
            refine pv_i2l (pc := 52) (fm_dec dtX11_firstOf 29 rfl) ?_
            refine pv_aloadn (pc := 53) (n := 0) 0 rfl rfl (fm_dec dtX11_firstOf 30 rfl) ?_
            refine pv_aloadn (pc := 54) (n := 1) 1 rfl rfl (fm_dec dtX11_firstOf 31 rfl) ?_
            refine pv_iloadn (pc := 55) (n := 3) 3 rfl rfl (fm_dec dtX11_firstOf 32 rfl) ?_
            refine pv_invV2 (k := 0) (d' := 2) (pc := 56) pcv_X11_290 (by decide) rfl (Nat.le_of_ble_eq_true rfl) (by decide) (fm_dec dtX11_firstOf 33 rfl) ?_
            refine c_hours7T hwb9 (by omega) (h5_ne hD h49.2.1) ?_
            refine pv_then1 ?_
            refine pv_i2l (pc := 59) (fm_dec dtX11_firstOf 34 rfl) ?_
            refine pv_lmul (pc := 60) (fm_dec dtX11_firstOf 35 rfl) ?_
            refine pv_aloadn (pc := 61) (n := 0) 0 rfl rfl (fm_dec dtX11_firstOf 36 rfl) ?_
            refine pv_aloadn (pc := 62) (n := 1) 1 rfl rfl (fm_dec dtX11_firstOf 37 rfl) ?_
            refine pv_iloadn (pc := 63) (n := 3) 3 rfl rfl (fm_dec dtX11_firstOf 38 rfl) ?_
            refine pv_invV2 (k := 0) (d' := 10) (pc := 64) pcv_X11_355 (by decide) rfl (Nat.le_of_ble_eq_true rfl) (by decide) (fm_dec dtX11_firstOf 39 rfl) ?_
            refine c_msvT (i := (fiS (saS D cs S) (hoS D S) mo n).toNat) h49 hbi (fun M64 r64 g64 k64 e64 => ?_)
            refine pv_then1 ?_
            have h64 := h49.low (fun k j _ x y => g64 k j x y) (g64 0 17 (by decide) (by decide))
            have z64 : mk2 M0 M64 := ⟨fun k j p q => (g64 k j p q).trans (z49.1 k j p q), k64.trans z49.2⟩
            refine pv_i2l (pc := 67) (fm_dec dtX11_firstOf 40 rfl) ?_
            refine pv_aloadn (pc := 68) (n := 0) 0 rfl rfl (fm_dec dtX11_firstOf 41 rfl) ?_
            refine pv_aloadn (pc := 69) (n := 1) 1 rfl rfl (fm_dec dtX11_firstOf 42 rfl) ?_
            refine pv_iload (pc := 70) (i := 4) rfl (fm_dec dtX11_firstOf 43 rfl) ?_
            refine pv_invV2 (k := 0) (d' := 2) (pc := 72) pcv_X11_290 (by decide) rfl (Nat.le_of_ble_eq_true rfl) (by decide) (fm_dec dtX11_firstOf 44 rfl) ?_
            refine c_hours7T hn9 hn8 (h5_ne hD h64.2.1) ?_
            refine pv_then1 ?_
            refine pv_i2l (pc := 75) (fm_dec dtX11_firstOf 45 rfl) ?_
            refine pv_lmul (pc := 76) (fm_dec dtX11_firstOf 46 rfl) ?_
            have q1 := mj_i (x := r49.toInt64) (z := hrVT M49 (fiS (saS D cs S) (hoS D S) mo n).toNat) (by rw [Int32.toInt_toInt64]; exact e49) (hrV_nT hD h49.2.1 h49.2.2.2.2.1 ho hbi) sbn hbb.2
            have q2 := mj_i (x := r64.toInt64) (z := hrVT M64 n) (by rw [Int32.toInt_toInt64]; exact e64) (hrV_nT hD h64.2.1 h64.2.2.2.2.1 ho hn) sbb hbn.2
            refine pv_lcmp (pc := 77) (fm_dec dtX11_firstOf 47 rfl) ?_
            refine pv_if_le (pc := 78) 84 (by decide) (fm_dec dtX11_firstOf 48 rfl) (fun hc78 => ?_) (fun hc78 => ?_)
            · refine pv_iincc (pc := 84) 4 1 (by decide) rfl (by decide) rfl (fm_dec dtX11_firstOf 51 rfl) ?_
              dsimp only [List.set_cons_zero, List.set_cons_succ]
              refine pv_goto (pc := 87) 5 (by decide) (fm_dec dtX11_firstOf 52 rfl) ?_
              have e1 : ¬ saS D cs S n = 0 := (fun e => hc23 (i32_ext (e20.trans (by rw [e]; decide))))
              have e9 : fiS (saS D cs S) (hoS D S) mo (n + 1) = fiS (saS D cs S) (hoS D S) mo n := fi_f (by rintro ⟨-, -, h1 | h1⟩; exact hne h1; have h2 := lc_gt.mp hc78; omega)
              rw [nI_succ1]
              exact ih (D.1 - (n + 1)) (by omega) (n + 1) M64 _ ⟨h64, z64⟩ (by omega) rfl (by rw [e9]; exact (by rw [← ewb]; exact hw)) hq
            · refine pv_iload (pc := 81) (i := 4) rfl (fm_dec dtX11_firstOf 49 rfl) ?_
              refine pv_istoren (pc := 83) (n := 3) 3 rfl (by decide) rfl (fm_dec dtX11_firstOf 50 rfl) ?_
              dsimp only [List.set_cons_zero, List.set_cons_succ]
              refine pv_iincc (pc := 84) 4 1 (by decide) rfl (by decide) rfl (fm_dec dtX11_firstOf 51 rfl) ?_
              dsimp only [List.set_cons_zero, List.set_cons_succ]
              refine pv_goto (pc := 87) 5 (by decide) (fm_dec dtX11_firstOf 52 rfl) ?_
              have e1 : ¬ saS D cs S n = 0 := (fun e => hc23 (i32_ext (e20.trans (by rw [e]; decide))))
              have e9 : fiS (saS D cs S) (hoS D S) mo (n + 1) = (n : Int) := fi_t ⟨by rw [sc_le] at hc34; omega, by omega, Or.inr (by have h2 : ¬ (r49.toInt64 * (hrVT M49 (fiS (saS D cs S) (hoS D S) mo n).toNat).toInt64).toInt ≤ (r64.toInt64 * (hrVT M64 n).toInt64).toInt := (fun e => hc78 (lc_gt.mpr e)); omega)⟩
              rw [nI_succ1]
              exact ih (D.1 - (n + 1)) (by omega) (n + 1) M64 _ ⟨h64, z64⟩ (by omega) rfl (by rw [e9]; exact hn9) hq
        · refine pv_goto (pc := 37) 84 (by decide) (fm_dec dtX11_firstOf 21 rfl) ?_
          refine pv_iincc (pc := 84) 4 1 (by decide) rfl (by decide) rfl (fm_dec dtX11_firstOf 51 rfl) ?_
          dsimp only [List.set_cons_zero, List.set_cons_succ]
          refine pv_goto (pc := 87) 5 (by decide) (fm_dec dtX11_firstOf 52 rfl) ?_
          have e9 : fiS (saS D cs S) (hoS D S) mo (n + 1) = fiS (saS D cs S) (hoS D S) mo n := fi_f (by rintro ⟨h1, -⟩; rw [sc_le] at hc34; omega)
          rw [nI_succ1]
          exact ih (D.1 - (n + 1)) (by omega) (n + 1) M20 _ ⟨h20, z20⟩ (by omega) rfl (by rw [e9]; exact hw) hq
set_option maxRecDepth 20000 in
theorem c_mfjT {M : fmM} {Q : fmR → fmM → Prop} {D : dD} {cs : tC} {S : aS} {hm : Int32} {mo : Nat} (h : mAqT M D cs S) (hm9 : hm.toInt = (mo : Int)) (hq : ∀ (r : Int32) (M' : fmM), mk2 M M' → r.toInt = fiS (saS D cs S) (hoS D S) mo D.1 → Q (.inl (some (.int r))) M') : pvGood Tm 21 qX11_firstOf [.ref 0, .ref 8, .int hm] M Q := by
  refine pvGood_of (Nat.le_of_ble_eq_true rfl) ?_
  show pvEv Tm 21 qX11_firstOf 0 [some (.ref 0), some (.ref 8), some (.int hm), none, none] [] M Q
  refine pv_iconst (pc := 0) (v := (-1)) (by decide) (fm_dec dtX11_firstOf 0 rfl) ?_
  refine pv_istoren (pc := 1) (n := 3) 3 rfl (by decide) rfl (fm_dec dtX11_firstOf 1 rfl) ?_
  dsimp only [List.set_cons_zero, List.set_cons_succ]
  refine pv_iconst (pc := 2) (v := 0) (by decide) (fm_dec dtX11_firstOf 2 rfl) ?_
  refine pv_istore (pc := 3) (i := 4) (by decide) rfl (fm_dec dtX11_firstOf 3 rfl) ?_
  dsimp only [List.set_cons_zero, List.set_cons_succ]
  exact (mfj_loopT hm9 D.1 0 M _ ⟨h, fun _ _ _ _ => rfl, rfl⟩ (Nat.zero_le _) rfl (by show (-1 : Int32).toInt = (-1 : Int); decide) hq).up (by decide)
set_option maxRecDepth 20000 in
theorem mal_loopT {Q : fmR → fmM → Prop} {M : fmM} {D : dD} {cs : tC} {S : aS} (h : mAqT M D cs S) : ∀ (m : Nat) (n : Nat), n ≤ D.1 → D.1 - n = m → Q (.inl (some (.int (nI (alC S.1.2.2.1 D.1))))) M → pvEv Tm 40 qX11_aliveIn 4 [some (.ref 0), some (.ref 8), some (.int (nI (alC S.1.2.2.1 n))), some (.int (nI n))] [] M Q := by
  intro m
  induction m using Nat.strongRecOn with
  | _ m ih =>
    intro n hnD hm hq
    obtain ⟨hD, hY, hM, hd, ht, ho⟩ := h
    have d8 := hD.1
    have hn9 : (nI n).toInt = (n : Int) := nI_toInt (by omega)
    have h39 : (M.1 4 (Int32.toNatClampNeg 0)).toInt = (D.1 : Int) := hY.1
    refine pv_iloadn (pc := 4) (n := 3) 3 rfl rfl (fm_dec dtX11_aliveIn 4 rfl) ?_
    refine pv_aloadn (pc := 5) (n := 0) 0 rfl rfl (fm_dec dtX11_aliveIn 5 rfl) ?_
    refine pv_getR (k := 0) (j := 12) (ci := 11) (pc := 6) 4 rfl (by decide) pfl_X11_23 (by decide) rfl (by decide) (fm_dec dtX11_aliveIn 6 rfl) ?_
    refine pv_iconst (pc := 9) (v := 0) (by decide) (fm_dec dtX11_aliveIn 7 rfl) ?_
    refine pv_iald (k := 4) (n := 6) (pc := 10) (by decide) rfl rfl (fm_inl (by decide)) (fm_dec dtX11_aliveIn 8 rfl) ?_
    refine pv_icmp_ge (pc := 11) 38 (by decide) (fm_dec dtX11_aliveIn 9 rfl) (fun hc11 => ?_) (fun hc11 => ?_)
    · refine pv_iloadn (pc := 38) (n := 2) 2 rfl rfl (fm_dec dtX11_aliveIn 24 rfl) ?_
      exact pv_ireturn (pc := 39) rfl (fm_dec dtX11_aliveIn 25 rfl) (by have e9 : n = D.1 := (by rw [sc_le] at hc11; omega); subst e9; exact hq)
    · have hn : n < D.1 := (by rw [sc_le] at hc11; omega)
      have e0 : M.1 8 (Int32.toNatClampNeg 0) = nI S.1.2.2.1 := nI_is ht.1 (by have := ho.2.2.1; omega)
      refine pv_iloadn (pc := 14) (n := 2) 2 rfl rfl (fm_dec dtX11_aliveIn 10 rfl) ?_
      refine pv_aloadn (pc := 15) (n := 1) 1 rfl rfl (fm_dec dtX11_aliveIn 11 rfl) ?_
      refine pv_iconst (pc := 16) (v := 0) (by decide) (fm_dec dtX11_aliveIn 12 rfl) ?_
      refine pv_iald (k := 8) (n := 14) (pc := 17) (by decide) rfl rfl (fm_inl (by decide)) (fm_dec dtX11_aliveIn 13 rfl) ?_
      refine pv_iloadn (pc := 18) (n := 3) 3 rfl rfl (fm_dec dtX11_aliveIn 14 rfl) ?_
      refine pv_iS2 (d' := 0) (pc := 19) pcs_X11_256 (Nat.le_of_ble_eq_true rfl) (by decide) (fm_dec dtX11_aliveIn 15 rfl) ?_
      refine c_has (fun h19 => ?_) (fun h19 => ?_)
      · refine pv_then1 ?_
        refine pv_if_eq (pc := 22) 29 (by decide) (fm_dec dtX11_aliveIn 16 rfl) (fun hc22 => by exfalso; revert hc22; decide) (fun _ => ?_)
        refine pv_iconst (pc := 25) (v := 0) (by decide) (fm_dec dtX11_aliveIn 17 rfl) ?_
        refine pv_goto (pc := 26) 30 (by decide) (fm_dec dtX11_aliveIn 18 rfl) ?_
        refine pv_iadd (pc := 30) (fm_dec dtX11_aliveIn 20 rfl) ?_
        refine pv_istoren (pc := 31) (n := 2) 2 rfl (by decide) rfl (fm_dec dtX11_aliveIn 21 rfl) ?_
        dsimp only [List.set_cons_zero, List.set_cons_succ]
        refine pv_iincc (pc := 32) 3 1 (by decide) rfl (by decide) rfl (fm_dec dtX11_aliveIn 22 rfl) ?_
        dsimp only [List.set_cons_zero, List.set_cons_succ]
        refine pv_goto (pc := 35) 4 (by decide) (fm_dec dtX11_aliveIn 23 rfl) ?_
        rw [Int32.add_zero, nI_succ1, alC_t ((has8 _ ho.2.2.1 n (by omega)).mp (by rw [← e0]; exact h19))]
        exact ih (D.1 - (n + 1)) (by omega) (n + 1) (by omega) rfl hq
      · refine pv_then1 ?_
        refine pv_if_eq (pc := 22) 29 (by decide) (fm_dec dtX11_aliveIn 16 rfl) (fun _ => ?_) (fun hc22 => by exfalso; revert hc22; decide)
        refine pv_iconst (pc := 29) (v := 1) (by decide) (fm_dec dtX11_aliveIn 19 rfl) ?_
        refine pv_iadd (pc := 30) (fm_dec dtX11_aliveIn 20 rfl) ?_
        refine pv_istoren (pc := 31) (n := 2) 2 rfl (by decide) rfl (fm_dec dtX11_aliveIn 21 rfl) ?_
        dsimp only [List.set_cons_zero, List.set_cons_succ]
        refine pv_iincc (pc := 32) 3 1 (by decide) rfl (by decide) rfl (fm_dec dtX11_aliveIn 22 rfl) ?_
        dsimp only [List.set_cons_zero, List.set_cons_succ]
        refine pv_goto (pc := 35) 4 (by decide) (fm_dec dtX11_aliveIn 23 rfl) ?_
        rw [nI_succ1, nI_succ1, alC_f (by cases e8 : S.1.2.2.1.testBit n with | false => rfl | true => exact absurd (by rw [e0]; exact (has8 _ ho.2.2.1 n (by omega)).mpr e8) h19)]
        exact ih (D.1 - (n + 1)) (by omega) (n + 1) (by omega) rfl hq
set_option maxRecDepth 20000 in
theorem c_malsT {M : fmM} {Q : fmR → fmM → Prop} {D : dD} {cs : tC} {S : aS} (h : mAqT M D cs S) (hq : Q (.inl (some (.int (nI (alC S.1.2.2.1 D.1))))) M) : pvGood Tm 40 qX11_aliveIn [.ref 0, .ref 8] M Q := by
  refine pvGood_of (Nat.le_of_ble_eq_true rfl) ?_
  show pvEv Tm 40 qX11_aliveIn 0 [some (.ref 0), some (.ref 8), none, none] [] M Q
  refine pv_iconst (pc := 0) (v := 0) (by decide) (fm_dec dtX11_aliveIn 0 rfl) ?_
  refine pv_istoren (pc := 1) (n := 2) 2 rfl (by decide) rfl (fm_dec dtX11_aliveIn 1 rfl) ?_
  dsimp only [List.set_cons_zero, List.set_cons_succ]
  refine pv_iconst (pc := 2) (v := 0) (by decide) (fm_dec dtX11_aliveIn 2 rfl) ?_
  refine pv_istoren (pc := 3) (n := 3) 3 rfl (by decide) rfl (fm_dec dtX11_aliveIn 3 rfl) ?_
  dsimp only [List.set_cons_zero, List.set_cons_succ]
  have d8 := h.1.1
  exact mal_loopT h D.1 0 (by omega) rfl hq
/-- what years leave on the other side -/
def zFr (M M' : fmM) : Prop := (∀ k j, k ≠ 0 → k ≠ 5 → k ≠ 6 → k ≠ 8 → M'.1 k j = M.1 k j) ∧ (∀ j, j ≠ 47 → j ≠ 48 → M'.1 0 j = M.1 0 j)
theorem zFr.refl (M : fmM) : zFr M M := ⟨fun _ _ _ _ _ _ => rfl, fun _ _ _ => rfl⟩
theorem zFr.tr {M M1 M2 : fmM} (h : zFr M M1) (h' : zFr M1 M2) : zFr M M2 := ⟨fun k j a b c d => (h'.1 k j a b c d).trans (h.1 k j a b c d), fun j a b => (h'.2 j a b).trans (h.2 j a b)⟩
theorem zFr.s {M M1 M2 : fmM} (h : zFr M M1) (f : mFrT M1 M2) : zFr M M2 := ⟨fun k j a b c d => (f.1 k j b c d).trans (h.1 k j a b c d), fun j a b => (f.1 0 j (by decide) (by decide) (by decide)).trans (h.2 j a b)⟩
theorem zFr.k {M M1 M2 : fmM} (h : zFr M M1) (f : mk2 M1 M2) : zFr M M2 := ⟨fun k j a b c d => (f.1 k j b c).trans (h.1 k j a b c d), fun j a b => (f.1 0 j (by decide) (by decide)).trans (h.2 j a b)⟩
theorem zFr.p47 {M M1 : fmM} {x : Int32} (h : zFr M M1) : zFr M (fmI M1 0 47 x) := ⟨fun k j a b c d => by rw [fmI_k _ _ a]; exact h.1 k j a b c d, fun j a b => by rw [fmI_j _ _ a]; exact h.2 j a b⟩
theorem zFr.p48 {M M1 : fmM} {x : Int32} (h : zFr M M1) : zFr M (fmI M1 0 48 x) := ⟨fun k j a b c d => by rw [fmI_k _ _ a]; exact h.1 k j a b c d, fun j a b => by rw [fmI_j _ _ b]; exact h.2 j a b⟩
theorem mAqT.p {M : fmM} {D : dD} {cs : tC} {S : aS} {j : Nat} {x : Int32} (h : mAqT M D cs S) (hj : j ≠ 17) : mAqT (fmI M 0 j x) D cs S := h.low (fun k j' a _ _ => by rw [fmI_k _ _ a]) (by rw [fmI_j _ _ (fun e => hj e.symm)])
theorem mAqT.s {M M' : fmM} {D : dD} {cs : tC} {S S' : aS} (h : mAqT M D cs S) (f : mFrT M M') (hs : mstT M' D S') (ho : stO D S') : mAqT M' D cs S' := ⟨h.1, h.2.1.k h.1 (fun k j a => f.1 k j (by omega) (by omega) (by omega)), h.2.2.1.f2 (f.1 0 17 (by decide) (by decide) (by decide)) (fun k j a b => f.1 k j (by omega) (by omega) (by omega)), h.2.2.2.1, hs, ho⟩
theorem mAqT.k {M M' : fmM} {D : dD} {cs : tC} {S : aS} (h : mAqT M D cs S) (f : mk2 M M') : mAqT M' D cs S := h.low (fun k j _ a b => f.1 k j a b) (f.1 0 17 (by decide) (by decide))
theorem wr_frT {M : fmM} {i : Nat} : mFrT M (wrM2T M i) := (mFrT.refl M).put.put
theorem pu_okR {D : dD} {cs : tC} {S S' : aS} {i : Nat} (hD : dOk D) (ho : stO D S) (hi : i < D.1) (h : puS D S i = some S') : stO D S' := by
  by_cases e : S.2 i = -1
  · exact do_ok (cs := cs) (k := 0) hD ho (fun _ => hi) ((if_pos e).trans h)
  · exact do_ok (cs := cs) (k := 1) hD ho (fun _ => hi) ((if_neg e).trans h)
theorem ro_8 : rwC 8 := by decide +kernel
theorem mAq.tr {M M' : fmM} {D : dD} {cs : tC} {S : aS} (h : mAq M D cs S) (c : cpB 7 8 14 M M') : mAqT M' D cs S := by
  have hk : ∀ k j, k ≠ 8 → M'.1 k j = M.1 k j := fun k j a => c.2.1 k j (fun h9 => a h9.1)
  obtain ⟨hD, hY, hM, hd, ht, ho⟩ := h
  have d8 := hD.1
  obtain ⟨a, b, c1, d, e, f, g⟩ := ht
  exact ⟨hD, hY.k hD (fun k j a => hk k j (by omega)), hM.f (hk 0 17 (by decide)) (fun k j a => hk k j (by omega)), hd, ⟨by rw [c.1 0 (by decide)]; exact a, by rw [c.1 10 (by decide)]; exact b, by rw [c.1 9 (by decide)]; exact c1, by rw [c.1 11 (by decide)]; exact d, by rw [c.1 12 (by decide)]; exact e, by rw [c.1 13 (by decide)]; exact f, fun i hi => by rw [c.1 (1 + i) (by omega)]; exact g i hi⟩, ho⟩
set_option maxRecDepth 20000 in
theorem myd_loop {Q : fmR → fmM → Prop} {M0 : fmM} {D : dD} {cs : tC} {p : aS × Int32} {sd : Int32} {wk k : Nat} (hq : ∀ (M : fmM) (n9 : Int32), mAqT M D cs (ydS D cs D.1 p).1 → M.1 0 47 = (ydS D cs D.1 p).2 → M.1 0 48 = M0.1 0 48 → zFr M0 M → pvEv Tm 24 qX11_yearsBy 113 [some (.ref 0), some (.int sd), some (.int (nI wk)), some (.int (nI k)), some (.int n9)] [] M Q) : ∀ (m : Nat) (n : Nat) (M : fmM), mAqT M D cs (ydS D cs n p).1 → M.1 0 47 = (ydS D cs n p).2 → M.1 0 48 = M0.1 0 48 → zFr M0 M → n ≤ D.1 → D.1 - n = m → pvEv Tm 24 qX11_yearsBy 31 [some (.ref 0), some (.int sd), some (.int (nI wk)), some (.int (nI k)), some (.int (nI n))] [] M Q := by
  intro m
  induction m using Nat.strongRecOn with
  | _ m ih =>
    intro n M h h47 h48 hf hnD hm
    have d8 := h.1.1
    have hn9 : (nI n).toInt = (n : Int) := nI_toInt (by omega)
    have h39 : (M.1 4 (Int32.toNatClampNeg 0)).toInt = (D.1 : Int) := h.2.1.1
    refine pv_iload (pc := 31) (i := 4) rfl (fm_dec dtX11_yearsBy 18 rfl) ?_
    refine pv_aloadn (pc := 33) (n := 0) 0 rfl rfl (fm_dec dtX11_yearsBy 19 rfl) ?_
    refine pv_getR (k := 0) (j := 12) (ci := 11) (pc := 34) 4 rfl (by decide) pfl_X11_23 (by decide) rfl (by decide) (fm_dec dtX11_yearsBy 20 rfl) ?_
    refine pv_iconst (pc := 37) (v := 0) (by decide) (fm_dec dtX11_yearsBy 21 rfl) ?_
    refine pv_iald (k := 4) (n := 6) (pc := 38) (by decide) rfl rfl (fm_inl (by decide)) (fm_dec dtX11_yearsBy 22 rfl) ?_
    refine pv_icmp_ge (pc := 39) 113 (by decide) (fm_dec dtX11_yearsBy 23 rfl) (fun hc39 => ?_) (fun hc39 => ?_)
    · have e9 : n = D.1 := (by rw [sc_le] at hc39; omega)
      subst e9
      exact hq M _ h h47 h48 hf
    · have hn : n < D.1 := (by rw [sc_le] at hc39; omega)
      have hn8 : n < 8 := (by omega)
      have e0 : M.1 8 (Int32.toNatClampNeg 0) = nI (ydS D cs n p).1.1.2.2.1 := nI_is h.2.2.2.2.1.1 (by have := h.2.2.2.2.2.2.2.1; omega)
      have w256 := h.2.2.2.2.2.2.2.1
      have g5 : (M.1 (35 + n) (Int32.toNatClampNeg 1)).toInt = D.2.1 n 1 := h.2.1.2.2.2.1 n hn 1 (by decide)
      refine pv_aloadn (pc := 42) (n := 0) 0 rfl rfl (fm_dec dtX11_yearsBy 24 rfl) ?_
      refine pv_getR (k := 0) (j := 28) (ci := 11) (pc := 43) 8 rfl (by decide) pfl_X11_64 (by decide) rfl (by decide) (fm_dec dtX11_yearsBy 25 rfl) ?_
      refine pv_iconst (pc := 46) (v := 0) (by decide) (fm_dec dtX11_yearsBy 26 rfl) ?_
      refine pv_iald (k := 8) (n := 14) (pc := 47) (by decide) rfl rfl (fm_inl (by decide)) (fm_dec dtX11_yearsBy 27 rfl) ?_
      refine pv_iload (pc := 48) (i := 4) rfl (fm_dec dtX11_yearsBy 28 rfl) ?_
      refine pv_iS2 (d' := 0) (pc := 50) pcs_X11_256 (Nat.le_of_ble_eq_true rfl) (by decide) (fm_dec dtX11_yearsBy 29 rfl) ?_
      refine c_has (fun h50 => ?_) (fun h50 => ?_)
      · refine pv_then1 ?_
        refine pv_if_eq (pc := 53) 59 (by decide) (fm_dec dtX11_yearsBy 30 rfl) (fun hc53 => by exfalso; revert hc53; decide) (fun _ => ?_)
        refine pv_goto (pc := 56) 107 (by decide) (fm_dec dtX11_yearsBy 31 rfl) ?_
        refine pv_iincc (pc := 107) 4 1 (by decide) rfl (by decide) rfl (fm_dec dtX11_yearsBy 58 rfl) ?_
        dsimp only [List.set_cons_zero, List.set_cons_succ]
        refine pv_goto (pc := 110) 31 (by decide) (fm_dec dtX11_yearsBy 59 rfl) ?_
        rw [nI_succ1]
        have e9 := yd_d (D := D) (cs := cs) (n := n) (p := p) ((has8 _ w256 n hn8).mp (by rw [← e0]; exact h50))
        exact ih (D.1 - (n + 1)) (by omega) (n + 1) M (by rw [e9]; exact h) (by rw [e9]; exact h47) h48 hf (by omega) rfl
      · refine pv_then1 ?_
        refine pv_if_eq (pc := 53) 59 (by decide) (fm_dec dtX11_yearsBy 30 rfl) (fun _ => ?_) (fun hc53 => by exfalso; revert hc53; decide)
        have hal : (ydS D cs n p).1.1.2.2.1.testBit n = false := (by cases h9 : (ydS D cs n p).1.1.2.2.1.testBit n with | false => rfl | true => exact absurd (by rw [e0]; exact (has8 _ w256 n hn8).mpr h9) h50)
        refine pv_aloadn (pc := 59) (n := 0) 0 rfl rfl (fm_dec dtX11_yearsBy 32 rfl) ?_
        refine pv_aloadn (pc := 60) (n := 0) 0 rfl rfl (fm_dec dtX11_yearsBy 33 rfl) ?_
        refine pv_getI (k := 0) (j := 47) (ci := 11) (pc := 61) pfl_X11_426 (by decide) rfl (by decide) (fm_dec dtX11_yearsBy 34 rfl) ?_
        refine pv_ldcw (pc := 64) pkc_X11_432 (fm_dec dtX11_yearsBy 35 rfl) ?_
        refine pv_imul (pc := 67) (fm_dec dtX11_yearsBy 36 rfl) ?_
        refine pv_sipush (pc := 68) (v := 12345) (by decide) (fm_dec dtX11_yearsBy 37 rfl) ?_
        refine pv_iadd (pc := 71) (fm_dec dtX11_yearsBy 38 rfl) ?_
        rw [show M.1 0 47 * 1103515245 + 12345 = lcS (M.1 0 47) from rfl]
        refine pv_putI (k := 0) (j := 47) (ci := 11) (pc := 72) pfl_X11_426 (by decide) rfl (by decide) (fm_dec dtX11_yearsBy 39 rfl) ?_
        refine pv_aloadn (pc := 75) (n := 0) 0 rfl rfl (fm_dec dtX11_yearsBy 40 rfl) ?_
        refine pv_getI (k := 0) (j := 47) (ci := 11) (pc := 76) pfl_X11_426 (by decide) rfl (by decide) (fm_dec dtX11_yearsBy 41 rfl) ?_
        rw [fmI_s]
        refine pv_bipush (pc := 79) (v := 16) (by decide) (fm_dec dtX11_yearsBy 42 rfl) ?_
        refine pv_ishr (pc := 81) (fm_dec dtX11_yearsBy 43 rfl) ?_
        refine pv_bipush (pc := 82) (v := 63) (by decide) (fm_dec dtX11_yearsBy 44 rfl) ?_
        refine pv_iand (pc := 84) (fm_dec dtX11_yearsBy 45 rfl) ?_
        refine pv_aloadn (pc := 85) (n := 0) 0 rfl rfl (fm_dec dtX11_yearsBy 46 rfl) ?_
        refine pv_getR (k := 0) (j := 14) (ci := 11) (pc := 86) 17 rfl (by decide) pfl_X11_31 (by decide) rfl (by decide) (fm_dec dtX11_yearsBy 47 rfl) ?_
        refine pv_iload (pc := 89) (i := 4) rfl (fm_dec dtX11_yearsBy 48 rfl) ?_
        refine pv_aald (k := 17) (n := 8) (r := (35 + n)) (pc := 91) (by decide) (Or.inr (Or.inr rfl)) rfl (rw_life.inb hn9 hn8) (rw_life.at hn9 hn8) (rw_life.2.2.2 _ hn8).2.1 (fm_dec dtX11_yearsBy 49 rfl) ?_
        refine pv_iconst (pc := 92) (v := 1) (by decide) (fm_dec dtX11_yearsBy 50 rfl) ?_
        refine pv_iald (k := (35 + n)) (n := 6) (pc := 93) (rw_life.2.2.2 _ hn8).2.2.1 (rw_life.2.2.2 _ hn8).2.2.2.1 (rw_life.2.2.2 _ hn8).2.2.2.2 (fm_inl (by decide)) (fm_dec dtX11_yearsBy 51 rfl) ?_
        rw [fmI_k _ _ (show 35 + n ≠ 0 by omega)]
        have h9 : mAqT (fmI M 0 47 (lcS (M.1 0 47))) D cs (ydS D cs n p).1 := h.p (by decide)
        have e28 : ((lcS (M.1 0 47)) >>> ((16 : Int32) &&& 31) &&& 63).toInt = ((drS (lcS (ydS D cs n p).2) : Nat) : Int) := (by rw [dr_m, h47])
        refine pv_icmp_ge (pc := 94) 107 (by decide) (fm_dec dtX11_yearsBy 52 rfl) (fun hc94 => ?_) (fun hc94 => ?_)
        · refine pv_iincc (pc := 107) 4 1 (by decide) rfl (by decide) rfl (fm_dec dtX11_yearsBy 58 rfl) ?_
          dsimp only [List.set_cons_zero, List.set_cons_succ]
          refine pv_goto (pc := 110) 31 (by decide) (fm_dec dtX11_yearsBy 59 rfl) ?_
          rw [nI_succ1]
          have e9 := yd_n (D := D) (cs := cs) (n := n) (p := p) hal (by rw [sc_le] at hc94; omega)
          exact ih (D.1 - (n + 1)) (by omega) (n + 1) _ (by rw [e9]; exact h9) (by rw [e9, fmI_s, h47]) (by rw [fmI_j _ _ (by decide)]; exact h48) hf.p47 (by omega) rfl
        · refine pv_aloadn (pc := 97) (n := 0) 0 rfl rfl (fm_dec dtX11_yearsBy 53 rfl) ?_
          refine pv_aloadn (pc := 98) (n := 0) 0 rfl rfl (fm_dec dtX11_yearsBy 54 rfl) ?_
          refine pv_getR (k := 0) (j := 28) (ci := 11) (pc := 99) 8 rfl (by decide) pfl_X11_64 (by decide) rfl (by decide) (fm_dec dtX11_yearsBy 55 rfl) ?_
          refine pv_iload (pc := 102) (i := 4) rfl (fm_dec dtX11_yearsBy 56 rfl) ?_
          refine pv_invV2 (k := 0) (d' := 8) (pc := 104) pcv_X11_303 (by decide) rfl (Nat.le_of_ble_eq_true rfl) (by decide) (fm_dec dtX11_yearsBy 57 rfl) ?_
          refine c_mdieT h9.1 h9.2.1 h9.2.2.1 h9.2.2.2.1 h9.2.2.2.2.1 h9.2.2.2.2.2 hn hal (fun M104 S104 h104 x104 f104 => ?_)
          refine pv_then0 ?_
          refine pv_iincc (pc := 107) 4 1 (by decide) rfl (by decide) rfl (fm_dec dtX11_yearsBy 58 rfl) ?_
          dsimp only [List.set_cons_zero, List.set_cons_succ]
          refine pv_goto (pc := 110) 31 (by decide) (fm_dec dtX11_yearsBy 59 rfl) ?_
          rw [nI_succ1]
          have e9 := yd_x (D := D) (cs := cs) (n := n) (p := p) hal (by rw [sc_le] at hc94; omega) h104
          exact ih (D.1 - (n + 1)) (by omega) (n + 1) M104 (by rw [e9]; exact h9.s f104 x104 (do_ok (cs := cs) (k := 2) h9.1 h9.2.2.2.2.2 (fun _ => hn) h104)) (by rw [e9, f104.1 0 47 (by decide) (by decide) (by decide), fmI_s, h47]) (by rw [f104.1 0 48 (by decide) (by decide) (by decide), fmI_j _ _ (by decide)]; exact h48) (hf.p47.s f104) (by omega) rfl
set_option maxRecDepth 20000 in
theorem myp_loop {Q : fmR → fmM → Prop} {M0 : fmM} {D : dD} {cs : tC} {sd s0 : Int32} {wk k : Nat} : ∀ (m : Nat) (M : fmM) (nx : Int32) (S : aS) (w : Nat), mAqT M D cs S → nx.toInt = yfS D cs S → (M.1 0 48).toInt = (w : Int) → M.1 0 47 = s0 → zFr M0 M → cnS D cs S D.1 ≤ m → w + m ≤ 90000 → (∀ (M' : fmM) (nx' : Int32), mAqT M' D cs (ypS D cs m (S, w)).1 → (M'.1 0 48).toInt = (((ypS D cs m (S, w)).2 : Nat) : Int) → M'.1 0 47 = s0 → zFr M0 M' → pvEv Tm 24 qX11_yearsBy 176 [some (.ref 0), some (.int sd), some (.int (nI wk)), some (.int (nI k)), some (.int nx')] [] M' Q) → pvEv Tm 24 qX11_yearsBy 130 [some (.ref 0), some (.int sd), some (.int (nI wk)), some (.int (nI k)), some (.int nx)] [] M Q := by
  intro m
  induction m using Nat.strongRecOn with
  | _ m ih =>
    intro M nx S w h hx hw h47 hf hcn hwm hq
    have d8 := h.1.1
    refine pv_iload (pc := 130) (i := 4) rfl (fm_dec dtX11_yearsBy 69 rfl) ?_
    refine pv_iconst (pc := 132) (v := (-1)) (by decide) (fm_dec dtX11_yearsBy 70 rfl) ?_
    refine pv_icmp_eq (pc := 133) 176 (by decide) (fm_dec dtX11_yearsBy 71 rfl) (fun hc133 => ?_) (fun hc133 => ?_)
    · have hz : yfS D cs S = -1 := (by rw [← hx, hc133]; decide)
      have e9 : ypS D cs m (S, w) = (S, w) := (by cases m with | zero => rfl | succ f => exact yp_0 hz)
      exact hq M _ (by rw [e9]; exact h) (by rw [e9]; exact hw) h47 hf
    · have hne : ¬ yfS D cs S = -1 := (fun e => hc133 (i32_ext (hx.trans (by rw [e]; decide))))
      obtain ⟨i, ei, hi, hs0, hh⟩ := yf_b hne
      have er : nx = nI i := nI_is (hx.trans ei) (by omega)
      have hi9 : (nI i).toInt = (i : Int) := nI_toInt (by omega)
      obtain ⟨S9, e9⟩ := sa_p hs0 hh
      obtain ⟨f, rfl⟩ : ∃ f, m = f + 1 := ⟨m - 1, (by rcases Nat.eq_zero_or_pos m with e0 | e0; (exfalso; exact cn_z D.1 (by omega) i hi hs0); omega)⟩
      rw [er]
      refine pv_aloadn (pc := 136) (n := 0) 0 rfl rfl (fm_dec dtX11_yearsBy 72 rfl) ?_
      refine pv_aloadn (pc := 137) (n := 0) 0 rfl rfl (fm_dec dtX11_yearsBy 73 rfl) ?_
      refine pv_getR (k := 0) (j := 28) (ci := 11) (pc := 138) 8 rfl (by decide) pfl_X11_64 (by decide) rfl (by decide) (fm_dec dtX11_yearsBy 74 rfl) ?_
      refine pv_iload (pc := 141) (i := 4) rfl (fm_dec dtX11_yearsBy 75 rfl) ?_
      refine pv_invV2 (k := 0) (d' := 3) (pc := 143) pcv_X11_299 (by decide) rfl (Nat.le_of_ble_eq_true rfl) (by decide) (fm_dec dtX11_yearsBy 76 rfl) ?_
      refine c_mwriT h.1 h.2.1 hi ?_
      refine pv_then0 ?_
      have xS : mstT (wrM2T M i) D S9 := (by rw [pu_e e9]; exact wr_stT h.1 h.2.1 h.2.2.2.2.1 h.2.2.2.2.2 hi hh)
      have hA := h.s (wr_frT (M := M) (i := i)) xS (pu_okR (cs := cs) h.1 h.2.2.2.2.2 hi e9)
      have hA8 : mAqT (fmI (wrM2T M i) 0 48 ((wrM2T M i).1 0 48 + 1)) D cs S9 := hA.p (by decide)
      refine pv_aloadn (pc := 146) (n := 0) 0 rfl rfl (fm_dec dtX11_yearsBy 77 rfl) ?_
      refine pv_dup (pc := 147) rfl (fm_dec dtX11_yearsBy 78 rfl) ?_
      refine pv_getI (k := 0) (j := 48) (ci := 11) (pc := 148) pfl_X11_429 (by decide) rfl (by decide) (fm_dec dtX11_yearsBy 79 rfl) ?_
      refine pv_iconst (pc := 151) (v := 1) (by decide) (fm_dec dtX11_yearsBy 80 rfl) ?_
      refine pv_iadd (pc := 152) (fm_dec dtX11_yearsBy 81 rfl) ?_
      refine pv_putI (k := 0) (j := 48) (ci := 11) (pc := 153) pfl_X11_429 (by decide) rfl (by decide) (fm_dec dtX11_yearsBy 82 rfl) ?_
      refine pv_aloadn (pc := 156) (n := 0) 0 rfl rfl (fm_dec dtX11_yearsBy 83 rfl) ?_
      refine pv_aloadn (pc := 157) (n := 0) 0 rfl rfl (fm_dec dtX11_yearsBy 84 rfl) ?_
      refine pv_getR (k := 0) (j := 28) (ci := 11) (pc := 158) 8 rfl (by decide) pfl_X11_64 (by decide) rfl (by decide) (fm_dec dtX11_yearsBy 85 rfl) ?_
      refine pv_aloadn (pc := 161) (n := 0) 0 rfl rfl (fm_dec dtX11_yearsBy 86 rfl) ?_
      refine pv_getR (k := 0) (j := 28) (ci := 11) (pc := 162) 8 rfl (by decide) pfl_X11_64 (by decide) rfl (by decide) (fm_dec dtX11_yearsBy 87 rfl) ?_
      refine pv_bipush (pc := 165) (v := 9) (by decide) (fm_dec dtX11_yearsBy 88 rfl) ?_
      refine pv_iald (k := 8) (n := 14) (pc := 167) (by decide) rfl rfl (fm_inl (by decide)) (fm_dec dtX11_yearsBy 89 rfl) ?_
      refine pv_invV2 (k := 0) (d' := 21) (pc := 168) pcv_X11_358 (by decide) rfl (Nat.le_of_ble_eq_true rfl) (by decide) (fm_dec dtX11_yearsBy 90 rfl) ?_
      refine c_mfjT (mo := S9.1.2.1) hA8 hA8.2.2.2.2.1.2.2.1 (fun r168 M168 k168 e168 => ?_)
      refine pv_then1 ?_
      refine pv_istore (pc := 171) (i := 4) (by decide) rfl (fm_dec dtX11_yearsBy 91 rfl) ?_
      dsimp only [List.set_cons_zero, List.set_cons_succ]
      refine pv_goto (pc := 173) 130 (by decide) (fm_dec dtX11_yearsBy 92 rfl) ?_
      have ey := yp_1 (D := D) (cs := cs) (f := f) (p := (S, w)) hne (by show puS D S (yfS D cs S).toNat = some S9; rw [ei, Int.toNat_natCast]; exact e9)
      have ec := cn_pu (cs := cs) e9 hs0 D.1
      rw [if_pos hi] at ec
      exact ih f (by omega) M168 r168 S9 (w + 1) (hA8.k k168) e168 (by rw [k168.1 0 48 (by decide) (by decide), fmI_s]; exact i32_p1 (by rw [wr_frT.1 0 48 (by decide) (by decide) (by decide)]; exact hw) (by omega)) (by rw [k168.1 0 47 (by decide) (by decide), fmI_j _ _ (by decide), wr_frT.1 0 47 (by decide) (by decide) (by decide)]; exact h47) (((hf.s wr_frT).p48).k k168) (by omega) (by omega) (fun M' nx' a b c d => hq M' nx' (by rw [ey]; exact a) (by rw [ey]; exact b) c d)
set_option maxRecDepth 20000 in
theorem mye_loop {Q : fmR → fmM → Prop} {M0 : fmM} {D : dD} {cs : tC} {S : aS} {sd : Int32} {wk : Nat} (hwk : wk ≤ 60) (hq : ∀ M' : fmM, mAqT M' D cs (yrS D cs wk (S, sd, 0)).1 → (M'.1 0 48).toInt = (((yrS D cs wk (S, sd, 0)).2.2 : Nat) : Int) → zFr M0 M' → Q (.inl none) M') : ∀ (m : Nat) (k : Nat) (M : fmM) (v4 : Option Value), mAqT M D cs (yrS D cs k (S, sd, 0)).1 → M.1 0 47 = (yrS D cs k (S, sd, 0)).2.1 → (M.1 0 48).toInt = (((yrS D cs k (S, sd, 0)).2.2 : Nat) : Int) → zFr M0 M → k ≤ wk → wk - k = m → pvEv Tm 24 qX11_yearsBy 23 [some (.ref 0), some (.int sd), some (.int (nI wk)), some (.int (nI k)), v4] [] M Q := by
  intro m
  induction m using Nat.strongRecOn with
  | _ m ih =>
    intro k M v4 h h47 h1 hf hkw hm
    have d8 := h.1.1
    have hk9 : (nI k).toInt = (k : Int) := nI_toInt (by omega)
    have hwk9 : (nI wk).toInt = (wk : Int) := nI_toInt (by omega)
    refine pv_iloadn (pc := 23) (n := 3) 3 rfl rfl (fm_dec dtX11_yearsBy 13 rfl) ?_
    refine pv_iloadn (pc := 24) (n := 2) 2 rfl rfl (fm_dec dtX11_yearsBy 14 rfl) ?_
    refine pv_icmp_ge (pc := 25) 191 (by decide) (fm_dec dtX11_yearsBy 15 rfl) (fun hc25 => ?_) (fun hc25 => ?_)
    · exact pv_return (pc := 191) rfl (fm_dec dtX11_yearsBy 100 rfl) (by have e9 : k = wk := (by rw [sc_le] at hc25; omega); subst e9; exact hq M h h1 hf)
    · have hk : k < wk := (by rw [sc_le] at hc25; omega)
      have hw8 := yr_w (cs := cs) (S := S) (s := sd) d8 k
      refine pv_iconst (pc := 28) (v := 0) (by decide) (fm_dec dtX11_yearsBy 16 rfl) ?_
      refine pv_istore (pc := 29) (i := 4) (by decide) rfl (fm_dec dtX11_yearsBy 17 rfl) ?_
      dsimp only [List.set_cons_zero, List.set_cons_succ]
      refine myd_loop (M0 := M) (p := ((yrS D cs k (S, sd, 0)).1, (yrS D cs k (S, sd, 0)).2.1)) (fun M113 n113 q113 s113 w113 f113 => ?_) D.1 0 M h h47 rfl (zFr.refl M) (Nat.zero_le _) rfl
      refine pv_aloadn (pc := 113) (n := 0) 0 rfl rfl (fm_dec dtX11_yearsBy 60 rfl) ?_
      refine pv_aloadn (pc := 114) (n := 0) 0 rfl rfl (fm_dec dtX11_yearsBy 61 rfl) ?_
      refine pv_getR (k := 0) (j := 28) (ci := 11) (pc := 115) 8 rfl (by decide) pfl_X11_64 (by decide) rfl (by decide) (fm_dec dtX11_yearsBy 62 rfl) ?_
      refine pv_aloadn (pc := 118) (n := 0) 0 rfl rfl (fm_dec dtX11_yearsBy 63 rfl) ?_
      refine pv_getR (k := 0) (j := 28) (ci := 11) (pc := 119) 8 rfl (by decide) pfl_X11_64 (by decide) rfl (by decide) (fm_dec dtX11_yearsBy 64 rfl) ?_
      refine pv_bipush (pc := 122) (v := 9) (by decide) (fm_dec dtX11_yearsBy 65 rfl) ?_
      refine pv_iald (k := 8) (n := 14) (pc := 124) (by decide) rfl rfl (fm_inl (by decide)) (fm_dec dtX11_yearsBy 66 rfl) ?_
      refine pv_invV2 (k := 0) (d' := 21) (pc := 125) pcv_X11_358 (by decide) rfl (Nat.le_of_ble_eq_true rfl) (by decide) (fm_dec dtX11_yearsBy 67 rfl) ?_
      refine c_mfjT (mo := (ydS D cs D.1 ((yrS D cs k (S, sd, 0)).1, (yrS D cs k (S, sd, 0)).2.1)).1.1.2.1) q113 q113.2.2.2.2.1.2.2.1 (fun r125 M125 k125 e125 => ?_)
      refine pv_then1 ?_
      refine pv_istore (pc := 128) (i := 4) (by decide) rfl (fm_dec dtX11_yearsBy 68 rfl) ?_
      dsimp only [List.set_cons_zero, List.set_cons_succ]
      refine myp_loop (M0 := M0) D.1 M125 r125 (ydS D cs D.1 ((yrS D cs k (S, sd, 0)).1, (yrS D cs k (S, sd, 0)).2.1)).1 (yrS D cs k (S, sd, 0)).2.2 (q113.k k125) e125 (by rw [k125.1 0 48 (by decide) (by decide), w113]; exact h1) ((k125.1 0 47 (by decide) (by decide)).trans s113) ((hf.tr f113).k k125) (cn_le D.1) (by omega) (fun M176 n176 q176 w176 s176 f176 => ?_)
      refine pv_aloadn (pc := 176) (n := 0) 0 rfl rfl (fm_dec dtX11_yearsBy 93 rfl) ?_
      refine pv_aloadn (pc := 177) (n := 0) 0 rfl rfl (fm_dec dtX11_yearsBy 94 rfl) ?_
      refine pv_getR (k := 0) (j := 28) (ci := 11) (pc := 178) 8 rfl (by decide) pfl_X11_64 (by decide) rfl (by decide) (fm_dec dtX11_yearsBy 95 rfl) ?_
      refine pv_invV1 (k := 0) (d' := 0) (pc := 181) pcv_X11_306 (by decide) rfl (Nat.le_of_ble_eq_true rfl) (by decide) (fm_dec dtX11_yearsBy 96 rfl) ?_
      refine c_mweekT q176.1 q176.2.1 q176.2.2.2.2.1 q176.2.2.2.2.2 (fun h181 => ?_) (fun M181 S181 h181 x181 f181 => ?_)
      · refine pv_then1 ?_
        refine pv_pop (pc := 184) rfl (fm_dec dtX11_yearsBy 97 rfl) ?_
        refine pv_iincc (pc := 185) 3 1 (by decide) rfl (by decide) rfl (fm_dec dtX11_yearsBy 98 rfl) ?_
        dsimp only [List.set_cons_zero, List.set_cons_succ]
        refine pv_goto (pc := 188) 23 (by decide) (fm_dec dtX11_yearsBy 99 rfl) ?_
        rw [nI_succ1]
        have e9 : yrS D cs (k + 1) (S, sd, 0) = ((ypS D cs D.1 ((ydS D cs D.1 ((yrS D cs k (S, sd, 0)).1, (yrS D cs k (S, sd, 0)).2.1)).1, (yrS D cs k (S, sd, 0)).2.2)).1, (ydS D cs D.1 ((yrS D cs k (S, sd, 0)).1, (yrS D cs k (S, sd, 0)).2.1)).2, (ypS D cs D.1 ((ydS D cs D.1 ((yrS D cs k (S, sd, 0)).1, (yrS D cs k (S, sd, 0)).2.1)).1, (yrS D cs k (S, sd, 0)).2.2)).2) := (by show yeS D cs (yrS D cs k (S, sd, 0)) = _; unfold yeS; rw [h181]; rfl)
        exact ih (wk - (k + 1)) (by omega) (k + 1) M176 _ (by rw [e9]; exact q176) (by rw [e9]; exact s176) (by rw [e9]; exact w176) f176 (by omega) rfl
      · refine pv_then1 ?_
        refine pv_pop (pc := 184) rfl (fm_dec dtX11_yearsBy 97 rfl) ?_
        refine pv_iincc (pc := 185) 3 1 (by decide) rfl (by decide) rfl (fm_dec dtX11_yearsBy 98 rfl) ?_
        dsimp only [List.set_cons_zero, List.set_cons_succ]
        refine pv_goto (pc := 188) 23 (by decide) (fm_dec dtX11_yearsBy 99 rfl) ?_
        rw [nI_succ1]
        have e9 : yrS D cs (k + 1) (S, sd, 0) = (S181, (ydS D cs D.1 ((yrS D cs k (S, sd, 0)).1, (yrS D cs k (S, sd, 0)).2.1)).2, (ypS D cs D.1 ((ydS D cs D.1 ((yrS D cs k (S, sd, 0)).1, (yrS D cs k (S, sd, 0)).2.1)).1, (yrS D cs k (S, sd, 0)).2.2)).2) := (by show yeS D cs (yrS D cs k (S, sd, 0)) = _; unfold yeS; rw [h181]; rfl)
        exact ih (wk - (k + 1)) (by omega) (k + 1) M181 _ (by rw [e9]; exact q176.s f181 x181 (do_ok (cs := []) (k := 3) (i := 0) q176.1 q176.2.2.2.2.2 (fun h => absurd h (by decide)) h181)) (by rw [e9]; exact (f181.1 0 47 (by decide) (by decide) (by decide)).trans s176) (by rw [e9]; exact (by rw [f181.1 0 48 (by decide) (by decide) (by decide)]; exact w176)) (f176.s f181) (by omega) rfl
set_option maxRecDepth 20000 in
theorem c_mye {M : fmM} {Q : fmR → fmM → Prop} {D : dD} {cs : tC} {S : aS} {sd : Int32} {wk : Nat} (h : mAq M D cs S) (hwk : wk ≤ 60) (hq : ∀ M' : fmM, mAqT M' D cs (yrS D cs wk (S, sd, 0)).1 → (M'.1 0 48).toInt = (((yrS D cs wk (S, sd, 0)).2.2 : Nat) : Int) → zFr M M' → Q (.inl none) M') : pvGood Tm 25 qX11_yearsBy [.ref 0, .int sd, .int (nI wk)] M Q := by
  refine pvGood_of (Nat.le_of_ble_eq_true rfl) ?_
  show pvEv Tm 25 qX11_yearsBy 0 [some (.ref 0), some (.int sd), some (.int (nI wk)), none, none] [] M Q
  refine pv_aloadn (pc := 0) (n := 0) 0 rfl rfl (fm_dec dtX11_yearsBy 0 rfl) ?_
  refine pv_getR (k := 0) (j := 27) (ci := 11) (pc := 1) 7 rfl (by decide) pfl_X11_61 (by decide) rfl (by decide) (fm_dec dtX11_yearsBy 1 rfl) ?_
  refine pv_aloadn (pc := 4) (n := 0) 0 rfl rfl (fm_dec dtX11_yearsBy 2 rfl) ?_
  refine pv_getR (k := 0) (j := 28) (ci := 11) (pc := 5) 8 rfl (by decide) pfl_X11_64 (by decide) rfl (by decide) (fm_dec dtX11_yearsBy 3 rfl) ?_
  refine pv_iS2 (d' := 0) (pc := 8) pcs_X11_323 (Nat.le_of_ble_eq_true rfl) (by decide) (fm_dec dtX11_yearsBy 4 rfl) ?_
  refine c_mcp ro_7 ro_8 (by decide) (fun M8 c8 => ?_)
  refine pv_then0 ?_
  refine pv_aloadn (pc := 11) (n := 0) 0 rfl rfl (fm_dec dtX11_yearsBy 5 rfl) ?_
  refine pv_iloadn (pc := 12) (n := 1) 1 rfl rfl (fm_dec dtX11_yearsBy 6 rfl) ?_
  refine pv_putI (k := 0) (j := 47) (ci := 11) (pc := 13) pfl_X11_426 (by decide) rfl (by decide) (fm_dec dtX11_yearsBy 7 rfl) ?_
  refine pv_aloadn (pc := 16) (n := 0) 0 rfl rfl (fm_dec dtX11_yearsBy 8 rfl) ?_
  refine pv_iconst (pc := 17) (v := 0) (by decide) (fm_dec dtX11_yearsBy 9 rfl) ?_
  refine pv_putI (k := 0) (j := 48) (ci := 11) (pc := 18) pfl_X11_429 (by decide) rfl (by decide) (fm_dec dtX11_yearsBy 10 rfl) ?_
  refine pv_iconst (pc := 21) (v := 0) (by decide) (fm_dec dtX11_yearsBy 11 rfl) ?_
  refine pv_istoren (pc := 22) (n := 3) 3 rfl (by decide) rfl (fm_dec dtX11_yearsBy 12 rfl) ?_
  dsimp only [List.set_cons_zero, List.set_cons_succ]
  refine pvEv.up (d := 24) ?_ (by decide)
  exact mye_loop (M0 := M) hwk hq wk 0 (fmI (fmI M8 0 47 sd) 0 48 0) _ (((h.tr c8).p (by decide)).p (by decide)) (by rw [fmI_j _ _ (by decide), fmI_s]; rfl) (by rw [fmI_s]; exact (show (0 : Int32).toInt = ((0 : Nat) : Int) by decide)) ⟨fun k j a b c d => by rw [fmI_k _ _ a, fmI_k _ _ a]; exact c8.2.1 k j (fun e => d e.1), fun j a b => by rw [fmI_j _ _ b, fmI_j _ _ a]; exact c8.2.1 0 j (by omega)⟩ (Nat.zero_le _) rfl
theorem xAq.y {M M' : fmM} {D : dD} {cs : tC} {S : aS} (h : xAq M D cs S) (f : yFr M M') : xAq M' D cs S := ⟨h.1, h.2.1.of (fun k j a b => f.1 k j (by omega) (by omega)), h.2.2.1.f (f.1 23 3 (by decide) (by decide)) (fun i => f.1 24 i (by decide) (by decide)), h.2.2.2.1.of (fun k j a => f.1 k j (by omega) (by omega)) (f.2 47 6 (by decide) (by decide)), h.2.2.2.2⟩
theorem mAq.y {M M' : fmM} {D : dD} {cs : tC} {S : aS} (h : mAq M D cs S) (f : zFr M M') : mAq M' D cs S := ⟨h.1, h.2.1.k h.1 (fun k j a => f.1 k j (by omega) (by omega) (by omega) (by omega)), h.2.2.1.f2 (f.2 17 (by decide) (by decide)) (fun k j a b => f.1 k j (by omega) (by omega) (by omega) (by omega)), h.2.2.2.1, h.2.2.2.2.1.of (fun j => f.1 7 j (by decide) (by decide) (by decide) (by decide)), h.2.2.2.2.2⟩
/-- what became of it: as the first side counts -/
def ysZ (D : dD) (cs : tC) (S : aS) (sd : Int32) (wk : Nat) : aS × Int32 × Nat := yrS D cs wk (zC S, sd, 0)
theorem ys_r {D : dD} {cs : tC} {S : aS} {sd : Int32} {wk : Nat} : yrS D cs wk (S, sd, 0) = (aC (S.1.2.2.2.1, S.1.2.2.2.2.1, S.1.2.2.2.2.2) (ysZ D cs S sd wk).1, (ysZ D cs S sd wk).2) := by
  have h := aC_yr (D := D) (cs := cs) (o := (S.1.2.2.2.1, S.1.2.2.2.2.1, S.1.2.2.2.2.2)) (S := zC S) (s := sd) wk
  rw [zC_a] at h
  exact h
def yvS (D : dD) (cs : tC) (S : aS) (sd : Int32) (wk k : Nat) : Int := match k with
  | 0 => ((alC (ysZ D cs S sd wk).1.1.2.2.1 D.1 : Nat) : Int)
  | 1 => ((ysZ D cs S sd wk).1.1.2.2.2.1 : Int)
  | 2 => ((ysZ D cs S sd wk).1.1.2.2.2.2.1 : Int)
  | 3 => ((ysZ D cs S sd wk).2.2 : Int)
  | _ => (ysZ D cs S sd wk).1.1.2.2.2.2.2 / 64
theorem yl_x {x : Int64} {a : Int} (h : x.toInt = a) (h0 : 0 ≤ a) (h1 : a ≤ 456192) : ((x / 64).toInt32).toInt = a / 64 := by
  have hz : (64 : Int64).toInt = ((64 : Nat) : Int) := by decide
  have hx : x.toInt = ((a.toNat : Nat) : Int) := by omega
  have e1 : (x / 64).toInt = ((a.toNat / 64 : Nat) : Int) := by
    rw [Int64.toInt_div, hx, hz, ← Int.ofNat_tdiv]
    exact Int.bmod_eq_of_le (by omega) (by omega)
  rw [Int64.toInt_toInt32, e1]
  exact (Int.bmod_eq_of_le (by omega) (by omega)).trans (by omega)
theorem yl_m {x : Int32} {a : Int} (h : x.toInt = a) (h0 : 0 ≤ a) (h1 : a ≤ 456192) : (x / 64).toInt = a / 64 := by
  have hz : (64 : Int32).toInt = ((64 : Nat) : Int) := by decide
  have hx : x.toInt = ((a.toNat : Nat) : Int) := by omega
  rw [Int32.toInt_div, hx, hz, ← Int.ofNat_tdiv]
  exact (Int.bmod_eq_of_le (by omega) (by omega)).trans (by omega)
/-- its own counters stay in their bounds -/
theorem yd_O {D : dD} {cs : tC} {p : aS × Int32} (hD : dOk D) (ho : stOT D p.1) : ∀ n, n ≤ D.1 → stOT D (ydS D cs n p).1 := by
  intro n
  induction n with
  | zero => intro _; exact ho
  | succ n ih =>
    intro hn
    have h1 := ih (by omega)
    cases h : (ydS D cs n p).1.1.2.2.1.testBit n with
    | true => rw [yd_d h]; exact h1
    | false =>
      by_cases h2 : (drS (lcS (ydS D cs n p).2) : Int) < D.2.1 n 1
      · cases h3 : diS D cs (ydS D cs n p).1 n with
        | none => exact absurd (di_no h3) (by rw [h]; decide)
        | some S' =>
          rw [yd_x h h2 h3]
          exact do_okT (cs := cs) (k := 2) hD h1 (fun _ => by omega) h3
      · rw [yd_n h h2]
        exact h1
theorem yp_O {D : dD} {cs : tC} (hD : dOk D) : ∀ (f : Nat) (S : aS) (w : Nat), stOT D S → stOT D (ypS D cs f (S, w)).1 := by
  intro f
  induction f with
  | zero => intro S w h; exact h
  | succ f ih =>
    intro S w h
    by_cases hz : yfS D cs S = -1
    · rw [yp_0 hz]
      exact h
    · obtain ⟨i, ei, hi, hs0, hh⟩ := yf_b hz
      obtain ⟨S9, e9⟩ := sa_p hs0 hh
      rw [yp_1 (S' := S9) hz (by show puS D S (yfS D cs S).toNat = some S9; rw [ei, Int.toNat_natCast]; exact e9)]
      exact ih S9 (w + 1) (pu_okT (cs := cs) hD h hi e9)
theorem yr_O {D : dD} {cs : tC} {S : aS} {sd : Int32} (hD : dOk D) (ho : stOT D S) : ∀ w, stOT D (yrS D cs w (S, sd, 0)).1 := by
  intro w
  induction w with
  | zero => exact ho
  | succ w ih =>
    have h1 := yd_O (cs := cs) (p := ((yrS D cs w (S, sd, 0)).1, (yrS D cs w (S, sd, 0)).2.1)) hD ih D.1 (Nat.le_refl _)
    have h2 := yp_O (cs := cs) hD D.1 _ (yrS D cs w (S, sd, 0)).2.2 h1
    show stOT D (yeS D cs (yrS D cs w (S, sd, 0))).1
    unfold yeS
    cases h3 : weS D (ypS D cs D.1 ((ydS D cs D.1 ((yrS D cs w (S, sd, 0)).1, (yrS D cs w (S, sd, 0)).2.1)).1, (yrS D cs w (S, sd, 0)).2.2)).1 with
    | none => exact h2
    | some S' => exact we_okT hD h2 h3
theorem zC_O {D : dD} {S : aS} (ho : stO D S) : stOT D (zC S) := ⟨ho.1, ho.2.1, ho.2.2.1, Nat.zero_le _, Int.le_refl _, (by show (0 : Int) ≤ 57024 * ((pop8 S.1.2.2.1 : Nat) : Int); omega), ho.2.2.2.2.2.2.1, ho.2.2.2.2.2.2.2⟩
theorem yz_O {D : dD} {cs : tC} {S : aS} {sd : Int32} {wk : Nat} (hD : dOk D) (ho : stO D S) : stOT D (ysZ D cs S sd wk).1 := yr_O hD (zC_O ho) wk
theorem yz_0 {D : dD} {cs : tC} {S : aS} {sd : Int32} {wk : Nat} (hD : dOk D) (ho : stO D S) : 0 ≤ (ysZ D cs S sd wk).1.1.2.2.2.2.2 ∧ (ysZ D cs S sd wk).1.1.2.2.2.2.2 ≤ 456192 := by
  have h := yz_O (cs := cs) (sd := sd) (wk := wk) hD ho
  have p8 := pop8_le _ h.2.2.1
  have h1 := h.2.2.2.2.1
  have h2 := h.2.2.2.2.2.1
  omega
theorem yz_l {D : dD} {cs : tC} {S : aS} {sd : Int32} {wk : Nat} (hD : dOk D) (ho : stO D S) : (ysZ D cs S sd wk).1.1.2.2.2.1 ≤ 8 := by
  have h := yz_O (cs := cs) (sd := sd) (wk := wk) hD ho
  have p8 := pop8_le _ h.2.2.1
  have h1 := h.2.2.2.1
  omega
/-- of so many seeds: the fewest lacked, the most, all, and by how many a life is alive -/
def spS (D : dD) (cs : tC) (S : aS) (sd : Int32) (wk li : Nat) : Nat → Nat × Nat × Nat × Nat
  | 0 => (8, 0, 0, 0)
  | n + 1 => (min (spS D cs S sd wk li n).1 (ysZ D cs S (sd + nI n) wk).1.1.2.2.2.1, max (spS D cs S sd wk li n).2.1 (ysZ D cs S (sd + nI n) wk).1.1.2.2.2.1, (spS D cs S sd wk li n).2.2.1 + (ysZ D cs S (sd + nI n) wk).1.1.2.2.2.1, (spS D cs S sd wk li n).2.2.2 + if (ysZ D cs S (sd + nI n) wk).1.1.2.2.1.testBit li = true then 0 else 1)
theorem sp_b {D : dD} {cs : tC} {S : aS} {sd : Int32} {wk li : Nat} (hD : dOk D) (ho : stO D S) : ∀ n, (spS D cs S sd wk li n).1 ≤ 8 ∧ (spS D cs S sd wk li n).2.1 ≤ 8 ∧ (spS D cs S sd wk li n).2.2.1 ≤ 8 * n ∧ (spS D cs S sd wk li n).2.2.2 ≤ n := by
  intro n
  induction n with
  | zero => exact ⟨Nat.le_refl _, Nat.zero_le _, Nat.le_refl _, Nat.le_refl _⟩
  | succ n ih =>
    have h := yz_l (cs := cs) (sd := sd + nI n) (wk := wk) hD ho
    refine ⟨?_, ?_, ?_, ?_⟩
    · show min (spS D cs S sd wk li n).1 (ysZ D cs S (sd + nI n) wk).1.1.2.2.2.1 ≤ 8
      omega
    · show max (spS D cs S sd wk li n).2.1 (ysZ D cs S (sd + nI n) wk).1.1.2.2.2.1 ≤ 8
      omega
    · show (spS D cs S sd wk li n).2.2.1 + (ysZ D cs S (sd + nI n) wk).1.1.2.2.2.1 ≤ 8 * (n + 1)
      omega
    · show (spS D cs S sd wk li n).2.2.2 + (if (ysZ D cs S (sd + nI n) wk).1.1.2.2.1.testBit li = true then 0 else 1) ≤ n + 1
      split <;> omega
def spA (D : dD) (cs : tC) (S : aS) (sd : Int32) (many wk li : Nat) (k : Nat) : Int := match k with
  | 0 => ((spS D cs S sd wk li many).1 : Int)
  | 1 => ((spS D cs S sd wk li many).2.1 : Int)
  | 2 => ((spS D cs S sd wk li many).2.2.1 : Int)
  | _ => ((spS D cs S sd wk li many).2.2.2 : Int)
set_option maxRecDepth 20000 in
theorem xsp_loop {Q : fmR → fmM → Prop} {D : dD} {cs : tC} {S : aS} {x u : Int32} {mn w li : Nat} (hli : li < D.1) (hmn : mn ≤ 20) (hw60 : w ≤ 60) : ∀ (m : Nat) (k : Nat) (M : fmM) (few mst al av : Int32) (v11 : Option Value), xAq M D cs S → few.toInt = (((spS D cs S x w li k).1 : Nat) : Int) → mst.toInt = (((spS D cs S x w li k).2.1 : Nat) : Int) → al.toInt = (((spS D cs S x w li k).2.2.1 : Nat) : Int) → av.toInt = (((spS D cs S x w li k).2.2.2 : Nat) : Int) → k ≤ mn → mn - k = m → (∀ (M' : fmM) (few mst al av i9 : Int32) (v11 : Option Value), few.toInt = (((spS D cs S x w li mn).1 : Nat) : Int) → mst.toInt = (((spS D cs S x w li mn).2.1 : Nat) : Int) → al.toInt = (((spS D cs S x w li mn).2.2.1 : Nat) : Int) → av.toInt = (((spS D cs S x w li mn).2.2.2 : Nat) : Int) → pvEv Tx 40 qX10_span 149 [some (.ref 0), some (.int x), some (.int (nI mn)), some (.int (nI w)), some (.int u), some (.int (nI li)), some (.int few), some (.int mst), some (.int al), some (.int av), some (.int i9), v11] [] M' Q) → pvEv Tx 40 qX10_span 56 [some (.ref 0), some (.int x), some (.int (nI mn)), some (.int (nI w)), some (.int u), some (.int (nI li)), some (.int few), some (.int mst), some (.int al), some (.int av), some (.int (nI k)), v11] [] M Q := by
  intro m
  induction m using Nat.strongRecOn with
  | _ m ih =>
    intro k M few mst al av v11 h hfe hmo hal hav hkm hm hq
    have hD := h.1
    have ho := h.2.2.2.2
    have d8 := hD.1
    have hk9 : (nI k).toInt = (k : Int) := nI_toInt (by omega)
    have hmn9 : (nI mn).toInt = (mn : Int) := nI_toInt (by omega)
    refine pv_iload (pc := 56) (i := 10) rfl (fm_dec dtX10_span 34 rfl) ?_
    refine pv_iloadn (pc := 58) (n := 2) 2 rfl rfl (fm_dec dtX10_span 35 rfl) ?_
    refine pv_icmp_ge (pc := 59) 149 (by decide) (fm_dec dtX10_span 36 rfl) (fun hc59 => ?_) (fun hc59 => ?_)
    · have e9 : k = mn := (by rw [sc_le] at hc59; omega)
      subst e9
      exact hq M few mst al av _ _ hfe hmo hal hav
    · have hk : k < mn := (by rw [sc_le] at hc59; omega)
      have sb := sp_b (cs := cs) (sd := x) (wk := w) (li := li) hD ho k
      have yl := yz_l (cs := cs) (sd := x + nI k) (wk := w) hD ho
      refine pv_aloadn (pc := 62) (n := 0) 0 rfl rfl (fm_dec dtX10_span 37 rfl) ?_
      refine pv_getR (k := 0) (j := 8) (ci := 10) (pc := 63) 39 rfl (by decide) pfl_X10_68 (by decide) rfl (by decide) (fm_dec dtX10_span 38 rfl) ?_
      refine pv_aloadn (pc := 66) (n := 0) 0 rfl rfl (fm_dec dtX10_span 39 rfl) ?_
      refine pv_getR (k := 0) (j := 9) (ci := 10) (pc := 67) 46 rfl (by decide) pfl_X10_75 (by decide) rfl (by decide) (fm_dec dtX10_span 40 rfl) ?_
      refine pv_getR (k := 46) (j := 0) (ci := 5) (pc := 70) 47 rfl (by decide) pfl_X10_90 (by decide) rfl (by decide) (fm_dec dtX10_span 41 rfl) ?_
      refine pv_iloadn (pc := 73) (n := 1) 1 rfl rfl (fm_dec dtX10_span 42 rfl) ?_
      refine pv_iload (pc := 74) (i := 10) rfl (fm_dec dtX10_span 43 rfl) ?_
      refine pv_iadd (pc := 76) (fm_dec dtX10_span 44 rfl) ?_
      refine pv_iloadn (pc := 77) (n := 3) 3 rfl rfl (fm_dec dtX10_span 45 rfl) ?_
      refine pv_invV3 (k := 39) (d' := 25) (pc := 78) pcv_X10_342 (by decide) rfl (Nat.le_of_ble_eq_true rfl) (by decide) (fm_dec dtX10_span 46 rfl) ?_
      refine c_xplay h hw60 (fun M78 q78 w78 f78 => ?_)
      refine pv_then0 ?_
      have q78 : xAqT M78 D cs (ysZ D cs S (x + nI k) w).1 := q78
      have l11 : (M78.1 41 4).toInt = ((ysZ D cs S (x + nI k) w).1.1.2.2.2.1 : Int) := q78.2.2.2.1.2.2.2.1
      refine pv_aloadn (pc := 81) (n := 0) 0 rfl rfl (fm_dec dtX10_span 47 rfl) ?_
      refine pv_getR (k := 0) (j := 8) (ci := 10) (pc := 82) 39 rfl (by decide) pfl_X10_68 (by decide) rfl (by decide) (fm_dec dtX10_span 48 rfl) ?_
      refine pv_getR (k := 39) (j := 0) (ci := 4) (pc := 85) 41 rfl (by decide) pfl_X10_346 (by decide) rfl (by decide) (fm_dec dtX10_span 49 rfl) ?_
      refine pv_getI (k := 41) (j := 4) (ci := 6) (pc := 88) pfl_X10_191 (by decide) rfl (by decide) (fm_dec dtX10_span 50 rfl) ?_
      refine pv_istore (pc := 91) (i := 11) (by decide) rfl (fm_dec dtX10_span 51 rfl) ?_
      dsimp only [List.set_cons_zero, List.set_cons_succ]
      refine pv_iload (pc := 93) (i := 6) rfl (fm_dec dtX10_span 52 rfl) ?_
      refine pv_iload (pc := 95) (i := 11) rfl (fm_dec dtX10_span 53 rfl) ?_
      refine pv_mm (pc := 97) pmm_X10_352 (by decide) (Nat.le_of_ble_eq_true rfl) (fm_dec dtX10_span 54 rfl) ?_
      refine pv_istore (pc := 100) (i := 6) (by decide) rfl (fm_dec dtX10_span 55 rfl) ?_
      dsimp only [List.set_cons_zero, List.set_cons_succ]
      refine pv_iload (pc := 102) (i := 7) rfl (fm_dec dtX10_span 56 rfl) ?_
      refine pv_iload (pc := 104) (i := 11) rfl (fm_dec dtX10_span 57 rfl) ?_
      refine pv_mm (pc := 106) pmm_X10_357 (by decide) (Nat.le_of_ble_eq_true rfl) (fm_dec dtX10_span 58 rfl) ?_
      refine pv_istore (pc := 109) (i := 7) (by decide) rfl (fm_dec dtX10_span 59 rfl) ?_
      dsimp only [List.set_cons_zero, List.set_cons_succ]
      refine pv_iload (pc := 111) (i := 8) rfl (fm_dec dtX10_span 60 rfl) ?_
      refine pv_iload (pc := 113) (i := 11) rfl (fm_dec dtX10_span 61 rfl) ?_
      refine pv_iadd (pc := 115) (fm_dec dtX10_span 62 rfl) ?_
      refine pv_istore (pc := 116) (i := 8) (by decide) rfl (fm_dec dtX10_span 63 rfl) ?_
      dsimp only [List.set_cons_zero, List.set_cons_succ]
      refine pv_iload (pc := 118) (i := 9) rfl (fm_dec dtX10_span 64 rfl) ?_
      refine pv_aloadn (pc := 120) (n := 0) 0 rfl rfl (fm_dec dtX10_span 65 rfl) ?_
      refine pv_getR (k := 0) (j := 8) (ci := 10) (pc := 121) 39 rfl (by decide) pfl_X10_68 (by decide) rfl (by decide) (fm_dec dtX10_span 66 rfl) ?_
      refine pv_getR (k := 39) (j := 0) (ci := 4) (pc := 124) 41 rfl (by decide) pfl_X10_346 (by decide) rfl (by decide) (fm_dec dtX10_span 67 rfl) ?_
      refine pv_iload (pc := 127) (i := 5) rfl (fm_dec dtX10_span 68 rfl) ?_
      refine pv_invV1 (k := 41) (d' := 0) (pc := 129) pcv_X10_215 (by decide) rfl (Nat.le_of_ble_eq_true rfl) (by decide) (fm_dec dtX10_span 69 rfl) ?_
      refine c_xalivT q78.2.2.2.1 q78.2.2.2.2 (show li < 8 by omega) ?_
      refine pv_then1 ?_
      refine pv_if_eq (pc := 132) 139 (by decide) (fm_dec dtX10_span 70 rfl) (fun hc132 => ?_) (fun hc132 => ?_)
      · refine pv_iconst (pc := 139) (v := 0) (by decide) (fm_dec dtX10_span 73 rfl) ?_
        refine pv_iadd (pc := 140) (fm_dec dtX10_span 74 rfl) ?_
        refine pv_istore (pc := 141) (i := 9) (by decide) rfl (fm_dec dtX10_span 75 rfl) ?_
        dsimp only [List.set_cons_zero, List.set_cons_succ]
        refine pv_iincc (pc := 143) 10 1 (by decide) rfl (by decide) rfl (fm_dec dtX10_span 76 rfl) ?_
        dsimp only [List.set_cons_zero, List.set_cons_succ]
        refine pv_goto (pc := 146) 56 (by decide) (fm_dec dtX10_span 77 rfl) ?_
        rw [nI_succ1]
        exact ih (mn - (k + 1)) (by omega) (k + 1) M78 _ _ _ _ _ (h.y f78) (by rw [mxf, l11, hfe]; show _ = ((min (spS D cs S x w li k).1 (ysZ D cs S (x + nI k) w).1.1.2.2.2.1 : Nat) : Int); omega) (by rw [mxt, l11, hmo]; show _ = ((max (spS D cs S x w li k).2.1 (ysZ D cs S (x + nI k) w).1.1.2.2.2.1 : Nat) : Int); omega) (by rw [sc_add (by omega) (by omega), l11, hal]; show _ = (((spS D cs S x w li k).2.2.1 + (ysZ D cs S (x + nI k) w).1.1.2.2.2.1 : Nat) : Int); omega) (by show (av + 0).toInt = (((spS D cs S x w li k).2.2.2 + (if (ysZ D cs S (x + nI k) w).1.1.2.2.1.testBit li = true then 0 else 1) : Nat) : Int); have z0 : (0 : Int32).toInt = 0 := (by decide); rw [if_pos (al_b hc132), sc_add (by omega) (by omega), hav, z0]; omega) (by omega) rfl hq
      · refine pv_iconst (pc := 135) (v := 1) (by decide) (fm_dec dtX10_span 71 rfl) ?_
        refine pv_goto (pc := 136) 140 (by decide) (fm_dec dtX10_span 72 rfl) ?_
        refine pv_iadd (pc := 140) (fm_dec dtX10_span 74 rfl) ?_
        refine pv_istore (pc := 141) (i := 9) (by decide) rfl (fm_dec dtX10_span 75 rfl) ?_
        dsimp only [List.set_cons_zero, List.set_cons_succ]
        refine pv_iincc (pc := 143) 10 1 (by decide) rfl (by decide) rfl (fm_dec dtX10_span 76 rfl) ?_
        dsimp only [List.set_cons_zero, List.set_cons_succ]
        refine pv_goto (pc := 146) 56 (by decide) (fm_dec dtX10_span 77 rfl) ?_
        rw [nI_succ1]
        exact ih (mn - (k + 1)) (by omega) (k + 1) M78 _ _ _ _ _ (h.y f78) (by rw [mxf, l11, hfe]; show _ = ((min (spS D cs S x w li k).1 (ysZ D cs S (x + nI k) w).1.1.2.2.2.1 : Nat) : Int); omega) (by rw [mxt, l11, hmo]; show _ = ((max (spS D cs S x w li k).2.1 (ysZ D cs S (x + nI k) w).1.1.2.2.2.1 : Nat) : Int); omega) (by rw [sc_add (by omega) (by omega), l11, hal]; show _ = (((spS D cs S x w li k).2.2.1 + (ysZ D cs S (x + nI k) w).1.1.2.2.2.1 : Nat) : Int); omega) (by show (av + 1).toInt = (((spS D cs S x w li k).2.2.2 + (if (ysZ D cs S (x + nI k) w).1.1.2.2.1.testBit li = true then 0 else 1) : Nat) : Int); have z1 : (1 : Int32).toInt = 1 := (by decide); rw [if_neg (by rw [al_n hc132]; decide), sc_add (by omega) (by omega), hav, z1]; omega) (by omega) rfl hq
set_option maxRecDepth 20000 in
theorem c_xspan {M : fmM} {Q : fmR → fmM → Prop} {D : dD} {cs : tC} {S : aS} {x y z u v : Int32} (h : xAq M D cs S) (hn2 : ¬ (inW y 1 20 ∧ inW z 1 60 ∧ inW u 0 3 ∧ inL D v) → Q (.inr fmIAE) (fmI M 0 16 (M.1 0 16 + 1))) (hq : inW y 1 20 ∧ inW z 1 60 ∧ inW u 0 3 ∧ inL D v → ∀ (r : Int32) (M' : fmM), r.toInt = spA D cs S x y.toInt.toNat z.toInt.toNat v.toInt.toNat u.toInt.toNat → Q (.inl (some (.int r))) M') : pvGood Tx 41 qX10_span [.ref 0, .int x, .int y, .int z, .int u, .int v] M Q := by
  refine pvGood_of (Nat.le_of_ble_eq_true rfl) ?_
  show pvEv Tx 41 qX10_span 0 [some (.ref 0), some (.int x), some (.int y), some (.int z), some (.int u), some (.int v), none, none, none, none, none, none] [] M Q
  have hxq := h
  obtain ⟨hD, hX, hL, hs, ho⟩ := h
  have d8 := hD.1
  have hl9 : (M.1 3 9).toInt = (D.1 : Int) := hX.1.1
  have e39 : M.1 3 9 = nI D.1 := nI_is hX.1.1 (by omega)
  have z1 : (1 : Int32).toInt = 1 := (by decide)
  have hD8 : (nI D.1).toInt = (D.1 : Int) := nI_toInt (by omega)
  have hD9 : (nI D.1 - 1).toInt = (D.1 : Int) - 1 := (by rw [sc_sub (by omega) (by omega)]; omega)
  have z0 : (0 : Int32).toInt = 0 := (by decide)
  refine pv_aloadn (pc := 0) (n := 0) 0 rfl rfl (fm_dec dtX10_span 0 rfl) ?_
  refine pv_iloadn (pc := 1) (n := 2) 2 rfl rfl (fm_dec dtX10_span 1 rfl) ?_
  refine pv_iconst (pc := 2) (v := 1) (by decide) (fm_dec dtX10_span 2 rfl) ?_
  refine pv_bipush (pc := 3) (v := 20) (by decide) (fm_dec dtX10_span 3 rfl) ?_
  refine pv_invV3 (k := 0) (d' := 0) (pc := 5) pcv_X10_169 (by decide) rfl (Nat.le_of_ble_eq_true rfl) (by decide) (fm_dec dtX10_span 4 rfl) ?_
  refine c_needW (fun h5a h5b => ?_) (fun h5 => ?_)
  · refine pv_then0 ?_
    refine pv_aloadn (pc := 8) (n := 0) 0 rfl rfl (fm_dec dtX10_span 5 rfl) ?_
    refine pv_iloadn (pc := 9) (n := 3) 3 rfl rfl (fm_dec dtX10_span 6 rfl) ?_
    refine pv_iconst (pc := 10) (v := 1) (by decide) (fm_dec dtX10_span 7 rfl) ?_
    refine pv_bipush (pc := 11) (v := 60) (by decide) (fm_dec dtX10_span 8 rfl) ?_
    refine pv_invV3 (k := 0) (d' := 0) (pc := 13) pcv_X10_169 (by decide) rfl (Nat.le_of_ble_eq_true rfl) (by decide) (fm_dec dtX10_span 9 rfl) ?_
    refine c_needW (fun h13a h13b => ?_) (fun h13 => ?_)
    · refine pv_then0 ?_
      refine pv_aloadn (pc := 16) (n := 0) 0 rfl rfl (fm_dec dtX10_span 10 rfl) ?_
      refine pv_iload (pc := 17) (i := 4) rfl (fm_dec dtX10_span 11 rfl) ?_
      refine pv_iconst (pc := 19) (v := 0) (by decide) (fm_dec dtX10_span 12 rfl) ?_
      refine pv_iconst (pc := 20) (v := 3) (by decide) (fm_dec dtX10_span 13 rfl) ?_
      refine pv_invV3 (k := 0) (d' := 0) (pc := 21) pcv_X10_169 (by decide) rfl (Nat.le_of_ble_eq_true rfl) (by decide) (fm_dec dtX10_span 14 rfl) ?_
      refine c_needW (fun h21a h21b => ?_) (fun h21 => ?_)
      · refine pv_then0 ?_
        refine pv_aloadn (pc := 24) (n := 0) 0 rfl rfl (fm_dec dtX10_span 15 rfl) ?_
        refine pv_iload (pc := 25) (i := 5) rfl (fm_dec dtX10_span 16 rfl) ?_
        refine pv_iconst (pc := 27) (v := 0) (by decide) (fm_dec dtX10_span 17 rfl) ?_
        refine pv_aloadn (pc := 28) (n := 0) 0 rfl rfl (fm_dec dtX10_span 18 rfl) ?_
        refine pv_getR (k := 0) (j := 1) (ci := 10) (pc := 29) 3 rfl (by decide) pfl_X10_19 (by decide) rfl (by decide) (fm_dec dtX10_span 19 rfl) ?_
        refine pv_getI (k := 3) (j := 9) (ci := 8) (pc := 32) pfl_X10_138 (by decide) rfl (by decide) (fm_dec dtX10_span 20 rfl) ?_
        rw [e39]
        refine pv_iconst (pc := 35) (v := 1) (by decide) (fm_dec dtX10_span 21 rfl) ?_
        refine pv_isub (pc := 36) (fm_dec dtX10_span 22 rfl) ?_
        refine pv_invV3 (k := 0) (d' := 0) (pc := 37) pcv_X10_169 (by decide) rfl (Nat.le_of_ble_eq_true rfl) (by decide) (fm_dec dtX10_span 23 rfl) ?_
        refine c_needW (fun h37a h37b => ?_) (fun h37 => ?_)
        · refine pv_then0 ?_
          have hP : inW y 1 20 ∧ inW z 1 60 ∧ inW u 0 3 ∧ inL D v := ⟨⟨h5a, h5b⟩, ⟨h13a, h13b⟩, ⟨h21a, h21b⟩, ⟨by omega, by omega⟩⟩
          have hu := hP.2.2.1
          obtain ⟨li, hi, rfl, eli⟩ := hP.2.2.2.n hD
          rw [eli] at hq
          obtain ⟨mn, mn1, mn2, rfl, emn⟩ : ∃ n : Nat, 1 ≤ n ∧ n ≤ 20 ∧ y = nI n ∧ y.toInt.toNat = n := (by have z1 : (1 : Int32).toInt = 1 := (by decide); have z3 : (20 : Int32).toInt = 20 := (by decide); have h9 := hP.1.1; have h8 := hP.1.2; exact ⟨y.toInt.toNat, by omega, by omega, nI_is (by omega) (by omega), rfl⟩)
          rw [emn] at hq
          obtain ⟨w, w1, w2, rfl, ew⟩ : ∃ n : Nat, 1 ≤ n ∧ n ≤ 60 ∧ z = nI n ∧ z.toInt.toNat = n := (by have z1 : (1 : Int32).toInt = 1 := (by decide); have z3 : (60 : Int32).toInt = 60 := (by decide); have h9 := hP.2.1.1; have h8 := hP.2.1.2; exact ⟨z.toInt.toNat, by omega, by omega, nI_is (by omega) (by omega), rfl⟩)
          rw [ew] at hq
          refine pv_bipush (pc := 40) (v := 8) (by decide) (fm_dec dtX10_span 24 rfl) ?_
          refine pv_istore (pc := 42) (i := 6) (by decide) rfl (fm_dec dtX10_span 25 rfl) ?_
          dsimp only [List.set_cons_zero, List.set_cons_succ]
          refine pv_iconst (pc := 44) (v := 0) (by decide) (fm_dec dtX10_span 26 rfl) ?_
          refine pv_istore (pc := 45) (i := 7) (by decide) rfl (fm_dec dtX10_span 27 rfl) ?_
          dsimp only [List.set_cons_zero, List.set_cons_succ]
          refine pv_iconst (pc := 47) (v := 0) (by decide) (fm_dec dtX10_span 28 rfl) ?_
          refine pv_istore (pc := 48) (i := 8) (by decide) rfl (fm_dec dtX10_span 29 rfl) ?_
          dsimp only [List.set_cons_zero, List.set_cons_succ]
          refine pv_iconst (pc := 50) (v := 0) (by decide) (fm_dec dtX10_span 30 rfl) ?_
          refine pv_istore (pc := 51) (i := 9) (by decide) rfl (fm_dec dtX10_span 31 rfl) ?_
          dsimp only [List.set_cons_zero, List.set_cons_succ]
          refine pv_iconst (pc := 53) (v := 0) (by decide) (fm_dec dtX10_span 32 rfl) ?_
          refine pv_istore (pc := 54) (i := 10) (by decide) rfl (fm_dec dtX10_span 33 rfl) ?_
          dsimp only [List.set_cons_zero, List.set_cons_succ]
          refine pvEv.up (d := 40) ?_ (by decide)
          refine xsp_loop hi mn2 w2 mn 0 M _ _ _ _ _ hxq (show (8 : Int32).toInt = ((8 : Nat) : Int) by decide) (show (0 : Int32).toInt = ((0 : Nat) : Int) by decide) (show (0 : Int32).toInt = ((0 : Nat) : Int) by decide) (show (0 : Int32).toInt = ((0 : Nat) : Int) by decide) (Nat.zero_le _) rfl (fun M' few mst al av i9 v11 a1 a2 a3 a4 => ?_)
          rcases (show u.toInt = 0 ∨ u.toInt = 1 ∨ u.toInt = 2 ∨ u.toInt = 3 by have z0 : (0 : Int32).toInt = 0 := (by decide); have z4 : (3 : Int32).toInt = 3 := (by decide); have h9 := hu.1; have h8 := hu.2; omega) with hz | hz | hz | hz
          · obtain rfl : u = 0 := i32_ext (hz.trans (by decide))
            rw [show (0 : Int32).toInt.toNat = 0 by decide] at hq
            refine pv_iload (pc := 149) (i := 4) rfl (fm_dec dtX10_span 78 rfl) ?_
            refine pv_table (pc := 151) 176 (by decide) rfl (fm_dec dtX10_span 79 rfl) ?_
            refine pv_iload (pc := 176) (i := 6) rfl (fm_dec dtX10_span 80 rfl) ?_
            exact pv_ireturn (pc := 178) rfl (fm_dec dtX10_span 81 rfl) (hq hP _ _ (a1))
          · obtain rfl : u = 1 := i32_ext (hz.trans (by decide))
            rw [show (1 : Int32).toInt.toNat = 1 by decide] at hq
            refine pv_iload (pc := 149) (i := 4) rfl (fm_dec dtX10_span 78 rfl) ?_
            refine pv_table (pc := 151) 179 (by decide) rfl (fm_dec dtX10_span 79 rfl) ?_
            refine pv_iload (pc := 179) (i := 7) rfl (fm_dec dtX10_span 82 rfl) ?_
            exact pv_ireturn (pc := 181) rfl (fm_dec dtX10_span 83 rfl) (hq hP _ _ (a2))
          · obtain rfl : u = 2 := i32_ext (hz.trans (by decide))
            rw [show (2 : Int32).toInt.toNat = 2 by decide] at hq
            refine pv_iload (pc := 149) (i := 4) rfl (fm_dec dtX10_span 78 rfl) ?_
            refine pv_table (pc := 151) 182 (by decide) rfl (fm_dec dtX10_span 79 rfl) ?_
            refine pv_iload (pc := 182) (i := 8) rfl (fm_dec dtX10_span 84 rfl) ?_
            exact pv_ireturn (pc := 184) rfl (fm_dec dtX10_span 85 rfl) (hq hP _ _ (a3))
          · obtain rfl : u = 3 := i32_ext (hz.trans (by decide))
            rw [show (3 : Int32).toInt.toNat = 3 by decide] at hq
            refine pv_iload (pc := 149) (i := 4) rfl (fm_dec dtX10_span 78 rfl) ?_
            refine pv_table (pc := 151) 185 (by decide) rfl (fm_dec dtX10_span 79 rfl) ?_
            refine pv_iload (pc := 185) (i := 9) rfl (fm_dec dtX10_span 86 rfl) ?_
            exact pv_ireturn (pc := 187) rfl (fm_dec dtX10_span 87 rfl) (hq hP _ _ (a4))
        · refine pv_thenX ?_
          first | exact hn2 (fun h9 => h37 ⟨by have := h9.2.2.2.1; omega, by have := h9.2.2.2.2; omega⟩) | exact hn2 (fun h9 => h21 ⟨h9.2.2.1.1, h9.2.2.1.2⟩) | exact hn2 (fun h9 => h13 ⟨h9.2.1.1, h9.2.1.2⟩) | exact hn2 (fun h9 => h5 ⟨h9.1.1, h9.1.2⟩)
      · refine pv_thenX ?_
        first | exact hn2 (fun h9 => h37 ⟨by have := h9.2.2.2.1; omega, by have := h9.2.2.2.2; omega⟩) | exact hn2 (fun h9 => h21 ⟨h9.2.2.1.1, h9.2.2.1.2⟩) | exact hn2 (fun h9 => h13 ⟨h9.2.1.1, h9.2.1.2⟩) | exact hn2 (fun h9 => h5 ⟨h9.1.1, h9.1.2⟩)
    · refine pv_thenX ?_
      first | exact hn2 (fun h9 => h37 ⟨by have := h9.2.2.2.1; omega, by have := h9.2.2.2.2; omega⟩) | exact hn2 (fun h9 => h21 ⟨h9.2.2.1.1, h9.2.2.1.2⟩) | exact hn2 (fun h9 => h13 ⟨h9.2.1.1, h9.2.1.2⟩) | exact hn2 (fun h9 => h5 ⟨h9.1.1, h9.1.2⟩)
  · refine pv_thenX ?_
    first | exact hn2 (fun h9 => h37 ⟨by have := h9.2.2.2.1; omega, by have := h9.2.2.2.2; omega⟩) | exact hn2 (fun h9 => h21 ⟨h9.2.2.1.1, h9.2.2.1.2⟩) | exact hn2 (fun h9 => h13 ⟨h9.2.1.1, h9.2.1.2⟩) | exact hn2 (fun h9 => h5 ⟨h9.1.1, h9.1.2⟩)
set_option maxRecDepth 20000 in
theorem msp_loop {Q : fmR → fmM → Prop} {D : dD} {cs : tC} {S : aS} {x u : Int32} {mn w li : Nat} (hli : li < D.1) (hmn1 : 1 ≤ mn) (hmn : mn ≤ 20) (hw60 : w ≤ 60) : ∀ (m : Nat) (k : Nat) (M : fmM) (few mst al av : Int32) (v11 : Option Value), (mAq M D cs S ∧ M.1 0 0 = 0) → ((k = 0 ∧ few = -1) ∨ (0 < k ∧ few.toInt = (((spS D cs S x w li k).1 : Nat) : Int))) → mst.toInt = (((spS D cs S x w li k).2.1 : Nat) : Int) → al.toInt = (((spS D cs S x w li k).2.2.1 : Nat) : Int) → av.toInt = (((spS D cs S x w li k).2.2.2 : Nat) : Int) → k ≤ mn → mn - k = m → (∀ (M' : fmM) (few mst al av i9 : Int32) (v11 : Option Value), M'.1 0 0 = 0 → few.toInt = (((spS D cs S x w li mn).1 : Nat) : Int) → mst.toInt = (((spS D cs S x w li mn).2.1 : Nat) : Int) → al.toInt = (((spS D cs S x w li mn).2.2.1 : Nat) : Int) → av.toInt = (((spS D cs S x w li mn).2.2.2 : Nat) : Int) → pvEv Tm 40 qX11_span 173 [some (.ref 0), some (.int x), some (.int (nI mn)), some (.int (nI w)), some (.int u), some (.int (nI li)), some (.int few), some (.int mst), some (.int al), some (.int av), some (.int i9), v11] [] M' Q) → pvEv Tm 40 qX11_span 75 [some (.ref 0), some (.int x), some (.int (nI mn)), some (.int (nI w)), some (.int u), some (.int (nI li)), some (.int few), some (.int mst), some (.int al), some (.int av), some (.int (nI k)), v11] [] M Q := by
  intro m
  induction m using Nat.strongRecOn with
  | _ m ih =>
    intro k M few mst al av v11 h hfe hmo hal hav hkm hm hq
    have d8 := h.1.1.1
    have hk9 : (nI k).toInt = (k : Int) := nI_toInt (by omega)
    have hmn9 : (nI mn).toInt = (mn : Int) := nI_toInt (by omega)
    refine pv_iload (pc := 75) (i := 10) rfl (fm_dec dtX11_span 42 rfl) ?_
    refine pv_iloadn (pc := 77) (n := 2) 2 rfl rfl (fm_dec dtX11_span 43 rfl) ?_
    refine pv_icmp_ge (pc := 78) 173 (by decide) (fm_dec dtX11_span 44 rfl) (fun hc78 => ?_) (fun hc78 => ?_)
    · have e9 : k = mn := (by rw [sc_le] at hc78; omega)
      subst e9
      exact hq M few mst al av _ _ h.2 (by rcases hfe with ⟨e, -⟩ | ⟨-, e⟩; omega; exact e) hmo hal hav
    · have hk : k < mn := (by rw [sc_le] at hc78; omega)
      have sb := sp_b (cs := cs) (sd := x) (wk := w) (li := li) h.1.1 h.1.2.2.2.2.2 k
      have yl := yz_l (cs := cs) (sd := x + nI k) (wk := w) h.1.1 h.1.2.2.2.2.2
      have ht := h.1.2.2.2.2.1
      refine pv_aloadn (pc := 81) (n := 0) 0 rfl rfl (fm_dec dtX11_span 45 rfl) ?_
      refine pv_iloadn (pc := 82) (n := 1) 1 rfl rfl (fm_dec dtX11_span 46 rfl) ?_
      refine pv_iload (pc := 83) (i := 10) rfl (fm_dec dtX11_span 47 rfl) ?_
      refine pv_iadd (pc := 85) (fm_dec dtX11_span 48 rfl) ?_
      refine pv_iloadn (pc := 86) (n := 3) 3 rfl rfl (fm_dec dtX11_span 49 rfl) ?_
      refine pv_invV2 (k := 0) (d' := 25) (pc := 87) pcv_X11_433 (by decide) rfl (Nat.le_of_ble_eq_true rfl) (by decide) (fm_dec dtX11_span 50 rfl) ?_
      refine c_mye h.1 hw60 (fun M87 q87 w87 f87 => ?_)
      refine pv_then0 ?_
      have q87z := q87
      rw [ys_r] at q87z
      have ht8 := q87z.2.2.2.2.1
      have ho8 := q87z.2.2.2.2.2
      have p8 : pop8 (ysZ D cs S (x + nI k) w).1.1.2.2.1 ≤ 8 := pop8_le _ ho8.2.2.1
      have hh8 : (ysZ D cs S (x + nI k) w).1.1.2.2.2.1 + S.1.2.2.2.1 + ((ysZ D cs S (x + nI k) w).1.1.2.2.2.2.1 + S.1.2.2.2.2.1) = pop8 (ysZ D cs S (x + nI k) w).1.1.2.2.1 := ho8.2.2.2.1
      have a11 : (M87.1 8 11).toInt = (((ysZ D cs S (x + nI k) w).1.1.2.2.2.1 + S.1.2.2.2.1 : Nat) : Int) := ht8.2.2.2.1
      have b11 : (M87.1 7 11).toInt = (S.1.2.2.2.1 : Int) := (by rw [f87.1 7 11 (by decide) (by decide) (by decide) (by decide)]; exact ht.2.2.2.1)
      have l11 : (M87.1 8 (Int32.toNatClampNeg 11) - M87.1 7 (Int32.toNatClampNeg 11)).toInt = ((ysZ D cs S (x + nI k) w).1.1.2.2.2.1 : Int) := (by show (M87.1 8 11 - M87.1 7 11).toInt = _; rw [sc_sub (by omega) (by omega), a11, b11]; omega)
      have w256 : (ysZ D cs S (x + nI k) w).1.1.2.2.1 < 256 := ho8.2.2.1
      have e0 : M87.1 8 (Int32.toNatClampNeg 0) = nI (ysZ D cs S (x + nI k) w).1.1.2.2.1 := nI_is ht8.1 (by omega)
      have m9 : mAq M87 D cs S := h.1.y f87
      have n9 : M87.1 0 0 = 0 := (f87.2 0 (by decide) (by decide)).trans h.2
      refine pv_aloadn (pc := 90) (n := 0) 0 rfl rfl (fm_dec dtX11_span 51 rfl) ?_
      refine pv_getR (k := 0) (j := 28) (ci := 11) (pc := 91) 8 rfl (by decide) pfl_X11_64 (by decide) rfl (by decide) (fm_dec dtX11_span 52 rfl) ?_
      refine pv_bipush (pc := 94) (v := 11) (by decide) (fm_dec dtX11_span 53 rfl) ?_
      refine pv_iald (k := 8) (n := 14) (pc := 96) (by decide) rfl rfl (fm_inl (by decide)) (fm_dec dtX11_span 54 rfl) ?_
      refine pv_aloadn (pc := 97) (n := 0) 0 rfl rfl (fm_dec dtX11_span 55 rfl) ?_
      refine pv_getR (k := 0) (j := 27) (ci := 11) (pc := 98) 7 rfl (by decide) pfl_X11_61 (by decide) rfl (by decide) (fm_dec dtX11_span 56 rfl) ?_
      refine pv_bipush (pc := 101) (v := 11) (by decide) (fm_dec dtX11_span 57 rfl) ?_
      refine pv_iald (k := 7) (n := 14) (pc := 103) (by decide) rfl rfl (fm_inl (by decide)) (fm_dec dtX11_span 58 rfl) ?_
      refine pv_isub (pc := 104) (fm_dec dtX11_span 59 rfl) ?_
      refine pv_istore (pc := 105) (i := 11) (by decide) rfl (fm_dec dtX11_span 60 rfl) ?_
      dsimp only [List.set_cons_zero, List.set_cons_succ]
      refine pv_iload (pc := 107) (i := 6) rfl (fm_dec dtX11_span 61 rfl) ?_
      refine pv_iconst (pc := 109) (v := (-1)) (by decide) (fm_dec dtX11_span 62 rfl) ?_
      refine pv_icmp_ne (pc := 110) 118 (by decide) (fm_dec dtX11_span 63 rfl) (fun hc110 => ?_) (fun hc110 => ?_)
      · refine pv_iload (pc := 118) (i := 6) rfl (fm_dec dtX11_span 66 rfl) ?_
        refine pv_iload (pc := 120) (i := 11) rfl (fm_dec dtX11_span 67 rfl) ?_
        refine pv_mm (pc := 122) pmm_X11_237 (by decide) (Nat.le_of_ble_eq_true rfl) (fm_dec dtX11_span 68 rfl) ?_
        refine pv_istore (pc := 125) (i := 6) (by decide) rfl (fm_dec dtX11_span 69 rfl) ?_
        dsimp only [List.set_cons_zero, List.set_cons_succ]
        refine pv_iload (pc := 127) (i := 7) rfl (fm_dec dtX11_span 70 rfl) ?_
        refine pv_iload (pc := 129) (i := 11) rfl (fm_dec dtX11_span 71 rfl) ?_
        refine pv_mm (pc := 131) pmm_X11_240 (by decide) (Nat.le_of_ble_eq_true rfl) (fm_dec dtX11_span 72 rfl) ?_
        refine pv_istore (pc := 134) (i := 7) (by decide) rfl (fm_dec dtX11_span 73 rfl) ?_
        dsimp only [List.set_cons_zero, List.set_cons_succ]
        refine pv_iload (pc := 136) (i := 8) rfl (fm_dec dtX11_span 74 rfl) ?_
        refine pv_iload (pc := 138) (i := 11) rfl (fm_dec dtX11_span 75 rfl) ?_
        refine pv_iadd (pc := 140) (fm_dec dtX11_span 76 rfl) ?_
        refine pv_istore (pc := 141) (i := 8) (by decide) rfl (fm_dec dtX11_span 77 rfl) ?_
        dsimp only [List.set_cons_zero, List.set_cons_succ]
        refine pv_iload (pc := 143) (i := 9) rfl (fm_dec dtX11_span 78 rfl) ?_
        refine pv_aloadn (pc := 145) (n := 0) 0 rfl rfl (fm_dec dtX11_span 79 rfl) ?_
        refine pv_getR (k := 0) (j := 28) (ci := 11) (pc := 146) 8 rfl (by decide) pfl_X11_64 (by decide) rfl (by decide) (fm_dec dtX11_span 80 rfl) ?_
        refine pv_iconst (pc := 149) (v := 0) (by decide) (fm_dec dtX11_span 81 rfl) ?_
        refine pv_iald (k := 8) (n := 14) (pc := 150) (by decide) rfl rfl (fm_inl (by decide)) (fm_dec dtX11_span 82 rfl) ?_
        refine pv_iload (pc := 151) (i := 5) rfl (fm_dec dtX11_span 83 rfl) ?_
        refine pv_iS2 (d' := 0) (pc := 153) pcs_X11_256 (Nat.le_of_ble_eq_true rfl) (by decide) (fm_dec dtX11_span 84 rfl) ?_
        refine c_has (fun h153 => ?_) (fun h153 => ?_)
        · refine pv_then1 ?_
          refine pv_if_eq (pc := 156) 163 (by decide) (fm_dec dtX11_span 85 rfl) (fun hc156 => by exfalso; revert hc156; decide) (fun _ => ?_)
          refine pv_iconst (pc := 159) (v := 0) (by decide) (fm_dec dtX11_span 86 rfl) ?_
          refine pv_goto (pc := 160) 164 (by decide) (fm_dec dtX11_span 87 rfl) ?_
          refine pv_iadd (pc := 164) (fm_dec dtX11_span 89 rfl) ?_
          refine pv_istore (pc := 165) (i := 9) (by decide) rfl (fm_dec dtX11_span 90 rfl) ?_
          dsimp only [List.set_cons_zero, List.set_cons_succ]
          refine pv_iincc (pc := 167) 10 1 (by decide) rfl (by decide) rfl (fm_dec dtX11_span 91 rfl) ?_
          dsimp only [List.set_cons_zero, List.set_cons_succ]
          refine pv_goto (pc := 170) 75 (by decide) (fm_dec dtX11_span 92 rfl) ?_
          rw [nI_succ1]
          exact ih (mn - (k + 1)) (by omega) (k + 1) M87 _ _ _ _ _ ⟨m9, n9⟩ (Or.inr ⟨by omega, (by rcases hfe with ⟨e, e2⟩ | ⟨e, e2⟩; exact absurd e2 hc110; (rw [mxf, l11, e2]; show _ = ((min (spS D cs S x w li k).1 (ysZ D cs S (x + nI k) w).1.1.2.2.2.1 : Nat) : Int); omega))⟩) (by rw [mxt, l11, hmo]; show _ = ((max (spS D cs S x w li k).2.1 (ysZ D cs S (x + nI k) w).1.1.2.2.2.1 : Nat) : Int); omega) (by rw [sc_add (by omega) (by omega), l11, hal]; show _ = (((spS D cs S x w li k).2.2.1 + (ysZ D cs S (x + nI k) w).1.1.2.2.2.1 : Nat) : Int); omega) (by show (av + 0).toInt = (((spS D cs S x w li k).2.2.2 + (if (ysZ D cs S (x + nI k) w).1.1.2.2.1.testBit li = true then 0 else 1) : Nat) : Int); have z9 : (0 : Int32).toInt = 0 := (by decide); rw [if_pos ((has8 _ w256 li (by omega)).mp (by rw [← e0]; exact h153)), sc_add (by omega) (by omega), hav, z9]; omega) (by omega) rfl hq
        · refine pv_then1 ?_
          refine pv_if_eq (pc := 156) 163 (by decide) (fm_dec dtX11_span 85 rfl) (fun _ => ?_) (fun hc156 => by exfalso; revert hc156; decide)
          refine pv_iconst (pc := 163) (v := 1) (by decide) (fm_dec dtX11_span 88 rfl) ?_
          refine pv_iadd (pc := 164) (fm_dec dtX11_span 89 rfl) ?_
          refine pv_istore (pc := 165) (i := 9) (by decide) rfl (fm_dec dtX11_span 90 rfl) ?_
          dsimp only [List.set_cons_zero, List.set_cons_succ]
          refine pv_iincc (pc := 167) 10 1 (by decide) rfl (by decide) rfl (fm_dec dtX11_span 91 rfl) ?_
          dsimp only [List.set_cons_zero, List.set_cons_succ]
          refine pv_goto (pc := 170) 75 (by decide) (fm_dec dtX11_span 92 rfl) ?_
          rw [nI_succ1]
          exact ih (mn - (k + 1)) (by omega) (k + 1) M87 _ _ _ _ _ ⟨m9, n9⟩ (Or.inr ⟨by omega, (by rcases hfe with ⟨e, e2⟩ | ⟨e, e2⟩; exact absurd e2 hc110; (rw [mxf, l11, e2]; show _ = ((min (spS D cs S x w li k).1 (ysZ D cs S (x + nI k) w).1.1.2.2.2.1 : Nat) : Int); omega))⟩) (by rw [mxt, l11, hmo]; show _ = ((max (spS D cs S x w li k).2.1 (ysZ D cs S (x + nI k) w).1.1.2.2.2.1 : Nat) : Int); omega) (by rw [sc_add (by omega) (by omega), l11, hal]; show _ = (((spS D cs S x w li k).2.2.1 + (ysZ D cs S (x + nI k) w).1.1.2.2.2.1 : Nat) : Int); omega) (by show (av + 1).toInt = (((spS D cs S x w li k).2.2.2 + (if (ysZ D cs S (x + nI k) w).1.1.2.2.1.testBit li = true then 0 else 1) : Nat) : Int); have z9 : (1 : Int32).toInt = 1 := (by decide); rw [if_neg (fun h9 => h153 (by rw [e0]; exact (has8 _ w256 li (by omega)).mpr h9)), sc_add (by omega) (by omega), hav, z9]; omega) (by omega) rfl hq
      · refine pv_iload (pc := 113) (i := 11) rfl (fm_dec dtX11_span 64 rfl) ?_
        refine pv_goto (pc := 115) 125 (by decide) (fm_dec dtX11_span 65 rfl) ?_
        refine pv_istore (pc := 125) (i := 6) (by decide) rfl (fm_dec dtX11_span 69 rfl) ?_
        dsimp only [List.set_cons_zero, List.set_cons_succ]
        refine pv_iload (pc := 127) (i := 7) rfl (fm_dec dtX11_span 70 rfl) ?_
        refine pv_iload (pc := 129) (i := 11) rfl (fm_dec dtX11_span 71 rfl) ?_
        refine pv_mm (pc := 131) pmm_X11_240 (by decide) (Nat.le_of_ble_eq_true rfl) (fm_dec dtX11_span 72 rfl) ?_
        refine pv_istore (pc := 134) (i := 7) (by decide) rfl (fm_dec dtX11_span 73 rfl) ?_
        dsimp only [List.set_cons_zero, List.set_cons_succ]
        refine pv_iload (pc := 136) (i := 8) rfl (fm_dec dtX11_span 74 rfl) ?_
        refine pv_iload (pc := 138) (i := 11) rfl (fm_dec dtX11_span 75 rfl) ?_
        refine pv_iadd (pc := 140) (fm_dec dtX11_span 76 rfl) ?_
        refine pv_istore (pc := 141) (i := 8) (by decide) rfl (fm_dec dtX11_span 77 rfl) ?_
        dsimp only [List.set_cons_zero, List.set_cons_succ]
        refine pv_iload (pc := 143) (i := 9) rfl (fm_dec dtX11_span 78 rfl) ?_
        refine pv_aloadn (pc := 145) (n := 0) 0 rfl rfl (fm_dec dtX11_span 79 rfl) ?_
        refine pv_getR (k := 0) (j := 28) (ci := 11) (pc := 146) 8 rfl (by decide) pfl_X11_64 (by decide) rfl (by decide) (fm_dec dtX11_span 80 rfl) ?_
        refine pv_iconst (pc := 149) (v := 0) (by decide) (fm_dec dtX11_span 81 rfl) ?_
        refine pv_iald (k := 8) (n := 14) (pc := 150) (by decide) rfl rfl (fm_inl (by decide)) (fm_dec dtX11_span 82 rfl) ?_
        refine pv_iload (pc := 151) (i := 5) rfl (fm_dec dtX11_span 83 rfl) ?_
        refine pv_iS2 (d' := 0) (pc := 153) pcs_X11_256 (Nat.le_of_ble_eq_true rfl) (by decide) (fm_dec dtX11_span 84 rfl) ?_
        refine c_has (fun h153 => ?_) (fun h153 => ?_)
        · refine pv_then1 ?_
          refine pv_if_eq (pc := 156) 163 (by decide) (fm_dec dtX11_span 85 rfl) (fun hc156 => by exfalso; revert hc156; decide) (fun _ => ?_)
          refine pv_iconst (pc := 159) (v := 0) (by decide) (fm_dec dtX11_span 86 rfl) ?_
          refine pv_goto (pc := 160) 164 (by decide) (fm_dec dtX11_span 87 rfl) ?_
          refine pv_iadd (pc := 164) (fm_dec dtX11_span 89 rfl) ?_
          refine pv_istore (pc := 165) (i := 9) (by decide) rfl (fm_dec dtX11_span 90 rfl) ?_
          dsimp only [List.set_cons_zero, List.set_cons_succ]
          refine pv_iincc (pc := 167) 10 1 (by decide) rfl (by decide) rfl (fm_dec dtX11_span 91 rfl) ?_
          dsimp only [List.set_cons_zero, List.set_cons_succ]
          refine pv_goto (pc := 170) 75 (by decide) (fm_dec dtX11_span 92 rfl) ?_
          rw [nI_succ1]
          exact ih (mn - (k + 1)) (by omega) (k + 1) M87 _ _ _ _ _ ⟨m9, n9⟩ (Or.inr ⟨by omega, (by rcases hfe with ⟨e, e2⟩ | ⟨e, e2⟩; (subst e; rw [l11]; show _ = ((min 8 (ysZ D cs S (x + nI 0) w).1.1.2.2.2.1 : Nat) : Int); omega); (rw [hc110] at e2; have zm : (-1 : Int32).toInt = -1 := (by decide); omega))⟩) (by rw [mxt, l11, hmo]; show _ = ((max (spS D cs S x w li k).2.1 (ysZ D cs S (x + nI k) w).1.1.2.2.2.1 : Nat) : Int); omega) (by rw [sc_add (by omega) (by omega), l11, hal]; show _ = (((spS D cs S x w li k).2.2.1 + (ysZ D cs S (x + nI k) w).1.1.2.2.2.1 : Nat) : Int); omega) (by show (av + 0).toInt = (((spS D cs S x w li k).2.2.2 + (if (ysZ D cs S (x + nI k) w).1.1.2.2.1.testBit li = true then 0 else 1) : Nat) : Int); have z9 : (0 : Int32).toInt = 0 := (by decide); rw [if_pos ((has8 _ w256 li (by omega)).mp (by rw [← e0]; exact h153)), sc_add (by omega) (by omega), hav, z9]; omega) (by omega) rfl hq
        · refine pv_then1 ?_
          refine pv_if_eq (pc := 156) 163 (by decide) (fm_dec dtX11_span 85 rfl) (fun _ => ?_) (fun hc156 => by exfalso; revert hc156; decide)
          refine pv_iconst (pc := 163) (v := 1) (by decide) (fm_dec dtX11_span 88 rfl) ?_
          refine pv_iadd (pc := 164) (fm_dec dtX11_span 89 rfl) ?_
          refine pv_istore (pc := 165) (i := 9) (by decide) rfl (fm_dec dtX11_span 90 rfl) ?_
          dsimp only [List.set_cons_zero, List.set_cons_succ]
          refine pv_iincc (pc := 167) 10 1 (by decide) rfl (by decide) rfl (fm_dec dtX11_span 91 rfl) ?_
          dsimp only [List.set_cons_zero, List.set_cons_succ]
          refine pv_goto (pc := 170) 75 (by decide) (fm_dec dtX11_span 92 rfl) ?_
          rw [nI_succ1]
          exact ih (mn - (k + 1)) (by omega) (k + 1) M87 _ _ _ _ _ ⟨m9, n9⟩ (Or.inr ⟨by omega, (by rcases hfe with ⟨e, e2⟩ | ⟨e, e2⟩; (subst e; rw [l11]; show _ = ((min 8 (ysZ D cs S (x + nI 0) w).1.1.2.2.2.1 : Nat) : Int); omega); (rw [hc110] at e2; have zm : (-1 : Int32).toInt = -1 := (by decide); omega))⟩) (by rw [mxt, l11, hmo]; show _ = ((max (spS D cs S x w li k).2.1 (ysZ D cs S (x + nI k) w).1.1.2.2.2.1 : Nat) : Int); omega) (by rw [sc_add (by omega) (by omega), l11, hal]; show _ = (((spS D cs S x w li k).2.2.1 + (ysZ D cs S (x + nI k) w).1.1.2.2.2.1 : Nat) : Int); omega) (by show (av + 1).toInt = (((spS D cs S x w li k).2.2.2 + (if (ysZ D cs S (x + nI k) w).1.1.2.2.1.testBit li = true then 0 else 1) : Nat) : Int); have z9 : (1 : Int32).toInt = 1 := (by decide); rw [if_neg (fun h9 => h153 (by rw [e0]; exact (has8 _ w256 li (by omega)).mpr h9)), sc_add (by omega) (by omega), hav, z9]; omega) (by omega) rfl hq
set_option maxRecDepth 20000 in
theorem c_mspan {M : fmM} {Q : fmR → fmM → Prop} {D : dD} {cs : tC} {S : aS} {x y z u v : Int32} (h : mAq M D cs S) (hn2 : ¬ (inW y 1 20 ∧ inW z 1 60 ∧ inW u 0 3 ∧ inL D v) → ∀ (z : Int32) (M' : fmM), M'.1 0 0 = 1 → Q (.inl (some (.int z))) M') (hq : inW y 1 20 ∧ inW z 1 60 ∧ inW u 0 3 ∧ inL D v → ∀ (r : Int32) (M' : fmM), M'.1 0 0 = 0 → r.toInt = spA D cs S x y.toInt.toNat z.toInt.toNat v.toInt.toNat u.toInt.toNat → Q (.inl (some (.int r))) M') : pvGood Tm 41 qX11_span [.ref 0, .int x, .int y, .int z, .int u, .int v] M Q := by
  refine pvGood_of (Nat.le_of_ble_eq_true rfl) ?_
  show pvEv Tm 41 qX11_span 0 [some (.ref 0), some (.int x), some (.int y), some (.int z), some (.int u), some (.int v), none, none, none, none, none, none] [] M Q
  have hmq := h.z (x := 0)
  obtain ⟨hD, hY, hM, hd, ht, ho⟩ := hmq
  have d8 := hD.1
  have h4 : (M.1 4 0).toInt = (D.1 : Int) := hY.1
  have hl := hD.1
  refine pv_aloadn (pc := 0) (n := 0) 0 rfl rfl (fm_dec dtX11_span 0 rfl) ?_
  refine pv_iconst (pc := 1) (v := 0) (by decide) (fm_dec dtX11_span 1 rfl) ?_
  refine pv_putI (k := 0) (j := 0) (ci := 11) (pc := 2) pfl_X11_101 (by decide) rfl (by decide) (fm_dec dtX11_span 2 rfl) ?_
  refine pv_aloadn (pc := 5) (n := 0) 0 rfl rfl (fm_dec dtX11_span 3 rfl) ?_
  refine pv_iloadn (pc := 6) (n := 2) 2 rfl rfl (fm_dec dtX11_span 4 rfl) ?_
  refine pv_iconst (pc := 7) (v := 1) (by decide) (fm_dec dtX11_span 5 rfl) ?_
  refine pv_bipush (pc := 8) (v := 20) (by decide) (fm_dec dtX11_span 6 rfl) ?_
  refine pv_iS3 (d' := 0) (pc := 10) pcs_X11_135 (Nat.le_of_ble_eq_true rfl) (by decide) (fm_dec dtX11_span 7 rfl) ?_
  refine c_in (fun h10a h10b => ?_) (fun h10 => ?_)
  · refine pv_then1 ?_
    refine pv_if_eq (pc := 13) 45 (by decide) (fm_dec dtX11_span 8 rfl) (fun hc13 => by exfalso; revert hc13; decide) (fun _ => ?_)
    refine pv_iloadn (pc := 16) (n := 3) 3 rfl rfl (fm_dec dtX11_span 9 rfl) ?_
    refine pv_iconst (pc := 17) (v := 1) (by decide) (fm_dec dtX11_span 10 rfl) ?_
    refine pv_bipush (pc := 18) (v := 60) (by decide) (fm_dec dtX11_span 11 rfl) ?_
    refine pv_iS3 (d' := 0) (pc := 20) pcs_X11_135 (Nat.le_of_ble_eq_true rfl) (by decide) (fm_dec dtX11_span 12 rfl) ?_
    refine c_in (fun h20a h20b => ?_) (fun h20 => ?_)
    · refine pv_then1 ?_
      refine pv_if_eq (pc := 23) 45 (by decide) (fm_dec dtX11_span 13 rfl) (fun hc23 => by exfalso; revert hc23; decide) (fun _ => ?_)
      refine pv_iload (pc := 26) (i := 4) rfl (fm_dec dtX11_span 14 rfl) ?_
      refine pv_iconst (pc := 28) (v := 0) (by decide) (fm_dec dtX11_span 15 rfl) ?_
      refine pv_iconst (pc := 29) (v := 3) (by decide) (fm_dec dtX11_span 16 rfl) ?_
      refine pv_iS3 (d' := 0) (pc := 30) pcs_X11_135 (Nat.le_of_ble_eq_true rfl) (by decide) (fm_dec dtX11_span 17 rfl) ?_
      refine c_in (fun h30a h30b => ?_) (fun h30 => ?_)
      · refine pv_then1 ?_
        refine pv_if_eq (pc := 33) 45 (by decide) (fm_dec dtX11_span 18 rfl) (fun hc33 => by exfalso; revert hc33; decide) (fun _ => ?_)
        refine pv_aloadn (pc := 36) (n := 0) 0 rfl rfl (fm_dec dtX11_span 19 rfl) ?_
        refine pv_iload (pc := 37) (i := 5) rfl (fm_dec dtX11_span 20 rfl) ?_
        refine pv_invV1 (k := 0) (d' := 1) (pc := 39) pcv_X11_331 (by decide) rfl (Nat.le_of_ble_eq_true rfl) (by decide) (fm_dec dtX11_span 21 rfl) ?_
        refine c_isLife (M := fmI M 0 0 0) h4 hl (fun k39 hk39 hkl39 => ?_) (fun hno39 => ?_)
        · refine pv_then1 ?_
          refine pv_if_ne (pc := 42) 49 (by decide) (fm_dec dtX11_span 22 rfl) (fun _ => ?_) (fun hc42 => by exfalso; revert hc42; decide)
          refine pv_iconst (pc := 49) (v := 0) (by decide) (fm_dec dtX11_span 25 rfl) ?_
          refine pv_iconst (pc := 50) (v := 1) (by decide) (fm_dec dtX11_span 26 rfl) ?_
          refine pv_iconst (pc := 51) (v := 1) (by decide) (fm_dec dtX11_span 27 rfl) ?_
          refine pv_invV3 (k := 0) (d' := 0) (pc := 52) pcv_X11_177 (by decide) rfl (Nat.le_of_ble_eq_true rfl) (by decide) (fm_dec dtX11_span 28 rfl) ?_
          refine c_badF1 rfl ?_
          refine pv_then1 ?_
          refine pv_if_eq (pc := 55) 60 (by decide) (fm_dec dtX11_span 29 rfl) (fun _ => ?_) (fun hc55 => by exfalso; revert hc55; decide)
          have hP : inW y 1 20 ∧ inW z 1 60 ∧ inW u 0 3 ∧ inL D v := ⟨⟨h10a, h10b⟩, ⟨h20a, h20b⟩, ⟨h30a, h30b⟩, ⟨by omega, by omega⟩⟩
          have hu := hP.2.2.1
          obtain ⟨li, hi, rfl, eli⟩ := hP.2.2.2.n hD
          rw [eli] at hq
          obtain ⟨mn, mn1, mn2, rfl, emn⟩ : ∃ n : Nat, 1 ≤ n ∧ n ≤ 20 ∧ y = nI n ∧ y.toInt.toNat = n := (by have z1 : (1 : Int32).toInt = 1 := (by decide); have z3 : (20 : Int32).toInt = 20 := (by decide); have h9 := hP.1.1; have h8 := hP.1.2; exact ⟨y.toInt.toNat, by omega, by omega, nI_is (by omega) (by omega), rfl⟩)
          rw [emn] at hq
          obtain ⟨w, w1, w2, rfl, ew⟩ : ∃ n : Nat, 1 ≤ n ∧ n ≤ 60 ∧ z = nI n ∧ z.toInt.toNat = n := (by have z1 : (1 : Int32).toInt = 1 := (by decide); have z3 : (60 : Int32).toInt = 60 := (by decide); have h9 := hP.2.1.1; have h8 := hP.2.1.2; exact ⟨z.toInt.toNat, by omega, by omega, nI_is (by omega) (by omega), rfl⟩)
          rw [ew] at hq
          refine pv_iconst (pc := 60) (v := (-1)) (by decide) (fm_dec dtX11_span 32 rfl) ?_
          refine pv_istore (pc := 61) (i := 6) (by decide) rfl (fm_dec dtX11_span 33 rfl) ?_
          dsimp only [List.set_cons_zero, List.set_cons_succ]
          refine pv_iconst (pc := 63) (v := 0) (by decide) (fm_dec dtX11_span 34 rfl) ?_
          refine pv_istore (pc := 64) (i := 7) (by decide) rfl (fm_dec dtX11_span 35 rfl) ?_
          dsimp only [List.set_cons_zero, List.set_cons_succ]
          refine pv_iconst (pc := 66) (v := 0) (by decide) (fm_dec dtX11_span 36 rfl) ?_
          refine pv_istore (pc := 67) (i := 8) (by decide) rfl (fm_dec dtX11_span 37 rfl) ?_
          dsimp only [List.set_cons_zero, List.set_cons_succ]
          refine pv_iconst (pc := 69) (v := 0) (by decide) (fm_dec dtX11_span 38 rfl) ?_
          refine pv_istore (pc := 70) (i := 9) (by decide) rfl (fm_dec dtX11_span 39 rfl) ?_
          dsimp only [List.set_cons_zero, List.set_cons_succ]
          refine pv_iconst (pc := 72) (v := 0) (by decide) (fm_dec dtX11_span 40 rfl) ?_
          refine pv_istore (pc := 73) (i := 10) (by decide) rfl (fm_dec dtX11_span 41 rfl) ?_
          dsimp only [List.set_cons_zero, List.set_cons_succ]
          refine pvEv.up (d := 40) ?_ (by decide)
          refine msp_loop hi mn1 mn2 w2 mn 0 _ _ _ _ _ _ ⟨⟨hD, hY, hM, hd, ht, ho⟩, rfl⟩ (Or.inl ⟨rfl, rfl⟩) (show (0 : Int32).toInt = ((0 : Nat) : Int) by decide) (show (0 : Int32).toInt = ((0 : Nat) : Int) by decide) (show (0 : Int32).toInt = ((0 : Nat) : Int) by decide) (Nat.zero_le _) rfl (fun M' few mst al av i9 v11 z9 a1 a2 a3 a4 => ?_)
          rcases (show u.toInt = 0 ∨ u.toInt = 1 ∨ u.toInt = 2 ∨ u.toInt = 3 by have z0 : (0 : Int32).toInt = 0 := (by decide); have z4 : (3 : Int32).toInt = 3 := (by decide); have h9 := hu.1; have h8 := hu.2; omega) with hz | hz | hz | hz
          · obtain rfl : u = 0 := i32_ext (hz.trans (by decide))
            rw [show (0 : Int32).toInt.toNat = 0 by decide] at hq
            refine pv_iload (pc := 173) (i := 4) rfl (fm_dec dtX11_span 93 rfl) ?_
            refine pv_if_ne (pc := 175) 183 (by decide) (fm_dec dtX11_span 94 rfl) (fun hc175 => by exfalso; exact hc175 rfl) (fun _ => ?_)
            refine pv_iload (pc := 178) (i := 6) rfl (fm_dec dtX11_span 95 rfl) ?_
            refine pv_goto (pc := 180) 207 (by decide) (fm_dec dtX11_span 96 rfl) ?_
            exact pv_ireturn (pc := 207) rfl (fm_dec dtX11_span 108 rfl) (hq hP _ _ z9 (a1))
          · obtain rfl : u = 1 := i32_ext (hz.trans (by decide))
            rw [show (1 : Int32).toInt.toNat = 1 by decide] at hq
            refine pv_iload (pc := 173) (i := 4) rfl (fm_dec dtX11_span 93 rfl) ?_
            refine pv_if_ne (pc := 175) 183 (by decide) (fm_dec dtX11_span 94 rfl) (fun _ => ?_) (fun hc175 => by exfalso; revert hc175; decide)
            refine pv_iload (pc := 183) (i := 4) rfl (fm_dec dtX11_span 97 rfl) ?_
            refine pv_iconst (pc := 185) (v := 1) (by decide) (fm_dec dtX11_span 98 rfl) ?_
            refine pv_icmp_ne (pc := 186) 194 (by decide) (fm_dec dtX11_span 99 rfl) (fun hc186 => by exfalso; exact hc186 rfl) (fun _ => ?_)
            refine pv_iload (pc := 189) (i := 7) rfl (fm_dec dtX11_span 100 rfl) ?_
            refine pv_goto (pc := 191) 207 (by decide) (fm_dec dtX11_span 101 rfl) ?_
            exact pv_ireturn (pc := 207) rfl (fm_dec dtX11_span 108 rfl) (hq hP _ _ z9 (a2))
          · obtain rfl : u = 2 := i32_ext (hz.trans (by decide))
            rw [show (2 : Int32).toInt.toNat = 2 by decide] at hq
            refine pv_iload (pc := 173) (i := 4) rfl (fm_dec dtX11_span 93 rfl) ?_
            refine pv_if_ne (pc := 175) 183 (by decide) (fm_dec dtX11_span 94 rfl) (fun _ => ?_) (fun hc175 => by exfalso; revert hc175; decide)
            refine pv_iload (pc := 183) (i := 4) rfl (fm_dec dtX11_span 97 rfl) ?_
            refine pv_iconst (pc := 185) (v := 1) (by decide) (fm_dec dtX11_span 98 rfl) ?_
            refine pv_icmp_ne (pc := 186) 194 (by decide) (fm_dec dtX11_span 99 rfl) (fun _ => ?_) (fun hc186 => by exfalso; revert hc186; decide)
            refine pv_iload (pc := 194) (i := 4) rfl (fm_dec dtX11_span 102 rfl) ?_
            refine pv_iconst (pc := 196) (v := 2) (by decide) (fm_dec dtX11_span 103 rfl) ?_
            refine pv_icmp_ne (pc := 197) 205 (by decide) (fm_dec dtX11_span 104 rfl) (fun hc197 => by exfalso; exact hc197 rfl) (fun _ => ?_)
            refine pv_iload (pc := 200) (i := 8) rfl (fm_dec dtX11_span 105 rfl) ?_
            refine pv_goto (pc := 202) 207 (by decide) (fm_dec dtX11_span 106 rfl) ?_
            exact pv_ireturn (pc := 207) rfl (fm_dec dtX11_span 108 rfl) (hq hP _ _ z9 (a3))
          · obtain rfl : u = 3 := i32_ext (hz.trans (by decide))
            rw [show (3 : Int32).toInt.toNat = 3 by decide] at hq
            refine pv_iload (pc := 173) (i := 4) rfl (fm_dec dtX11_span 93 rfl) ?_
            refine pv_if_ne (pc := 175) 183 (by decide) (fm_dec dtX11_span 94 rfl) (fun _ => ?_) (fun hc175 => by exfalso; revert hc175; decide)
            refine pv_iload (pc := 183) (i := 4) rfl (fm_dec dtX11_span 97 rfl) ?_
            refine pv_iconst (pc := 185) (v := 1) (by decide) (fm_dec dtX11_span 98 rfl) ?_
            refine pv_icmp_ne (pc := 186) 194 (by decide) (fm_dec dtX11_span 99 rfl) (fun _ => ?_) (fun hc186 => by exfalso; revert hc186; decide)
            refine pv_iload (pc := 194) (i := 4) rfl (fm_dec dtX11_span 102 rfl) ?_
            refine pv_iconst (pc := 196) (v := 2) (by decide) (fm_dec dtX11_span 103 rfl) ?_
            refine pv_icmp_ne (pc := 197) 205 (by decide) (fm_dec dtX11_span 104 rfl) (fun _ => ?_) (fun hc197 => by exfalso; revert hc197; decide)
            refine pv_iload (pc := 205) (i := 9) rfl (fm_dec dtX11_span 107 rfl) ?_
            exact pv_ireturn (pc := 207) rfl (fm_dec dtX11_span 108 rfl) (hq hP _ _ z9 (a4))
        · refine pv_then1 ?_
          refine pv_if_ne (pc := 42) 49 (by decide) (fm_dec dtX11_span 22 rfl) (fun hc42 => by exfalso; revert hc42; decide) (fun _ => ?_)
          refine pv_iconst (pc := 45) (v := 1) (by decide) (fm_dec dtX11_span 23 rfl) ?_
          refine pv_goto (pc := 46) 50 (by decide) (fm_dec dtX11_span 24 rfl) ?_
          refine pv_iconst (pc := 50) (v := 1) (by decide) (fm_dec dtX11_span 26 rfl) ?_
          refine pv_iconst (pc := 51) (v := 1) (by decide) (fm_dec dtX11_span 27 rfl) ?_
          refine pv_invV3 (k := 0) (d' := 0) (pc := 52) pcv_X11_177 (by decide) rfl (Nat.le_of_ble_eq_true rfl) (by decide) (fm_dec dtX11_span 28 rfl) ?_
          refine c_badT1 rfl (by decide) ?_
          refine pv_then1 ?_
          refine pv_if_eq (pc := 55) 60 (by decide) (fm_dec dtX11_span 29 rfl) (fun hc55 => by exfalso; revert hc55; decide) (fun _ => ?_)
          refine pv_iconst (pc := 58) (v := 0) (by decide) (fm_dec dtX11_span 30 rfl) ?_
          exact pv_ireturn (pc := 59) rfl (fm_dec dtX11_span 31 rfl) (hn2 (fun h9 => hno39 ⟨h9.2.2.2.1, h9.2.2.2.2⟩) _ _ rfl)
      · refine pv_then1 ?_
        refine pv_if_eq (pc := 33) 45 (by decide) (fm_dec dtX11_span 18 rfl) (fun _ => ?_) (fun hc33 => by exfalso; revert hc33; decide)
        refine pv_iconst (pc := 45) (v := 1) (by decide) (fm_dec dtX11_span 23 rfl) ?_
        refine pv_goto (pc := 46) 50 (by decide) (fm_dec dtX11_span 24 rfl) ?_
        refine pv_iconst (pc := 50) (v := 1) (by decide) (fm_dec dtX11_span 26 rfl) ?_
        refine pv_iconst (pc := 51) (v := 1) (by decide) (fm_dec dtX11_span 27 rfl) ?_
        refine pv_invV3 (k := 0) (d' := 0) (pc := 52) pcv_X11_177 (by decide) rfl (Nat.le_of_ble_eq_true rfl) (by decide) (fm_dec dtX11_span 28 rfl) ?_
        refine c_badT1 rfl (by decide) ?_
        refine pv_then1 ?_
        refine pv_if_eq (pc := 55) 60 (by decide) (fm_dec dtX11_span 29 rfl) (fun hc55 => by exfalso; revert hc55; decide) (fun _ => ?_)
        refine pv_iconst (pc := 58) (v := 0) (by decide) (fm_dec dtX11_span 30 rfl) ?_
        exact pv_ireturn (pc := 59) rfl (fm_dec dtX11_span 31 rfl) (hn2 (fun h9 => h30 ⟨h9.2.2.1.1, h9.2.2.1.2⟩) _ _ rfl)
    · refine pv_then1 ?_
      refine pv_if_eq (pc := 23) 45 (by decide) (fm_dec dtX11_span 13 rfl) (fun _ => ?_) (fun hc23 => by exfalso; revert hc23; decide)
      refine pv_iconst (pc := 45) (v := 1) (by decide) (fm_dec dtX11_span 23 rfl) ?_
      refine pv_goto (pc := 46) 50 (by decide) (fm_dec dtX11_span 24 rfl) ?_
      refine pv_iconst (pc := 50) (v := 1) (by decide) (fm_dec dtX11_span 26 rfl) ?_
      refine pv_iconst (pc := 51) (v := 1) (by decide) (fm_dec dtX11_span 27 rfl) ?_
      refine pv_invV3 (k := 0) (d' := 0) (pc := 52) pcv_X11_177 (by decide) rfl (Nat.le_of_ble_eq_true rfl) (by decide) (fm_dec dtX11_span 28 rfl) ?_
      refine c_badT1 rfl (by decide) ?_
      refine pv_then1 ?_
      refine pv_if_eq (pc := 55) 60 (by decide) (fm_dec dtX11_span 29 rfl) (fun hc55 => by exfalso; revert hc55; decide) (fun _ => ?_)
      refine pv_iconst (pc := 58) (v := 0) (by decide) (fm_dec dtX11_span 30 rfl) ?_
      exact pv_ireturn (pc := 59) rfl (fm_dec dtX11_span 31 rfl) (hn2 (fun h9 => h20 ⟨h9.2.1.1, h9.2.1.2⟩) _ _ rfl)
  · refine pv_then1 ?_
    refine pv_if_eq (pc := 13) 45 (by decide) (fm_dec dtX11_span 8 rfl) (fun _ => ?_) (fun hc13 => by exfalso; revert hc13; decide)
    refine pv_iconst (pc := 45) (v := 1) (by decide) (fm_dec dtX11_span 23 rfl) ?_
    refine pv_goto (pc := 46) 50 (by decide) (fm_dec dtX11_span 24 rfl) ?_
    refine pv_iconst (pc := 50) (v := 1) (by decide) (fm_dec dtX11_span 26 rfl) ?_
    refine pv_iconst (pc := 51) (v := 1) (by decide) (fm_dec dtX11_span 27 rfl) ?_
    refine pv_invV3 (k := 0) (d' := 0) (pc := 52) pcv_X11_177 (by decide) rfl (Nat.le_of_ble_eq_true rfl) (by decide) (fm_dec dtX11_span 28 rfl) ?_
    refine c_badT1 rfl (by decide) ?_
    refine pv_then1 ?_
    refine pv_if_eq (pc := 55) 60 (by decide) (fm_dec dtX11_span 29 rfl) (fun hc55 => by exfalso; revert hc55; decide) (fun _ => ?_)
    refine pv_iconst (pc := 58) (v := 0) (by decide) (fm_dec dtX11_span 30 rfl) ?_
    exact pv_ireturn (pc := 59) rfl (fm_dec dtX11_span 31 rfl) (hn2 (fun h9 => h10 ⟨h9.1.1, h9.1.2⟩) _ _ rfl)
theorem xe_span {M : fmM} {D : dD} {cs : tC} {S : aS} {x y z u v : Int32} (h : xAq M D cs S) : pvGood Tx 250 qX10_span [.ref 0, .int x, .int y, .int z, .int u, .int v] M (fun r _ => ((inW y 1 20 ∧ inW z 1 60 ∧ inW u 0 3 ∧ inL D v) ∧ r = .inl (some (.int (iZ (spA D cs S x y.toInt.toNat z.toInt.toNat v.toInt.toNat u.toInt.toNat))))) ∨ (¬ (inW y 1 20 ∧ inW z 1 60 ∧ inW u 0 3 ∧ inL D v) ∧ r = .inr fmIAE)) := (c_xspan h (fun h => Or.inr ⟨h, rfl⟩) (fun h r M' e => Or.inl ⟨h, by rw [iZ_is e]⟩)).up (by decide)
theorem me_span {M : fmM} {D : dD} {cs : tC} {S : aS} {x y z u v : Int32} (h : mAq M D cs S) : pvGood Tm 250 qX11_span [.ref 0, .int x, .int y, .int z, .int u, .int v] M (fun r M' => ((inW y 1 20 ∧ inW z 1 60 ∧ inW u 0 3 ∧ inL D v) ∧ r = .inl (some (.int (iZ (spA D cs S x y.toInt.toNat z.toInt.toNat v.toInt.toNat u.toInt.toNat)))) ∧ M'.1 0 0 = 0) ∨ (¬ (inW y 1 20 ∧ inW z 1 60 ∧ inW u 0 3 ∧ inL D v) ∧ M'.1 0 0 = 1)) := (c_mspan h (fun h z M' e => Or.inr ⟨h, e⟩) (fun h r M' z e => Or.inl ⟨h, by rw [iZ_is e], z⟩)).up (by decide)
