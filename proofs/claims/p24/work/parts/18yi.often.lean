theorem ad_j {x z : Int64} {a b : Int} (hx : x.toInt = a) (hz : z.toInt = b) (h1 : -4000000000000 ≤ a + b) (h2 : a + b ≤ 4000000000000) : (x + z).toInt = a + b := by
  rw [Int64.toInt_add, hx, hz]
  exact Int.bmod_eq_of_le (by omega) (by omega)
theorem hY_3 {M : fmM} {D : dD} {i : Nat} (hD : dOk D) (hY : mdw M D) (hi : i < D.1) : (M.1 (35 + i) 3).toInt = (((D.2.1 i 3).toNat : Nat) : Int) := by
  have g := hY.2.2.2.1 i hi 3 (by decide)
  have b := (hD.2.2.1 i hi).2.2.2.1
  omega
theorem hY_5 {M : fmM} {D : dD} (hD : dOk D) (hY : mdw M D) : (M.1 4 5).toInt = (((D.2.2.2.2 5).toNat : Nat) : Int) := by
  have g := hY.2.2.1 5 (by decide) (by decide)
  have b := hD.2.2.2.2.2.2.2
  omega
/-- 4096ths of the risk of a piece a weeks old, as it is now -/
def oaS (D : dD) (cs : tC) (S : aS) (i a : Nat) : Int := D.2.1 i 1 * D.2.2.2.2 4 * D.2.1 i 2 * (lwV cs (nI a) (nI ((D.2.1 i 0).toNat + S.1.1 / 52)) (nI (D.2.1 i 2).toNat) (nI (sdA D S.1.2.2.1 i)) 0).toInt
/-- renewed each k weeks, by c for each hour -/
def obS (D : dD) (cs : tC) (S : aS) (i c : Nat) : Nat → Int
  | 0 => 4096 * (c : Int) * ((max 1 ((D.2.1 i 3).toNat / (D.2.2.2.2 5).toNat) : Nat) : Int)
  | k + 1 => obS D cs S i c k + oaS D cs S i k
theorem oa_p {D : dD} {i : Nat} (hD : dOk D) (hi : i < D.1) : (0 ≤ D.2.1 i 1 * D.2.2.2.2 4 ∧ D.2.1 i 1 * D.2.2.2.2 4 ≤ 576) ∧ 0 ≤ D.2.1 i 1 * D.2.2.2.2 4 * D.2.1 i 2 ∧ D.2.1 i 1 * D.2.2.2.2 4 * D.2.1 i 2 ≤ 57024 := by
  have b1 := (hD.2.2.1 i hi).2.1
  have b2 := (hD.2.2.1 i hi).2.2.1
  have b4 := hD.2.2.2.2.2.2.1
  have h1 := mul_b (a := D.2.1 i 1) (b := D.2.2.2.2 4) (m := 64) (n := 9) (by omega) (by omega) (by omega) (by omega)
  have h2 := mul_b (a := D.2.1 i 1 * D.2.2.2.2 4) (b := D.2.1 i 2) (m := 576) (n := 99) (by omega) (by omega) (by omega) (by omega)
  exact ⟨by omega, by omega⟩
theorem oa_b {D : dD} {cs : tC} {S : aS} {i a : Nat} (hD : dOk D) (hi : i < D.1) : 0 ≤ oaS D cs S i a ∧ oaS D cs S i a ≤ 3649536 := by
  have h1 := oa_p hD hi
  have h2 := outV_b (x := lwR (knF (nI a) (nI ((D.2.1 i 0).toNat + S.1.1 / 52)) (nI (D.2.1 i 2).toNat) (nI (sdA D S.1.2.2.1 i)) 0) (xcs cs) 0 (fun _ => 0))
  have h3 := mul_b (a := D.2.1 i 1 * D.2.2.2.2 4 * D.2.1 i 2) (b := (lwV cs (nI a) (nI ((D.2.1 i 0).toNat + S.1.1 / 52)) (nI (D.2.1 i 2).toNat) (nI (sdA D S.1.2.2.1 i)) 0).toInt) (m := 57024) (n := 64) (by omega) (by omega) h2.1 h2.2
  unfold oaS
  omega
theorem rn_b {D : dD} {i : Nat} (hD : dOk D) (hi : i < D.1) : 1 ≤ max 1 ((D.2.1 i 3).toNat / (D.2.2.2.2 5).toNat) ∧ max 1 ((D.2.1 i 3).toNat / (D.2.2.2.2 5).toNat) ≤ 9 := by
  have b3 := (hD.2.2.1 i hi).2.2.2.1
  have h1 : (D.2.1 i 3).toNat / (D.2.2.2.2 5).toNat ≤ (D.2.1 i 3).toNat := Nat.div_le_self _ _
  omega
theorem ob_b {D : dD} {cs : tC} {S : aS} {i c : Nat} (hD : dOk D) (hi : i < D.1) (hc : c ≤ 999) : ∀ k, 0 ≤ obS D cs S i c k ∧ obS D cs S i c k ≤ 36827136 + 3649536 * (k : Int) := by
  intro k
  induction k with
  | zero =>
    have h := rn_b hD hi
    have h1 := mul_b (a := 4096 * (c : Int)) (b := ((max 1 ((D.2.1 i 3).toNat / (D.2.2.2.2 5).toNat) : Nat) : Int)) (m := 4091904) (n := 9) (by omega) (by omega) (by omega) (by omega)
    show 0 ≤ 4096 * (c : Int) * ((max 1 ((D.2.1 i 3).toNat / (D.2.2.2.2 5).toNat) : Nat) : Int) ∧ 4096 * (c : Int) * ((max 1 ((D.2.1 i 3).toNat / (D.2.2.2.2 5).toNat) : Nat) : Int) ≤ _
    omega
  | succ k ih =>
    have h := oa_b (cs := cs) (S := S) (a := k) hD hi
    show 0 ≤ obS D cs S i c k + oaS D cs S i k ∧ obS D cs S i c k + oaS D cs S i k ≤ _
    omega
theorem jm_2 {x y : Int64} {a b : Int} (hx : x.toInt = a) (hy : y.toInt = b) (h1 : -4000000000000 ≤ a * b) (h2 : a * b ≤ 4000000000000) : (x * y).toInt = a * b := by
  rw [Int64.toInt_mul, hx, hy]
  exact Int.bmod_eq_of_le (by omega) (by omega)
theorem i_j {x : Int32} {a : Int} (h : x.toInt = a) : x.toInt64.toInt = a := by
  rw [Int32.toInt_toInt64]
  exact h
theorem ob_0 {D : dD} {cs : tC} {S : aS} {i c : Nat} {x r : Int32} (hD : dOk D) (hi : i < D.1) (hc : c ≤ 999) (hx : x.toInt = (c : Int)) (hr : r.toInt = ((max 1 ((D.2.1 i 3).toNat / (D.2.2.2.2 5).toNat) : Nat) : Int)) : ((4096 : Int64) * x.toInt64 * r.toInt64).toInt = obS D cs S i c 0 := by
  have h := rn_b hD hi
  have h1 := mul_b (a := 4096 * (c : Int)) (b := ((max 1 ((D.2.1 i 3).toNat / (D.2.2.2.2 5).toNat) : Nat) : Int)) (m := 4091904) (n := 9) (by omega) (by omega) (by omega) (by omega)
  exact jm_2 (jm_2 (a := 4096) (by decide) (i_j hx) (by omega) (by omega)) (i_j hr) (by omega) (by omega)
set_option maxRecDepth 20000 in
theorem c_xraa {M : fmM} {Q : fmR → fmM → Prop} {D : dD} {cs : tC} {S : aS} {i a : Nat} (h : xAq M D cs S) (hi : i < D.1) (hq : ∀ (M' : fmM) (r : Int64), (∀ k j, k ≠ 26 → M'.1 k j = M.1 k j) → M'.2 = M.2 → r.toInt = oaS D cs S i a → Q (.inl (some (.long r))) M') : pvGood Tx 4 qX0_riskAtAge [.ref 32, .ref 47, .int (nI i), .int (nI a)] M Q := by
  refine pvGood_of (Nat.le_of_ble_eq_true rfl) ?_
  show pvEv Tx 4 qX0_riskAtAge 0 [some (.ref 32), some (.ref 47), some (.int (nI i)), some (.int (nI a)), none, none] [] M Q
  obtain ⟨hD, hX, hL, hs, ho⟩ := h
  have d8 := hD.1
  have hi9 : (nI i).toInt = (i : Int) := nI_toInt (by omega)
  have b2 := (hD.2.2.1 i hi).2.2.1
  have g6 : (M.1 6 i).toInt = D.2.1 i 2 := hX.2.1 i hi 2 (by decide)
  have e6 : M.1 6 i = nI (D.2.1 i 2).toNat := nI_is (by omega) (by omega)
  have g5 : (M.1 5 i).toInt = D.2.1 i 1 := hX.2.1 i hi 1 (by decide)
  have g13 : (M.1 3 13).toInt = D.2.2.2.2 4 := hX.1.2.2.2.2.1
  have op := oa_p hD hi
  refine pv_aloadn (pc := 0) (n := 0) 0 rfl rfl (fm_dec dtX0_riskAtAge 0 rfl) ?_
  refine pv_getR (k := 32) (j := 0) (ci := 0) (pc := 1) 3 rfl (by decide) pfl_X0_15 (by decide) rfl (by decide) (fm_dec dtX0_riskAtAge 1 rfl) ?_
  refine pv_getR (k := 3) (j := 2) (ci := 8) (pc := 4) 6 rfl (by decide) pfl_X0_50 (by decide) rfl (by decide) (fm_dec dtX0_riskAtAge 2 rfl) ?_
  refine pv_iloadn (pc := 7) (n := 2) 2 rfl rfl (fm_dec dtX0_riskAtAge 3 rfl) ?_
  refine pv_iald (k := 6) (n := 8) (pc := 8) (by decide) rfl rfl (ix_in hi9 (by omega)) (fm_dec dtX0_riskAtAge 4 rfl) ?_
  rw [i32_cl hi9]
  refine pv_istore (pc := 9) (i := 4) (by decide) rfl (fm_dec dtX0_riskAtAge 5 rfl) ?_
  dsimp only [List.set_cons_zero, List.set_cons_succ]
  rw [e6]
  refine pv_aloadn (pc := 11) (n := 0) 0 rfl rfl (fm_dec dtX0_riskAtAge 6 rfl) ?_
  refine pv_getR (k := 32) (j := 1) (ci := 0) (pc := 12) 23 rfl (by decide) pfl_X0_19 (by decide) rfl (by decide) (fm_dec dtX0_riskAtAge 7 rfl) ?_
  refine pv_iloadn (pc := 15) (n := 3) 3 rfl rfl (fm_dec dtX0_riskAtAge 8 rfl) ?_
  refine pv_aloadn (pc := 16) (n := 0) 0 rfl rfl (fm_dec dtX0_riskAtAge 9 rfl) ?_
  refine pv_aloadn (pc := 17) (n := 1) 1 rfl rfl (fm_dec dtX0_riskAtAge 10 rfl) ?_
  refine pv_iloadn (pc := 18) (n := 2) 2 rfl rfl (fm_dec dtX0_riskAtAge 11 rfl) ?_
  refine pv_iconst (pc := 19) (v := 0) (by decide) (fm_dec dtX0_riskAtAge 12 rfl) ?_
  refine pv_invV3 (k := 32) (d' := 0) (pc := 20) pcv_X0_46 (by decide) rfl (Nat.le_of_ble_eq_true rfl) (by decide) (fm_dec dtX0_riskAtAge 13 rfl) ?_
  refine c_xyr hD hX hs ho hi ?_
  refine pv_then1 ?_
  refine pv_iload (pc := 23) (i := 4) rfl (fm_dec dtX0_riskAtAge 14 rfl) ?_
  refine pv_aloadn (pc := 25) (n := 0) 0 rfl rfl (fm_dec dtX0_riskAtAge 15 rfl) ?_
  refine pv_aloadn (pc := 26) (n := 1) 1 rfl rfl (fm_dec dtX0_riskAtAge 16 rfl) ?_
  refine pv_iloadn (pc := 27) (n := 2) 2 rfl rfl (fm_dec dtX0_riskAtAge 17 rfl) ?_
  refine pv_invV2 (k := 32) (d' := 1) (pc := 28) pcv_X0_53 (by decide) rfl (Nat.le_of_ble_eq_true rfl) (by decide) (fm_dec dtX0_riskAtAge 18 rfl) ?_
  refine c_xsd hD hX hs ho hi ?_
  refine pv_then1 ?_
  refine pv_iconst (pc := 31) (v := 0) (by decide) (fm_dec dtX0_riskAtAge 19 rfl) ?_
  refine pv_invV5 (k := 23) (d' := 1) (pc := 32) pcv_X0_57 (by decide) rfl (Nat.le_of_ble_eq_true rfl) (by decide) (fm_dec dtX0_riskAtAge 20 rfl) ?_
  refine c_xlw hL (fun M32 g32 h32 => ?_)
  refine pv_then1 ?_
  refine pv_istore (pc := 35) (i := 5) (by decide) rfl (fm_dec dtX0_riskAtAge 21 rfl) ?_
  dsimp only [List.set_cons_zero, List.set_cons_succ]
  refine pv_aloadn (pc := 37) (n := 0) 0 rfl rfl (fm_dec dtX0_riskAtAge 22 rfl) ?_
  refine pv_getR (k := 32) (j := 0) (ci := 0) (pc := 38) 3 rfl (by decide) pfl_X0_15 (by decide) rfl (by decide) (fm_dec dtX0_riskAtAge 23 rfl) ?_
  refine pv_getR (k := 3) (j := 1) (ci := 8) (pc := 41) 5 rfl (by decide) pfl_X0_81 (by decide) rfl (by decide) (fm_dec dtX0_riskAtAge 24 rfl) ?_
  refine pv_iloadn (pc := 44) (n := 2) 2 rfl rfl (fm_dec dtX0_riskAtAge 25 rfl) ?_
  refine pv_iald (k := 5) (n := 8) (pc := 45) (by decide) rfl rfl (ix_in hi9 (by omega)) (fm_dec dtX0_riskAtAge 26 rfl) ?_
  rw [i32_cl hi9, g32 5 i (by decide)]
  refine pv_i2l (pc := 46) (fm_dec dtX0_riskAtAge 27 rfl) ?_
  refine pv_aloadn (pc := 47) (n := 0) 0 rfl rfl (fm_dec dtX0_riskAtAge 28 rfl) ?_
  refine pv_getR (k := 32) (j := 0) (ci := 0) (pc := 48) 3 rfl (by decide) pfl_X0_15 (by decide) rfl (by decide) (fm_dec dtX0_riskAtAge 29 rfl) ?_
  refine pv_getI (k := 3) (j := 13) (ci := 8) (pc := 51) pfl_X0_68 (by decide) rfl (by decide) (fm_dec dtX0_riskAtAge 30 rfl) ?_
  refine pv_i2l (pc := 54) (fm_dec dtX0_riskAtAge 31 rfl) ?_
  refine pv_lmul (pc := 55) (fm_dec dtX0_riskAtAge 32 rfl) ?_
  refine pv_iload (pc := 56) (i := 4) rfl (fm_dec dtX0_riskAtAge 33 rfl) ?_
  refine pv_i2l (pc := 58) (fm_dec dtX0_riskAtAge 34 rfl) ?_
  refine pv_lmul (pc := 59) (fm_dec dtX0_riskAtAge 35 rfl) ?_
  refine pv_iload (pc := 60) (i := 5) rfl (fm_dec dtX0_riskAtAge 36 rfl) ?_
  refine pv_i2l (pc := 62) (fm_dec dtX0_riskAtAge 37 rfl) ?_
  refine pv_lmul (pc := 63) (fm_dec dtX0_riskAtAge 38 rfl) ?_
  exact pv_lreturn (pc := 64) rfl (fm_dec dtX0_riskAtAge 39 rfl) (hq M32 _ g32 h32 (by have ob := outV_b (x := lwR (knF (nI a) (nI ((D.2.1 i 0).toNat + S.1.1 / 52)) (nI (D.2.1 i 2).toNat) (nI (sdA D S.1.2.2.1 i)) 0) (xcs cs) 0 (fun _ => 0)); have h3 := mul_b (a := D.2.1 i 1 * D.2.2.2.2 4 * D.2.1 i 2) (b := (lwV cs (nI a) (nI ((D.2.1 i 0).toNat + S.1.1 / 52)) (nI (D.2.1 i 2).toNat) (nI (sdA D S.1.2.2.1 i)) 0).toInt) (m := 57024) (n := 64) (by omega) (by omega) ob.1 ob.2; exact jm_2 (jm_2 (jm_2 (i_j g5) (i_j (by rw [g32 3 13 (by decide)]; exact g13)) (by omega) (by omega)) (i_j (by rw [← e6]; exact g6)) (by omega) (by omega)) (i_j rfl) (by omega) (by omega)))
set_option maxRecDepth 20000 in
theorem c_xrp {M : fmM} {Q : fmR → fmM → Prop} {D : dD} {cs : tC} {S : aS} {i c : Nat} {x : Int32} (hD : dOk D) (hX : xdw 3 M D) (hi : i < D.1) (hc : c ≤ 999) (hx : x.toInt = (c : Int)) (hq : ∀ r : Int64, r.toInt = obS D cs S i c 0 → Q (.inl (some (.long r))) M) : pvGood Tx 3 qX10_renewalPrice [.ref 0, .int (nI i), .int x] M Q := by
  refine pvGood_of (Nat.le_of_ble_eq_true rfl) ?_
  show pvEv Tx 3 qX10_renewalPrice 0 [some (.ref 0), some (.int (nI i)), some (.int x)] [] M Q
  refine pv_ldc2 (pc := 0) pkc_X10_265 (fm_dec dtX10_renewalPrice 0 rfl) ?_
  refine pv_iloadn (pc := 3) (n := 2) 2 rfl rfl (fm_dec dtX10_renewalPrice 1 rfl) ?_
  refine pv_i2l (pc := 4) (fm_dec dtX10_renewalPrice 2 rfl) ?_
  refine pv_lmul (pc := 5) (fm_dec dtX10_renewalPrice 3 rfl) ?_
  refine pv_aloadn (pc := 6) (n := 0) 0 rfl rfl (fm_dec dtX10_renewalPrice 4 rfl) ?_
  refine pv_getR (k := 0) (j := 1) (ci := 10) (pc := 7) 3 rfl (by decide) pfl_X10_19 (by decide) rfl (by decide) (fm_dec dtX10_renewalPrice 5 rfl) ?_
  refine pv_iloadn (pc := 10) (n := 1) 1 rfl rfl (fm_dec dtX10_renewalPrice 6 rfl) ?_
  refine pv_invV1 (k := 3) (d' := 1) (pc := 11) pcv_X10_212 (by decide) rfl (Nat.le_of_ble_eq_true rfl) (by decide) (fm_dec dtX10_renewalPrice 7 rfl) ?_
  refine c_xrenew hD hX hi (fun r11 h11 => ?_)
  refine pv_then1 ?_
  refine pv_i2l (pc := 14) (fm_dec dtX10_renewalPrice 8 rfl) ?_
  refine pv_lmul (pc := 15) (fm_dec dtX10_renewalPrice 9 rfl) ?_
  exact pv_lreturn (pc := 16) rfl (fm_dec dtX10_renewalPrice 10 rfl) (hq _ (ob_0 hD hi hc hx h11))
set_option maxRecDepth 20000 in
theorem mob_loop {Q : fmR → fmM → Prop} {D : dD} {cs : tC} {S : aS} {i c k : Nat} {x : Int32} (hi : i < D.1) (hc : c ≤ 999) (hk30 : k ≤ 30) : ∀ (m : Nat) (a : Nat) (M : fmM) (v : Int64), (mAq M D cs S ∧ M.1 0 0 = 0) → a ≤ k → k - a = m → v.toInt = obS D cs S i c a → (∀ (r : Int64) (M' : fmM), (mAq M' D cs S ∧ M'.1 0 0 = 0) → r.toInt = obS D cs S i c k → Q (.inl (some (.long r))) M') → pvEv Tm 10 qX11_oftenBy 18 [some (.ref 0), some (.int (nI i)), some (.int x), some (.int (nI k)), some (.long v), none, some (.int (nI a))] [] M Q := by
  intro m
  induction m using Nat.strongRecOn with
  | _ m ih =>
    intro a M v h hak hm hv hq
    have h9q := h.1
    obtain ⟨hD, hY, hM, hd, ht, ho⟩ := h9q
    have d8 := hD.1
    have hi9 : (nI i).toInt = (i : Int) := nI_toInt (by omega)
    have hi8 : i < 8 := by omega
    have ha9 : (nI a).toInt = (a : Int) := nI_toInt (by omega)
    have hk9 : (nI k).toInt = (k : Int) := nI_toInt (by omega)
    have op := oa_p hD hi
    have b2 := (hD.2.2.1 i hi).2.2.1
    have g1 : (M.1 (35 + i) (Int32.toNatClampNeg 1)).toInt = D.2.1 i 1 := hY.2.2.2.1 i hi 1 (by decide)
    have g2i : (M.1 (35 + i) (Int32.toNatClampNeg 2)).toInt = D.2.1 i 2 := hY.2.2.2.1 i hi 2 (by decide)
    have g2m : M.1 (35 + i) (Int32.toNatClampNeg 2) = nI (D.2.1 i 2).toNat := nI_is (by omega) (by omega)
    have g4 : (M.1 4 (Int32.toNatClampNeg 4)).toInt = D.2.2.2.2 4 := hY.2.2.1 4 (by decide) (by decide)
    refine pv_iload (pc := 18) (i := 6) rfl (fm_dec dtX11_oftenBy 12 rfl) ?_
    refine pv_iloadn (pc := 20) (n := 3) 3 rfl rfl (fm_dec dtX11_oftenBy 13 rfl) ?_
    refine pv_icmp_ge (pc := 21) 99 (by decide) (fm_dec dtX11_oftenBy 14 rfl) (fun hc21 => ?_) (fun hc21 => ?_)
    · refine pv_lload (pc := 99) (i := 4) rfl (fm_dec dtX11_oftenBy 64 rfl) ?_
      exact pv_lreturn (pc := 101) rfl (fm_dec dtX11_oftenBy 65 rfl) (by have e9 : a = k := (by rw [sc_le] at hc21; omega); subst e9; exact hq _ _ h hv)
    · refine pv_lload (pc := 24) (i := 4) rfl (fm_dec dtX11_oftenBy 15 rfl) ?_
      refine pv_aloadn (pc := 26) (n := 0) 0 rfl rfl (fm_dec dtX11_oftenBy 16 rfl) ?_
      refine pv_getR (k := 0) (j := 14) (ci := 11) (pc := 27) 17 rfl (by decide) pfl_X11_31 (by decide) rfl (by decide) (fm_dec dtX11_oftenBy 17 rfl) ?_
      refine pv_iloadn (pc := 30) (n := 1) 1 rfl rfl (fm_dec dtX11_oftenBy 18 rfl) ?_
      refine pv_aald (k := 17) (n := 8) (r := (35 + i)) (pc := 31) (by decide) (Or.inr (Or.inr rfl)) rfl (rw_life.inb hi9 hi8) (rw_life.at hi9 hi8) (rw_life.2.2.2 _ hi8).2.1 (fm_dec dtX11_oftenBy 19 rfl) ?_
      refine pv_iconst (pc := 32) (v := 1) (by decide) (fm_dec dtX11_oftenBy 20 rfl) ?_
      refine pv_iald (k := (35 + i)) (n := 6) (pc := 33) (rw_life.2.2.2 _ hi8).2.2.1 (rw_life.2.2.2 _ hi8).2.2.2.1 (rw_life.2.2.2 _ hi8).2.2.2.2 (fm_inl (by decide)) (fm_dec dtX11_oftenBy 21 rfl) ?_
      refine pv_aloadn (pc := 34) (n := 0) 0 rfl rfl (fm_dec dtX11_oftenBy 22 rfl) ?_
      refine pv_getR (k := 0) (j := 12) (ci := 11) (pc := 35) 4 rfl (by decide) pfl_X11_23 (by decide) rfl (by decide) (fm_dec dtX11_oftenBy 23 rfl) ?_
      refine pv_iconst (pc := 38) (v := 4) (by decide) (fm_dec dtX11_oftenBy 24 rfl) ?_
      refine pv_iald (k := 4) (n := 6) (pc := 39) (by decide) rfl rfl (fm_inl (by decide)) (fm_dec dtX11_oftenBy 25 rfl) ?_
      refine pv_imul (pc := 40) (fm_dec dtX11_oftenBy 26 rfl) ?_
      refine pv_i2l (pc := 41) (fm_dec dtX11_oftenBy 27 rfl) ?_
      refine pv_aloadn (pc := 42) (n := 0) 0 rfl rfl (fm_dec dtX11_oftenBy 28 rfl) ?_
      refine pv_getR (k := 0) (j := 14) (ci := 11) (pc := 43) 17 rfl (by decide) pfl_X11_31 (by decide) rfl (by decide) (fm_dec dtX11_oftenBy 29 rfl) ?_
      refine pv_iloadn (pc := 46) (n := 1) 1 rfl rfl (fm_dec dtX11_oftenBy 30 rfl) ?_
      refine pv_aald (k := 17) (n := 8) (r := (35 + i)) (pc := 47) (by decide) (Or.inr (Or.inr rfl)) rfl (rw_life.inb hi9 hi8) (rw_life.at hi9 hi8) (rw_life.2.2.2 _ hi8).2.1 (fm_dec dtX11_oftenBy 31 rfl) ?_
      refine pv_iconst (pc := 48) (v := 2) (by decide) (fm_dec dtX11_oftenBy 32 rfl) ?_
      refine pv_iald (k := (35 + i)) (n := 6) (pc := 49) (rw_life.2.2.2 _ hi8).2.2.1 (rw_life.2.2.2 _ hi8).2.2.2.1 (rw_life.2.2.2 _ hi8).2.2.2.2 (fm_inl (by decide)) (fm_dec dtX11_oftenBy 33 rfl) ?_
      refine pv_i2l (pc := 50) (fm_dec dtX11_oftenBy 34 rfl) ?_
      refine pv_lmul (pc := 51) (fm_dec dtX11_oftenBy 35 rfl) ?_
      refine pv_aloadn (pc := 52) (n := 0) 0 rfl rfl (fm_dec dtX11_oftenBy 36 rfl) ?_
      refine pv_iload (pc := 53) (i := 6) rfl (fm_dec dtX11_oftenBy 37 rfl) ?_
      refine pv_aloadn (pc := 55) (n := 0) 0 rfl rfl (fm_dec dtX11_oftenBy 38 rfl) ?_
      refine pv_iloadn (pc := 56) (n := 1) 1 rfl rfl (fm_dec dtX11_oftenBy 39 rfl) ?_
      refine pv_aloadn (pc := 57) (n := 0) 0 rfl rfl (fm_dec dtX11_oftenBy 40 rfl) ?_
      refine pv_getR (k := 0) (j := 27) (ci := 11) (pc := 58) 7 rfl (by decide) pfl_X11_61 (by decide) rfl (by decide) (fm_dec dtX11_oftenBy 41 rfl) ?_
      refine pv_bipush (pc := 61) (v := 10) (by decide) (fm_dec dtX11_oftenBy 42 rfl) ?_
      refine pv_iald (k := 7) (n := 14) (pc := 63) (by decide) rfl rfl (fm_inl (by decide)) (fm_dec dtX11_oftenBy 43 rfl) ?_
      refine pv_invV2 (k := 0) (d' := 0) (pc := 64) pcv_X11_263 (by decide) rfl (Nat.le_of_ble_eq_true rfl) (by decide) (fm_dec dtX11_oftenBy 44 rfl) ?_
      refine c_myr hD hY hi ht.2.1 (by have := ho.1; omega) ?_
      refine pv_then1 ?_
      refine pv_aloadn (pc := 67) (n := 0) 0 rfl rfl (fm_dec dtX11_oftenBy 45 rfl) ?_
      refine pv_getR (k := 0) (j := 14) (ci := 11) (pc := 68) 17 rfl (by decide) pfl_X11_31 (by decide) rfl (by decide) (fm_dec dtX11_oftenBy 46 rfl) ?_
      refine pv_iloadn (pc := 71) (n := 1) 1 rfl rfl (fm_dec dtX11_oftenBy 47 rfl) ?_
      refine pv_aald (k := 17) (n := 8) (r := (35 + i)) (pc := 72) (by decide) (Or.inr (Or.inr rfl)) rfl (rw_life.inb hi9 hi8) (rw_life.at hi9 hi8) (rw_life.2.2.2 _ hi8).2.1 (fm_dec dtX11_oftenBy 48 rfl) ?_
      refine pv_iconst (pc := 73) (v := 2) (by decide) (fm_dec dtX11_oftenBy 49 rfl) ?_
      refine pv_iald (k := (35 + i)) (n := 6) (pc := 74) (rw_life.2.2.2 _ hi8).2.2.1 (rw_life.2.2.2 _ hi8).2.2.2.1 (rw_life.2.2.2 _ hi8).2.2.2.2 (fm_inl (by decide)) (fm_dec dtX11_oftenBy 50 rfl) ?_
      refine pv_aloadn (pc := 75) (n := 0) 0 rfl rfl (fm_dec dtX11_oftenBy 51 rfl) ?_
      refine pv_aloadn (pc := 76) (n := 0) 0 rfl rfl (fm_dec dtX11_oftenBy 52 rfl) ?_
      refine pv_getR (k := 0) (j := 27) (ci := 11) (pc := 77) 7 rfl (by decide) pfl_X11_61 (by decide) rfl (by decide) (fm_dec dtX11_oftenBy 53 rfl) ?_
      refine pv_iloadn (pc := 80) (n := 1) 1 rfl rfl (fm_dec dtX11_oftenBy 54 rfl) ?_
      refine pv_invV2 (k := 0) (d' := 1) (pc := 81) pcv_X11_266 (by decide) rfl (Nat.le_of_ble_eq_true rfl) (by decide) (fm_dec dtX11_oftenBy 55 rfl) ?_
      refine c_msd hD hY ht ho hi ?_
      refine pv_then1 ?_
      refine pv_iconst (pc := 84) (v := 0) (by decide) (fm_dec dtX11_oftenBy 56 rfl) ?_
      rw [g2m]
      refine pv_invV5 (k := 0) (d' := 4) (pc := 85) pcv_X11_273 (by decide) rfl (Nat.le_of_ble_eq_true rfl) (by decide) (fm_dec dtX11_oftenBy 57 rfl) ?_
      refine c_mlw hM hd (fun M85 g85 h85 => ?_)
      refine pv_then1 ?_
      refine pv_i2l (pc := 88) (fm_dec dtX11_oftenBy 58 rfl) ?_
      refine pv_lmul (pc := 89) (fm_dec dtX11_oftenBy 59 rfl) ?_
      refine pv_ladd (pc := 90) (fm_dec dtX11_oftenBy 60 rfl) ?_
      refine pv_lstore (pc := 91) (i := 4) (by decide) rfl (fm_dec dtX11_oftenBy 61 rfl) ?_
      dsimp only [List.set_cons_zero, List.set_cons_succ]
      refine pv_iincc (pc := 93) 6 1 (by decide) rfl (by decide) rfl (fm_dec dtX11_oftenBy 62 rfl) ?_
      dsimp only [List.set_cons_zero, List.set_cons_succ]
      refine pv_goto (pc := 96) 18 (by decide) (fm_dec dtX11_oftenBy 63 rfl) ?_
      have ob := outV_b (x := lwR (knF (nI a) (nI ((D.2.1 i 0).toNat + S.1.1 / 52)) (nI (D.2.1 i 2).toNat) (nI (sdA D S.1.2.2.1 i)) 0) (xcs cs) 0 (fun _ => 0))
      have h3 := mul_b (a := D.2.1 i 1 * D.2.2.2.2 4 * D.2.1 i 2) (b := (lwV cs (nI a) (nI ((D.2.1 i 0).toNat + S.1.1 / 52)) (nI (D.2.1 i 2).toNat) (nI (sdA D S.1.2.2.1 i)) 0).toInt) (m := 57024) (n := 64) (by omega) (by omega) ob.1 ob.2
      have p1 : (M.1 (35 + i) (Int32.toNatClampNeg 1) * M.1 4 (Int32.toNatClampNeg 4)).toInt = D.2.1 i 1 * D.2.2.2.2 4 := (by rw [sc_mul (by rw [g1, g4]; omega) (by rw [g1, g4]; omega), g1, g4])
      have g2j : (nI (D.2.1 i 2).toNat).toInt = D.2.1 i 2 := (by rw [← g2m]; exact g2i)
      have p2 := jm_2 (jm_2 (i_j p1) (i_j g2j) (by omega) (by omega)) (i_j (x := lwV cs (nI a) (nI ((D.2.1 i 0).toNat + S.1.1 / 52)) (nI (D.2.1 i 2).toNat) (nI (sdA D S.1.2.2.1 i)) 0) rfl) (by omega) (by omega)
      have b9 := ob_b (cs := cs) (S := S) hD hi hc a
      have b8 := oa_b (cs := cs) (S := S) (a := a) hD hi
      have p3 := ad_j hv p2 (by omega) (by omega)
      rw [nI_succ1]
      exact ih (k - (a + 1)) (by rw [sc_le] at hc21; omega) (a + 1) M85 _ ⟨h.1.low (fun k j _ x y => g85 k j x y) (g85 0 17 (by decide) (by decide)), (g85 0 0 (by decide) (by decide)).trans h.2⟩ (by rw [sc_le] at hc21; omega) rfl p3 hq
set_option maxRecDepth 20000 in
theorem c_mob {M : fmM} {Q : fmR → fmM → Prop} {D : dD} {cs : tC} {S : aS} {i c k : Nat} {x : Int32} (h : mAq M D cs S ∧ M.1 0 0 = 0) (hi : i < D.1) (hc : c ≤ 999) (hx : x.toInt = (c : Int)) (hk30 : k ≤ 30) (hq : ∀ (r : Int64) (M' : fmM), (mAq M' D cs S ∧ M'.1 0 0 = 0) → r.toInt = obS D cs S i c k → Q (.inl (some (.long r))) M') : pvGood Tm 11 qX11_oftenBy [.ref 0, .int (nI i), .int x, .int (nI k)] M Q := by
  refine pvGood_of (Nat.le_of_ble_eq_true rfl) ?_
  show pvEv Tm 11 qX11_oftenBy 0 [some (.ref 0), some (.int (nI i)), some (.int x), some (.int (nI k)), none, none, none] [] M Q
  have h9q := h.1
  obtain ⟨hD, hY, hM, hd, ht, ho⟩ := h9q
  have d8 := hD.1
  have hi9 : (nI i).toInt = (i : Int) := nI_toInt (by omega)
  have hi8 : i < 8 := (by omega)
  refine pv_ldc2 (pc := 0) pkc_X11_353 (fm_dec dtX11_oftenBy 0 rfl) ?_
  refine pv_iloadn (pc := 3) (n := 2) 2 rfl rfl (fm_dec dtX11_oftenBy 1 rfl) ?_
  refine pv_i2l (pc := 4) (fm_dec dtX11_oftenBy 2 rfl) ?_
  refine pv_lmul (pc := 5) (fm_dec dtX11_oftenBy 3 rfl) ?_
  refine pv_aloadn (pc := 6) (n := 0) 0 rfl rfl (fm_dec dtX11_oftenBy 4 rfl) ?_
  refine pv_iloadn (pc := 7) (n := 1) 1 rfl rfl (fm_dec dtX11_oftenBy 5 rfl) ?_
  refine pv_invV1 (k := 0) (d' := 1) (pc := 8) pcv_X11_287 (by decide) rfl (Nat.le_of_ble_eq_true rfl) (by decide) (fm_dec dtX11_oftenBy 6 rfl) ?_
  refine c_renew hi9 hi8 (h5_ne hD hY) ?_
  refine pv_then1 ?_
  refine pv_i2l (pc := 11) (fm_dec dtX11_oftenBy 7 rfl) ?_
  refine pv_lmul (pc := 12) (fm_dec dtX11_oftenBy 8 rfl) ?_
  refine pv_lstore (pc := 13) (i := 4) (by decide) rfl (fm_dec dtX11_oftenBy 9 rfl) ?_
  dsimp only [List.set_cons_zero, List.set_cons_succ]
  refine pv_iconst (pc := 15) (v := 0) (by decide) (fm_dec dtX11_oftenBy 10 rfl) ?_
  refine pv_istore (pc := 16) (i := 6) (by decide) rfl (fm_dec dtX11_oftenBy 11 rfl) ?_
  dsimp only [List.set_cons_zero, List.set_cons_succ]
  refine (mob_loop hi hc hk30 k 0 M _ h (Nat.zero_le _) rfl (ob_0 hD hi hc hx (mx_1 (dv_n (hY_3 hD hY hi) (hY_5 hD hY) (by have := hD.2.2.2.2.2.2.2; omega) (by have := (hD.2.2.1 i hi).2.2.2.1; omega)))) hq).up (by decide)
/-- the best k of the first n + 1, k from 1 on -/
def ofS (D : dD) (cs : tC) (S : aS) (i c : Nat) : Nat → Nat
  | 0 => 1
  | j + 1 => if obS D cs S i c (j + 2) * (ofS D cs S i c j : Int) < obS D cs S i c (ofS D cs S i c j) * ((j + 2 : Nat) : Int) then j + 2 else ofS D cs S i c j
theorem of_t {D : dD} {cs : tC} {S : aS} {i c j : Nat} (h : obS D cs S i c (j + 2) * (ofS D cs S i c j : Int) < obS D cs S i c (ofS D cs S i c j) * ((j + 2 : Nat) : Int)) : ofS D cs S i c (j + 1) = j + 2 := if_pos h
theorem of_f {D : dD} {cs : tC} {S : aS} {i c j : Nat} (h : ¬ obS D cs S i c (j + 2) * (ofS D cs S i c j : Int) < obS D cs S i c (ofS D cs S i c j) * ((j + 2 : Nat) : Int)) : ofS D cs S i c (j + 1) = ofS D cs S i c j := if_neg h
theorem of_b {D : dD} {cs : tC} {S : aS} {i c : Nat} : ∀ j, 1 ≤ ofS D cs S i c j ∧ ofS D cs S i c j ≤ j + 1 := by
  intro j
  induction j with
  | zero => exact ⟨Nat.le_refl _, Nat.le_refl _⟩
  | succ j ih =>
    by_cases h : obS D cs S i c (j + 2) * (ofS D cs S i c j : Int) < obS D cs S i c (ofS D cs S i c j) * ((j + 2 : Nat) : Int)
    · rw [of_t h]
      omega
    · rw [of_f h]
      omega
theorem om_b {a : Int} {n : Nat} (ha : 0 ≤ a ∧ a ≤ 150000000) (hn : n ≤ 31) : 0 ≤ a * (n : Int) ∧ a * (n : Int) ≤ 4650000000 := by
  have h1 := mul_b (a := a) (b := (n : Int)) (m := 150000000) (n := 31) ha.1 ha.2 (Int.natCast_nonneg _) (by omega)
  omega
theorem om_i {x : Int64} {z : Int32} {a : Int} {n : Nat} (hx : x.toInt = a) (hz : z.toInt = (n : Int)) (ha : 0 ≤ a ∧ a ≤ 150000000) (hn : n ≤ 31) : (x * z.toInt64).toInt = a * (n : Int) := by
  have h := om_b ha hn
  rw [Int64.toInt_mul, Int32.toInt_toInt64, hx, hz]
  exact Int.bmod_eq_of_le (by omega) (by omega)
theorem lc_ge {x z : Int64} : 0 ≤ lg_cmp x z ↔ z.toInt ≤ x.toInt := by
  unfold lg_cmp
  split
  · rename_i h
    have h8 : z.toInt < x.toInt := Int64.lt_iff_toInt_lt.mp h
    exact ⟨fun _ => by omega, fun _ => by decide⟩
  · rename_i h
    have h8 : ¬ z.toInt < x.toInt := fun e => h (Int64.lt_iff_toInt_lt.mpr e)
    split
    · rename_i h2
      exact ⟨fun _ => by rw [h2]; exact Int.le_refl _, fun _ => by decide⟩
    · rename_i h2
      have h3 : ¬ x.toInt = z.toInt := fun e => h2 (j64_ext e)
      exact ⟨fun h9 => absurd h9 (by decide), fun h9 => absurd h9 (by omega)⟩
theorem ob_k {D : dD} {cs : tC} {S : aS} {i c k : Nat} (hD : dOk D) (hi : i < D.1) (hc : c ≤ 999) (hk : k ≤ 30) : 0 ≤ obS D cs S i c k ∧ obS D cs S i c k ≤ 150000000 := by
  have h := ob_b (cs := cs) (S := S) hD hi hc k
  omega
theorem i32_pz {x : Int32} {p : Int} (h : x.toInt = p) (hp : -1000 ≤ p ∧ p ≤ 1000) : (x + 1).toInt = p + 1 := by
  have z1 : (1 : Int32).toInt = 1 := by decide
  rw [sc_add (by omega) (by omega)]
  omega
set_option maxRecDepth 20000 in
theorem xof_loop {Q : fmR → fmM → Prop} {D : dD} {cs : tC} {S : aS} {i c : Nat} {y : Int32} (hi : i < D.1) (hc : c ≤ 999) (ec : y.toInt = (c : Int)) : ∀ (m : Nat) (M : fmM) (v le : Int64) (wh kk : Int32) (v9 v10 : Option Value), xAq M D cs S → m ≤ 30 → kk.toInt = 31 - (m : Int) → v.toInt = obS D cs S i c (30 - m) - obS D cs S i c 0 → ((m + 1 = 31 ∧ wh = 0) ∨ ∃ j, j + m = 29 ∧ wh.toInt = ((ofS D cs S i c j : Nat) : Int) ∧ le.toInt = obS D cs S i c (ofS D cs S i c j)) → (∀ (r : Int32) (M' : fmM), r.toInt = ((ofS D cs S i c 29 : Nat) : Int) → Q (.inl (some (.int r))) M') → pvEv Tx 20 qX10_often 25 [some (.ref 0), some (.int (nI i)), some (.int y), some (.long v), none, some (.long le), none, some (.int wh), some (.int kk), v9, v10] [] M Q := by
  intro m
  induction m using Nat.strongRecOn with
  | _ m ih =>
    intro M v le wh kk v9 v10 h hm30 hkk hv hinv hq
    refine pv_iload (pc := 25) (i := 8) rfl (fm_dec dtX10_often 16 rfl) ?_
    refine pv_bipush (pc := 27) (v := 30) (by decide) (fm_dec dtX10_often 17 rfl) ?_
    refine pv_icmp_gt (pc := 29) 99 (by decide) (fm_dec dtX10_often 18 rfl) (fun hc29 => ?_) (fun hc29 => ?_)
    · refine pv_iload (pc := 99) (i := 7) rfl (fm_dec dtX10_often 57 rfl) ?_
      exact pv_ireturn (pc := 101) rfl (fm_dec dtX10_often 58 rfl) (by have e9 : m = 0 := (by rw [sc_lt] at hc29; have z30 : (30 : Int32).toInt = 30 := (by decide); omega); subst e9; rcases hinv with ⟨e, -⟩ | ⟨j, hj, hw9, -⟩; omega; exact hq _ _ (by rw [hw9, show j = 29 by omega]))
    · have hm1 : 1 ≤ m := (by rw [sc_lt] at hc29; have z30 : (30 : Int32).toInt = 30 := (by decide); omega)
      obtain ⟨n, rfl⟩ : ∃ n, m = n + 1 := ⟨m - 1, by omega⟩
      refine pv_lloadn (pc := 32) (n := 3) 3 rfl rfl (fm_dec dtX10_often 19 rfl) ?_
      refine pv_aloadn (pc := 33) (n := 0) 0 rfl rfl (fm_dec dtX10_often 20 rfl) ?_
      refine pv_getR (k := 0) (j := 6) (ci := 10) (pc := 34) 32 rfl (by decide) pfl_X10_52 (by decide) rfl (by decide) (fm_dec dtX10_often 21 rfl) ?_
      refine pv_aloadn (pc := 37) (n := 0) 0 rfl rfl (fm_dec dtX10_often 22 rfl) ?_
      refine pv_getR (k := 0) (j := 9) (ci := 10) (pc := 38) 46 rfl (by decide) pfl_X10_75 (by decide) rfl (by decide) (fm_dec dtX10_often 23 rfl) ?_
      refine pv_getR (k := 46) (j := 0) (ci := 5) (pc := 41) 47 rfl (by decide) pfl_X10_90 (by decide) rfl (by decide) (fm_dec dtX10_often 24 rfl) ?_
      refine pv_iloadn (pc := 44) (n := 1) 1 rfl rfl (fm_dec dtX10_often 25 rfl) ?_
      refine pv_iload (pc := 45) (i := 8) rfl (fm_dec dtX10_often 26 rfl) ?_
      refine pv_iconst (pc := 47) (v := 1) (by decide) (fm_dec dtX10_often 27 rfl) ?_
      refine pv_isub (pc := 48) (fm_dec dtX10_often 28 rfl) ?_
      rw [show kk - 1 = nI (30 - (n + 1)) from nI_is (by have z1 : (1 : Int32).toInt = 1 := (by decide); rw [sc_sub (by omega) (by omega)]; omega) (by omega)]
      refine pv_invV3 (k := 32) (d' := 4) (pc := 49) pcv_X10_300 (by decide) rfl (Nat.le_of_ble_eq_true rfl) (by decide) (fm_dec dtX10_often 29 rfl) ?_
      refine c_xraa h hi (fun M49 r49 g49 h49 e49 => ?_)
      refine pv_then1 ?_
      have e30 : 30 - (n + 1) + 1 = 30 - n := (by omega)
      have hb0 := ob_b (cs := cs) (S := S) h.1 hi hc (30 - (n + 1))
      have ha0 := oa_b (cs := cs) (S := S) (a := 30 - (n + 1)) h.1 hi
      have hbz := ob_b (cs := cs) (S := S) h.1 hi hc 0
      have eob : obS D cs S i c (30 - n) = obS D cs S i c (30 - (n + 1)) + oaS D cs S i (30 - (n + 1)) := (by rw [← e30]; rfl)
      have hv2 : (v + r49).toInt = obS D cs S i c (30 - n) - obS D cs S i c 0 := (by rw [ad_j hv e49 (by omega) (by omega)]; omega)
      have hbn := ob_k (cs := cs) (S := S) h.1 hi hc (show 30 - n ≤ 30 by omega)
      refine pv_ladd (pc := 52) (fm_dec dtX10_often 30 rfl) ?_
      refine pv_lstoren (pc := 53) (n := 3) 3 rfl (by decide) rfl (fm_dec dtX10_often 31 rfl) ?_
      dsimp only [List.set_cons_zero, List.set_cons_succ]
      refine pv_lloadn (pc := 54) (n := 3) 3 rfl rfl (fm_dec dtX10_often 32 rfl) ?_
      refine pv_aloadn (pc := 55) (n := 0) 0 rfl rfl (fm_dec dtX10_often 33 rfl) ?_
      refine pv_iloadn (pc := 56) (n := 1) 1 rfl rfl (fm_dec dtX10_often 34 rfl) ?_
      refine pv_iloadn (pc := 57) (n := 2) 2 rfl rfl (fm_dec dtX10_often 35 rfl) ?_
      refine pv_invV2 (k := 0) (d' := 3) (pc := 58) pcv_X10_304 (by decide) rfl (Nat.le_of_ble_eq_true rfl) (by decide) (fm_dec dtX10_often 36 rfl) ?_
      refine c_xrp (cs := cs) (S := S) h.1 (h.low g49 h49).2.1 hi hc ec (fun r58 e58 => ?_)
      refine pv_then1 ?_
      have hal : (v + r49 + r58).toInt = obS D cs S i c (30 - n) := (by rw [ad_j hv2 e58 (by omega) (by omega)]; omega)
      refine pv_ladd (pc := 61) (fm_dec dtX10_often 37 rfl) ?_
      refine pv_lstore (pc := 62) (i := 9) (by decide) rfl (fm_dec dtX10_often 38 rfl) ?_
      dsimp only [List.set_cons_zero, List.set_cons_succ]
      refine pv_iload (pc := 64) (i := 7) rfl (fm_dec dtX10_often 39 rfl) ?_
      refine pv_if_eq (pc := 66) 85 (by decide) (fm_dec dtX10_often 40 rfl) (fun hc66 => ?_) (fun hc66 => ?_)
      · refine pv_lload (pc := 85) (i := 9) rfl (fm_dec dtX10_often 51 rfl) ?_
        refine pv_lstore (pc := 87) (i := 5) (by decide) rfl (fm_dec dtX10_often 52 rfl) ?_
        dsimp only [List.set_cons_zero, List.set_cons_succ]
        refine pv_iload (pc := 89) (i := 8) rfl (fm_dec dtX10_often 53 rfl) ?_
        refine pv_istore (pc := 91) (i := 7) (by decide) rfl (fm_dec dtX10_often 54 rfl) ?_
        dsimp only [List.set_cons_zero, List.set_cons_succ]
        refine pv_iincc (pc := 93) 8 1 (by decide) rfl (by decide) rfl (fm_dec dtX10_often 55 rfl) ?_
        dsimp only [List.set_cons_zero, List.set_cons_succ]
        refine pv_goto (pc := 96) 25 (by decide) (fm_dec dtX10_often 56 rfl) ?_
        exact ih n (by omega) M49 _ _ _ _ _ _ (h.low g49 h49) (by omega) (by rw [i32_pz hkk (by omega)]; omega) hv2 (Or.inr ⟨0, by rcases hinv with ⟨e, -⟩ | ⟨j, hj, hw9, -⟩; omega; (exfalso; have hob := of_b (D := D) (cs := cs) (S := S) (i := i) (c := c) j; rw [hc66] at hw9; have z0 : (0 : Int32).toInt = 0 := (by decide); omega), by rcases hinv with ⟨e, -⟩ | ⟨j, hj, hw9, -⟩; (show kk.toInt = ((1 : Nat) : Int); omega); (exfalso; have hob := of_b (D := D) (cs := cs) (S := S) (i := i) (c := c) j; rw [hc66] at hw9; have z0 : (0 : Int32).toInt = 0 := (by decide); omega), by rcases hinv with ⟨e, -⟩ | ⟨j, hj, hw9, -⟩; (show _ = obS D cs S i c 1; rw [hal, show 30 - n = 1 by omega]); (exfalso; have hob := of_b (D := D) (cs := cs) (S := S) (i := i) (c := c) j; rw [hc66] at hw9; have z0 : (0 : Int32).toInt = 0 := (by decide); omega)⟩) hq
      · obtain ⟨j, hj, hw9, hl9⟩ := (by rcases hinv with ⟨-, e⟩ | e; exact absurd e hc66; exact e : ∃ j, j + (n + 1) = 29 ∧ wh.toInt = ((ofS D cs S i c j : Nat) : Int) ∧ le.toInt = obS D cs S i c (ofS D cs S i c j))
        have hob := of_b (D := D) (cs := cs) (S := S) (i := i) (c := c) j
        have hbw := ob_k (cs := cs) (S := S) h.1 hi hc (show ofS D cs S i c j ≤ 30 by omega)
        have q1 := om_i hal hw9 hbn (by omega)
        have q2 := om_i (n := j + 2) hl9 (show kk.toInt = ((j + 2 : Nat) : Int) by omega) hbw (by omega)
        have e2 : j + 2 = 30 - n := (by omega)
        rw [e2] at q2
        refine pv_lload (pc := 69) (i := 9) rfl (fm_dec dtX10_often 41 rfl) ?_
        refine pv_iload (pc := 71) (i := 7) rfl (fm_dec dtX10_often 42 rfl) ?_
        refine pv_i2l (pc := 73) (fm_dec dtX10_often 43 rfl) ?_
        refine pv_lmul (pc := 74) (fm_dec dtX10_often 44 rfl) ?_
        refine pv_lload (pc := 75) (i := 5) rfl (fm_dec dtX10_often 45 rfl) ?_
        refine pv_iload (pc := 77) (i := 8) rfl (fm_dec dtX10_often 46 rfl) ?_
        refine pv_i2l (pc := 79) (fm_dec dtX10_often 47 rfl) ?_
        refine pv_lmul (pc := 80) (fm_dec dtX10_often 48 rfl) ?_
        refine pv_lcmp (pc := 81) (fm_dec dtX10_often 49 rfl) ?_
        refine pv_if_ge (pc := 82) 93 (by decide) (fm_dec dtX10_often 50 rfl) (fun hc82 => ?_) (fun hc82 => ?_)
        · refine pv_iincc (pc := 93) 8 1 (by decide) rfl (by decide) rfl (fm_dec dtX10_often 55 rfl) ?_
          dsimp only [List.set_cons_zero, List.set_cons_succ]
          refine pv_goto (pc := 96) 25 (by decide) (fm_dec dtX10_often 56 rfl) ?_
          have e9 : ofS D cs S i c (j + 1) = ofS D cs S i c j := of_f (by have h5 := lc_ge.mp hc82; rw [e2]; omega)
          exact ih n (by omega) M49 _ _ _ _ _ _ (h.low g49 h49) (by omega) (by rw [i32_pz hkk (by omega)]; omega) hv2 (Or.inr ⟨j + 1, by omega, by rw [e9]; exact hw9, by rw [e9]; exact hl9⟩) hq
        · refine pv_lload (pc := 85) (i := 9) rfl (fm_dec dtX10_often 51 rfl) ?_
          refine pv_lstore (pc := 87) (i := 5) (by decide) rfl (fm_dec dtX10_often 52 rfl) ?_
          dsimp only [List.set_cons_zero, List.set_cons_succ]
          refine pv_iload (pc := 89) (i := 8) rfl (fm_dec dtX10_often 53 rfl) ?_
          refine pv_istore (pc := 91) (i := 7) (by decide) rfl (fm_dec dtX10_often 54 rfl) ?_
          dsimp only [List.set_cons_zero, List.set_cons_succ]
          refine pv_iincc (pc := 93) 8 1 (by decide) rfl (by decide) rfl (fm_dec dtX10_often 55 rfl) ?_
          dsimp only [List.set_cons_zero, List.set_cons_succ]
          refine pv_goto (pc := 96) 25 (by decide) (fm_dec dtX10_often 56 rfl) ?_
          have e9 : ofS D cs S i c (j + 1) = j + 2 := of_t (by have h5 : ¬ (le * kk.toInt64).toInt ≤ ((v + r49 + r58) * wh.toInt64).toInt := fun e => hc82 (lc_ge.mpr e); rw [e2]; omega)
          exact ih n (by omega) M49 _ _ _ _ _ _ (h.low g49 h49) (by omega) (by rw [i32_pz hkk (by omega)]; omega) hv2 (Or.inr ⟨j + 1, by omega, by rw [e9]; omega, by rw [e9, e2]; exact hal⟩) hq
set_option maxRecDepth 20000 in
theorem c_xoften {M : fmM} {Q : fmR → fmM → Prop} {D : dD} {cs : tC} {S : aS} {x y : Int32} (h : xAq M D cs S) (hn1 : ¬ inL D x → Q (.inr fmNSE) (fmI M 0 15 (M.1 0 15 + 1))) (hn2 : inL D x → ¬ (inW y 0 999) → Q (.inr fmIAE) (fmI M 0 16 (M.1 0 16 + 1))) (hq : inL D x → inW y 0 999 → ∀ (r : Int32) (M' : fmM), r.toInt = ((ofS D cs S x.toInt.toNat y.toInt.toNat 29 : Nat) : Int) → Q (.inl (some (.int r))) M') : pvGood Tx 21 qX10_often [.ref 0, .int x, .int y] M Q := by
  refine pvGood_of (Nat.le_of_ble_eq_true rfl) ?_
  show pvEv Tx 21 qX10_often 0 [some (.ref 0), some (.int x), some (.int y), none, none, none, none, none, none, none, none] [] M Q
  have hxq := h
  obtain ⟨hD, hX, hL, hs, ho⟩ := h
  have d8 := hD.1
  have hl9 : (M.1 3 9).toInt = (D.1 : Int) := hX.1.1
  refine pv_aloadn (pc := 0) (n := 0) 0 rfl rfl (fm_dec dtX10_often 0 rfl) ?_
  refine pv_iloadn (pc := 1) (n := 1) 1 rfl rfl (fm_dec dtX10_often 1 rfl) ?_
  refine pv_invV1 (k := 0) (d' := 0) (pc := 2) pcv_X10_197 (by decide) rfl (Nat.le_of_ble_eq_true rfl) (by decide) (fm_dec dtX10_often 2 rfl) ?_
  refine c_needL (fun h2a h2b => ?_) (fun h2 => ?_)
  · refine pv_then0 ?_
    have hn : inL D x := ⟨h2a, by omega⟩
    obtain ⟨i, hi, rfl, ei⟩ := hn.n hD
    rw [ei] at hq
    have hi9 : (nI i).toInt = (i : Int) := nI_toInt (by omega)
    have hi8 : i < 8 := (by omega)
    refine pv_aloadn (pc := 5) (n := 0) 0 rfl rfl (fm_dec dtX10_often 3 rfl) ?_
    refine pv_iloadn (pc := 6) (n := 2) 2 rfl rfl (fm_dec dtX10_often 4 rfl) ?_
    refine pv_iconst (pc := 7) (v := 0) (by decide) (fm_dec dtX10_often 5 rfl) ?_
    refine pv_sipush (pc := 8) (v := 999) (by decide) (fm_dec dtX10_often 6 rfl) ?_
    refine pv_invV3 (k := 0) (d' := 0) (pc := 11) pcv_X10_169 (by decide) rfl (Nat.le_of_ble_eq_true rfl) (by decide) (fm_dec dtX10_often 7 rfl) ?_
    refine c_needW (fun h11a h11b => ?_) (fun h11 => ?_)
    · refine pv_then0 ?_
      have hP : inW y 0 999 := ⟨h11a, h11b⟩
      obtain ⟨c, hc, ec⟩ : ∃ c : Nat, c ≤ 999 ∧ y.toInt = (c : Int) := (by have z0 : (0 : Int32).toInt = 0 := (by decide); have z9 : (999 : Int32).toInt = 999 := (by decide); exact ⟨y.toInt.toNat, by omega, by omega⟩)
      have ecn : y.toInt.toNat = c := (by omega)
      rw [ecn] at hq
      refine pv_lconst (pc := 14) (v := 0) (by decide) (fm_dec dtX10_often 8 rfl) ?_
      refine pv_lstoren (pc := 15) (n := 3) 3 rfl (by decide) rfl (fm_dec dtX10_often 9 rfl) ?_
      dsimp only [List.set_cons_zero, List.set_cons_succ]
      refine pv_lconst (pc := 16) (v := 0) (by decide) (fm_dec dtX10_often 10 rfl) ?_
      refine pv_lstore (pc := 17) (i := 5) (by decide) rfl (fm_dec dtX10_often 11 rfl) ?_
      dsimp only [List.set_cons_zero, List.set_cons_succ]
      refine pv_iconst (pc := 19) (v := 0) (by decide) (fm_dec dtX10_often 12 rfl) ?_
      refine pv_istore (pc := 20) (i := 7) (by decide) rfl (fm_dec dtX10_often 13 rfl) ?_
      dsimp only [List.set_cons_zero, List.set_cons_succ]
      refine pv_iconst (pc := 22) (v := 1) (by decide) (fm_dec dtX10_often 14 rfl) ?_
      refine pv_istore (pc := 23) (i := 8) (by decide) rfl (fm_dec dtX10_often 15 rfl) ?_
      dsimp only [List.set_cons_zero, List.set_cons_succ]
      exact (xof_loop hi hc ec 30 M _ _ _ _ _ _ hxq (Nat.le_refl _) (by decide) (by show (0 : Int64).toInt = obS D cs S i c 0 - obS D cs S i c 0; rw [Int.sub_self]; decide) (Or.inl ⟨rfl, rfl⟩) (hq hn hP)).up (by decide)
    · refine pv_thenX ?_
      first | exact hn2 hn (fun h9 => h11 ⟨h9.1, h9.2⟩) | exact hn1 (fun h8 => h2 ⟨h8.1, by have := h8.2; omega⟩)
  · refine pv_thenX ?_
    first | exact hn2 hn (fun h9 => h11 ⟨h9.1, h9.2⟩) | exact hn1 (fun h8 => h2 ⟨h8.1, by have := h8.2; omega⟩)
set_option maxRecDepth 20000 in
theorem mof_loop {Q : fmR → fmM → Prop} {D : dD} {cs : tC} {S : aS} {i c : Nat} {y : Int32} (hi : i < D.1) (hc : c ≤ 999) (ec : y.toInt = (c : Int)) : ∀ (m : Nat) (j : Nat) (M : fmM) (b kk : Int32), (mAq M D cs S ∧ M.1 0 0 = 0) → j ≤ 29 → 29 - j = m → kk.toInt = ((j + 2 : Nat) : Int) → b.toInt = ((ofS D cs S i c j : Nat) : Int) → (∀ (r : Int32) (M' : fmM), M'.1 0 0 = 0 → r.toInt = ((ofS D cs S i c 29 : Nat) : Int) → Q (.inl (some (.int r))) M') → pvEv Tm 20 qX11_often 59 [some (.ref 0), some (.int (nI i)), some (.int y), some (.int b), some (.int kk)] [] M Q := by
  intro m
  induction m using Nat.strongRecOn with
  | _ m ih =>
    intro j M b kk h hj29 hm hkk hb hq
    refine pv_iload (pc := 59) (i := 4) rfl (fm_dec dtX11_often 34 rfl) ?_
    refine pv_bipush (pc := 61) (v := 30) (by decide) (fm_dec dtX11_often 35 rfl) ?_
    refine pv_icmp_gt (pc := 63) 105 (by decide) (fm_dec dtX11_often 36 rfl) (fun hc63 => ?_) (fun hc63 => ?_)
    · refine pv_iloadn (pc := 105) (n := 3) 3 rfl rfl (fm_dec dtX11_often 61 rfl) ?_
      exact pv_ireturn (pc := 106) rfl (fm_dec dtX11_often 62 rfl) (by have e9 : j = 29 := (by rw [sc_lt] at hc63; have z30 : (30 : Int32).toInt = 30 := (by decide); omega); subst e9; exact hq _ _ h.2 hb)
    · have hj29 : j < 29 := (by rw [sc_lt] at hc63; have z30 : (30 : Int32).toInt = 30 := (by decide); omega)
      have hob := of_b (D := D) (cs := cs) (S := S) (i := i) (c := c) j
      have ek9 : kk = nI (j + 2) := nI_is hkk (by omega)
      have eb9 : b = nI (ofS D cs S i c j) := nI_is hb (by omega)
      have hb9 : (nI (ofS D cs S i c j)).toInt = (((ofS D cs S i c j) : Nat) : Int) := nI_toInt (by omega)
      have hk9 : (nI (j + 2)).toInt = ((j + 2 : Nat) : Int) := nI_toInt (by omega)
      rw [ek9, eb9]
      have hbn := ob_k (cs := cs) (S := S) h.1.1 hi hc (show j + 2 ≤ 30 by omega)
      have hbw := ob_k (cs := cs) (S := S) h.1.1 hi hc (show (ofS D cs S i c j) ≤ 30 by omega)
      refine pv_aloadn (pc := 66) (n := 0) 0 rfl rfl (fm_dec dtX11_often 37 rfl) ?_
      refine pv_iloadn (pc := 67) (n := 1) 1 rfl rfl (fm_dec dtX11_often 38 rfl) ?_
      refine pv_iloadn (pc := 68) (n := 2) 2 rfl rfl (fm_dec dtX11_often 39 rfl) ?_
      refine pv_iload (pc := 69) (i := 4) rfl (fm_dec dtX11_often 40 rfl) ?_
      refine pv_invV3 (k := 0) (d' := 11) (pc := 71) pcv_X11_385 (by decide) rfl (Nat.le_of_ble_eq_true rfl) (by decide) (fm_dec dtX11_often 41 rfl) ?_
      refine c_mob (c := c) (k := j + 2) h hi hc ec (by omega) (fun r71 M71 q71 e71 => ?_)
      refine pv_then1 ?_
      refine pv_iloadn (pc := 74) (n := 3) 3 rfl rfl (fm_dec dtX11_often 42 rfl) ?_
      refine pv_i2l (pc := 75) (fm_dec dtX11_often 43 rfl) ?_
      refine pv_lmul (pc := 76) (fm_dec dtX11_often 44 rfl) ?_
      refine pv_aloadn (pc := 77) (n := 0) 0 rfl rfl (fm_dec dtX11_often 45 rfl) ?_
      refine pv_iloadn (pc := 78) (n := 1) 1 rfl rfl (fm_dec dtX11_often 46 rfl) ?_
      refine pv_iloadn (pc := 79) (n := 2) 2 rfl rfl (fm_dec dtX11_often 47 rfl) ?_
      refine pv_iloadn (pc := 80) (n := 3) 3 rfl rfl (fm_dec dtX11_often 48 rfl) ?_
      refine pv_invV3 (k := 0) (d' := 11) (pc := 81) pcv_X11_385 (by decide) rfl (Nat.le_of_ble_eq_true rfl) (by decide) (fm_dec dtX11_often 49 rfl) ?_
      refine c_mob (c := c) (k := (ofS D cs S i c j)) q71 hi hc ec (by omega) (fun r81 M81 q81 e81 => ?_)
      refine pv_then1 ?_
      refine pv_iload (pc := 84) (i := 4) rfl (fm_dec dtX11_often 50 rfl) ?_
      refine pv_i2l (pc := 86) (fm_dec dtX11_often 51 rfl) ?_
      refine pv_lmul (pc := 87) (fm_dec dtX11_often 52 rfl) ?_
      have q1 := om_i e71 hb9 hbn (by omega)
      have q2 := om_i e81 hk9 hbw (by omega)
      refine pv_lcmp (pc := 88) (fm_dec dtX11_often 53 rfl) ?_
      refine pv_if_ge (pc := 89) 97 (by decide) (fm_dec dtX11_often 54 rfl) (fun hc89 => ?_) (fun hc89 => ?_)
      · refine pv_iloadn (pc := 97) (n := 3) 3 rfl rfl (fm_dec dtX11_often 57 rfl) ?_
        refine pv_istoren (pc := 98) (n := 3) 3 rfl (by decide) rfl (fm_dec dtX11_often 58 rfl) ?_
        dsimp only [List.set_cons_zero, List.set_cons_succ]
        refine pv_iincc (pc := 99) 4 1 (by decide) rfl (by decide) rfl (fm_dec dtX11_often 59 rfl) ?_
        dsimp only [List.set_cons_zero, List.set_cons_succ]
        refine pv_goto (pc := 102) 59 (by decide) (fm_dec dtX11_often 60 rfl) ?_
        have e9 : ofS D cs S i c (j + 1) = ofS D cs S i c j := of_f (by have h5 := lc_ge.mp hc89; omega)
        exact ih (29 - (j + 1)) (by omega) (j + 1) M81 _ _ q81 (by omega) rfl (i32_p1 hk9 (by omega)) (by rw [e9]; exact hb9) hq
      · refine pv_iload (pc := 92) (i := 4) rfl (fm_dec dtX11_often 55 rfl) ?_
        refine pv_goto (pc := 94) 98 (by decide) (fm_dec dtX11_often 56 rfl) ?_
        refine pv_istoren (pc := 98) (n := 3) 3 rfl (by decide) rfl (fm_dec dtX11_often 58 rfl) ?_
        dsimp only [List.set_cons_zero, List.set_cons_succ]
        refine pv_iincc (pc := 99) 4 1 (by decide) rfl (by decide) rfl (fm_dec dtX11_often 59 rfl) ?_
        dsimp only [List.set_cons_zero, List.set_cons_succ]
        refine pv_goto (pc := 102) 59 (by decide) (fm_dec dtX11_often 60 rfl) ?_
        have e9 : ofS D cs S i c (j + 1) = j + 2 := of_t (by have h5 : ¬ (r81 * (nI (j + 2)).toInt64).toInt ≤ (r71 * (nI (ofS D cs S i c j)).toInt64).toInt := fun e => hc89 (lc_ge.mpr e); omega)
        exact ih (29 - (j + 1)) (by omega) (j + 1) M81 _ _ q81 (by omega) rfl (i32_p1 hk9 (by omega)) (by rw [e9]; exact hk9) hq
set_option maxRecDepth 20000 in
theorem c_moften {M : fmM} {Q : fmR → fmM → Prop} {D : dD} {cs : tC} {S : aS} {x y : Int32} (h : mAq M D cs S) (hn1 : ¬ inL D x → ∀ (z : Int32) (M' : fmM), M'.1 0 0 = 1 → Q (.inl (some (.int z))) M') (hn2 : inL D x → ¬ (inW y 0 999) → ∀ (z : Int32) (M' : fmM), M'.1 0 0 = 2 → Q (.inl (some (.int z))) M') (hq : inL D x → inW y 0 999 → ∀ (r : Int32) (M' : fmM), M'.1 0 0 = 0 → r.toInt = ((ofS D cs S x.toInt.toNat y.toInt.toNat 29 : Nat) : Int) → Q (.inl (some (.int r))) M') : pvGood Tm 21 qX11_often [.ref 0, .int x, .int y] M Q := by
  refine pvGood_of (Nat.le_of_ble_eq_true rfl) ?_
  show pvEv Tm 21 qX11_often 0 [some (.ref 0), some (.int x), some (.int y), none, none] [] M Q
  have hmq := h.z (x := 0)
  obtain ⟨hD, hY, hM, hd, ht, ho⟩ := hmq
  have d8 := hD.1
  have h4 : (M.1 4 0).toInt = (D.1 : Int) := hY.1
  have hl := hD.1
  refine pv_aloadn (pc := 0) (n := 0) 0 rfl rfl (fm_dec dtX11_often 0 rfl) ?_
  refine pv_iconst (pc := 1) (v := 0) (by decide) (fm_dec dtX11_often 1 rfl) ?_
  refine pv_putI (k := 0) (j := 0) (ci := 11) (pc := 2) pfl_X11_101 (by decide) rfl (by decide) (fm_dec dtX11_often 2 rfl) ?_
  refine pv_aloadn (pc := 5) (n := 0) 0 rfl rfl (fm_dec dtX11_often 3 rfl) ?_
  refine pv_aloadn (pc := 6) (n := 0) 0 rfl rfl (fm_dec dtX11_often 4 rfl) ?_
  refine pv_iloadn (pc := 7) (n := 1) 1 rfl rfl (fm_dec dtX11_often 5 rfl) ?_
  refine pv_invV1 (k := 0) (d' := 1) (pc := 8) pcv_X11_331 (by decide) rfl (Nat.le_of_ble_eq_true rfl) (by decide) (fm_dec dtX11_often 6 rfl) ?_
  refine c_isLife (M := fmI M 0 0 0) h4 hl (fun k hk hkl => ?_) (fun hno => ?_)
  · refine pv_then1 ?_
    refine pv_if_ne (pc := 11) 18 (by decide) (fm_dec dtX11_often 7 rfl) (fun _ => ?_) (fun hc11 => by exfalso; revert hc11; decide)
    refine pv_iconst (pc := 18) (v := 0) (by decide) (fm_dec dtX11_often 10 rfl) ?_
    refine pv_iconst (pc := 19) (v := 1) (by decide) (fm_dec dtX11_often 11 rfl) ?_
    refine pv_iconst (pc := 20) (v := 0) (by decide) (fm_dec dtX11_often 12 rfl) ?_
    refine pv_invV3 (k := 0) (d' := 0) (pc := 21) pcv_X11_177 (by decide) rfl (Nat.le_of_ble_eq_true rfl) (by decide) (fm_dec dtX11_often 13 rfl) ?_
    refine c_badF0 rfl ?_
    refine pv_then1 ?_
    refine pv_if_ne (pc := 24) 52 (by decide) (fm_dec dtX11_often 14 rfl) (fun hc24 => by exfalso; revert hc24; decide) (fun _ => ?_)
    have hn : inL D x := ⟨by omega, by omega⟩
    obtain ⟨i, hi, rfl, ei⟩ := hn.n hD
    rw [ei] at hq
    have hi9 : (nI i).toInt = (i : Int) := nI_toInt (by omega)
    have hi8 : i < 8 := (by omega)
    refine pv_aloadn (pc := 27) (n := 0) 0 rfl rfl (fm_dec dtX11_often 15 rfl) ?_
    refine pv_iloadn (pc := 28) (n := 2) 2 rfl rfl (fm_dec dtX11_often 16 rfl) ?_
    refine pv_iconst (pc := 29) (v := 0) (by decide) (fm_dec dtX11_often 17 rfl) ?_
    refine pv_sipush (pc := 30) (v := 999) (by decide) (fm_dec dtX11_often 18 rfl) ?_
    refine pv_iS3 (d' := 0) (pc := 33) pcs_X11_135 (Nat.le_of_ble_eq_true rfl) (by decide) (fm_dec dtX11_often 19 rfl) ?_
    refine c_in (fun h33a h33b => ?_) (fun h33 => ?_)
    · refine pv_then1 ?_
      refine pv_if_ne (pc := 36) 43 (by decide) (fm_dec dtX11_often 20 rfl) (fun _ => ?_) (fun hc36 => by exfalso; revert hc36; decide)
      refine pv_iconst (pc := 43) (v := 0) (by decide) (fm_dec dtX11_often 23 rfl) ?_
      refine pv_iconst (pc := 44) (v := 2) (by decide) (fm_dec dtX11_often 24 rfl) ?_
      refine pv_iconst (pc := 45) (v := 1) (by decide) (fm_dec dtX11_often 25 rfl) ?_
      refine pv_invV3 (k := 0) (d' := 0) (pc := 46) pcv_X11_177 (by decide) rfl (Nat.le_of_ble_eq_true rfl) (by decide) (fm_dec dtX11_often 26 rfl) ?_
      refine c_badF1 rfl ?_
      refine pv_then1 ?_
      refine pv_if_eq (pc := 49) 54 (by decide) (fm_dec dtX11_often 27 rfl) (fun _ => ?_) (fun hc49 => by exfalso; revert hc49; decide)
      have hP : inW y 0 999 := ⟨h33a, h33b⟩
      obtain ⟨c, hc, ec⟩ : ∃ c : Nat, c ≤ 999 ∧ y.toInt = (c : Int) := (by have z0 : (0 : Int32).toInt = 0 := (by decide); have z9 : (999 : Int32).toInt = 999 := (by decide); exact ⟨y.toInt.toNat, by omega, by omega⟩)
      have ecn : y.toInt.toNat = c := (by omega)
      rw [ecn] at hq
      refine pv_iconst (pc := 54) (v := 1) (by decide) (fm_dec dtX11_often 30 rfl) ?_
      refine pv_istoren (pc := 55) (n := 3) 3 rfl (by decide) rfl (fm_dec dtX11_often 31 rfl) ?_
      dsimp only [List.set_cons_zero, List.set_cons_succ]
      refine pv_iconst (pc := 56) (v := 2) (by decide) (fm_dec dtX11_often 32 rfl) ?_
      refine pv_istore (pc := 57) (i := 4) (by decide) rfl (fm_dec dtX11_often 33 rfl) ?_
      dsimp only [List.set_cons_zero, List.set_cons_succ]
      exact (mof_loop hi hc ec 29 0 _ _ _ ⟨⟨hD, hY, hM, hd, ht, ho⟩, rfl⟩ (Nat.zero_le _) rfl (by decide) (by show (1 : Int32).toInt = ((1 : Nat) : Int); decide) (hq hn hP)).up (by decide)
    · refine pv_then1 ?_
      refine pv_if_ne (pc := 36) 43 (by decide) (fm_dec dtX11_often 20 rfl) (fun hc36 => by exfalso; revert hc36; decide) (fun _ => ?_)
      refine pv_iconst (pc := 39) (v := 1) (by decide) (fm_dec dtX11_often 21 rfl) ?_
      refine pv_goto (pc := 40) 44 (by decide) (fm_dec dtX11_often 22 rfl) ?_
      refine pv_iconst (pc := 44) (v := 2) (by decide) (fm_dec dtX11_often 24 rfl) ?_
      refine pv_iconst (pc := 45) (v := 1) (by decide) (fm_dec dtX11_often 25 rfl) ?_
      refine pv_invV3 (k := 0) (d' := 0) (pc := 46) pcv_X11_177 (by decide) rfl (Nat.le_of_ble_eq_true rfl) (by decide) (fm_dec dtX11_often 26 rfl) ?_
      refine c_badT1 rfl (by decide) ?_
      refine pv_then1 ?_
      refine pv_if_eq (pc := 49) 54 (by decide) (fm_dec dtX11_often 27 rfl) (fun hc49 => by exfalso; revert hc49; decide) (fun _ => ?_)
      refine pv_iconst (pc := 52) (v := 0) (by decide) (fm_dec dtX11_often 28 rfl) ?_
      exact pv_ireturn (pc := 53) rfl (fm_dec dtX11_often 29 rfl) (hn2 hn (fun h9 => h33 ⟨h9.1, h9.2⟩) _ _ rfl)
  · refine pv_then1 ?_
    refine pv_if_ne (pc := 11) 18 (by decide) (fm_dec dtX11_often 7 rfl) (fun hc11 => by exfalso; revert hc11; decide) (fun _ => ?_)
    refine pv_iconst (pc := 14) (v := 1) (by decide) (fm_dec dtX11_often 8 rfl) ?_
    refine pv_goto (pc := 15) 19 (by decide) (fm_dec dtX11_often 9 rfl) ?_
    refine pv_iconst (pc := 19) (v := 1) (by decide) (fm_dec dtX11_often 11 rfl) ?_
    refine pv_iconst (pc := 20) (v := 0) (by decide) (fm_dec dtX11_often 12 rfl) ?_
    refine pv_invV3 (k := 0) (d' := 0) (pc := 21) pcv_X11_177 (by decide) rfl (Nat.le_of_ble_eq_true rfl) (by decide) (fm_dec dtX11_often 13 rfl) ?_
    refine c_badT0 rfl (by decide) ?_
    refine pv_then1 ?_
    refine pv_if_ne (pc := 24) 52 (by decide) (fm_dec dtX11_often 14 rfl) (fun _ => ?_) (fun hc24 => by exfalso; revert hc24; decide)
    refine pv_iconst (pc := 52) (v := 0) (by decide) (fm_dec dtX11_often 28 rfl) ?_
    exact pv_ireturn (pc := 53) rfl (fm_dec dtX11_often 29 rfl) (hn1 hno _ _ rfl)
theorem xe_often {M : fmM} {D : dD} {cs : tC} {S : aS} {x y : Int32} (h : xAq M D cs S) : pvGood Tx 250 qX10_often [.ref 0, .int x, .int y] M (fun r _ => (inL D x ∧ (inW y 0 999) ∧ r = .inl (some (.int (iZ (((ofS D cs S x.toInt.toNat y.toInt.toNat 29 : Nat) : Int)))))) ∨ (¬ inL D x ∧ r = .inr fmNSE) ∨ (inL D x ∧ ¬ (inW y 0 999) ∧ r = .inr fmIAE)) := (c_xoften h (fun h => Or.inr (Or.inl ⟨h, rfl⟩)) (fun h h' => Or.inr (Or.inr ⟨h, h', rfl⟩)) (fun h h' r M' e => Or.inl ⟨h, h', by rw [iZ_is e]⟩)).up (by decide)
theorem me_often {M : fmM} {D : dD} {cs : tC} {S : aS} {x y : Int32} (h : mAq M D cs S) : pvGood Tm 250 qX11_often [.ref 0, .int x, .int y] M (fun r M' => (inL D x ∧ (inW y 0 999) ∧ r = .inl (some (.int (iZ (((ofS D cs S x.toInt.toNat y.toInt.toNat 29 : Nat) : Int))))) ∧ M'.1 0 0 = 0) ∨ (¬ inL D x ∧ M'.1 0 0 = 1) ∨ (inL D x ∧ ¬ (inW y 0 999) ∧ M'.1 0 0 = 2)) := (c_moften h (fun h z M' e => Or.inr (Or.inl ⟨h, e⟩)) (fun h h' z M' e => Or.inr (Or.inr ⟨h, h', e⟩)) (fun h h' r M' z e => Or.inl ⟨h, h', by rw [iZ_is e], z⟩)).up (by decide)
