def mdw (M' : fmM) (D : dD) : Prop := (M'.1 4 0).toInt = (D.1 : Int) ∧ (M'.1 4 1).toInt = (D.2.2.1 : Int) ∧ (∀ k, 2 ≤ k → k ≤ 5 → (M'.1 4 k).toInt = D.2.2.2.2 k) ∧ (∀ i, i < D.1 → ∀ j, j < 6 → (M'.1 (35 + i) j).toInt = D.2.1 i j) ∧ ∀ i, i < D.2.2.1 → ∀ j, j < 3 → (M'.1 (67 + i) j).toInt = D.2.2.2.1 i j
-- THE CHAIN, exactly
theorem bc8 : ∀ w, w < 256 → bcF (nI w) = nI (pop8 w) := by decide +kernel
def onF (b : Int32) : Int32 := 0 + (b >>> ((0 : Int32) &&& 31) &&& 1) + (b >>> ((1 : Int32) &&& 31) &&& 1) + (b >>> ((2 : Int32) &&& 31) &&& 1) + (b >>> ((3 : Int32) &&& 31) &&& 1) + (b >>> ((4 : Int32) &&& 31) &&& 1) + (b >>> ((5 : Int32) &&& 31) &&& 1) + (b >>> ((6 : Int32) &&& 31) &&& 1) + (b >>> ((7 : Int32) &&& 31) &&& 1)
theorem on8 : ∀ w, w < 256 → onF (nI w) = nI (pop8 w) := by decide +kernel
theorem full8 : ∀ w, w < 256 → pop8 w = 8 → ∀ k, k < 8 → w.testBit k = true := by decide +kernel
theorem has8z : ∀ w, w < 256 → ∀ k, k < 8 → ((nI w >>> (nI k &&& 31) &&& 1) = (0 : Int32) ↔ w.testBit k = false) := by decide +kernel
theorem pop8_1 : ∀ k, k < 8 → pop8 (1 <<< k) = 1 := by decide +kernel
def chS (b : Nat → Int) : Nat → Nat → Nat → Nat × Nat
  | 0, s, l => (s, l)
  | f + 1, s, l => if b l < 0 then (s, l) else if s.testBit (b l).toNat then (s, l) else chS b f (s ||| 1 <<< (b l).toNat) (b l).toNat
theorem ch_no {b : Nat → Int} {m s l : Nat} (h : b l < 0) : chS b m s l = (s, l) := by
  cases m with
  | zero => rfl
  | succ f => exact if_pos h
theorem ch_has {b : Nat → Int} {m s l k : Nat} (h : b l = (k : Int)) (ht : s.testBit k = true) : chS b m s l = (s, l) := by
  cases m with
  | zero => rfl
  | succ f =>
    show (if b l < 0 then (s, l) else if s.testBit (b l).toNat then (s, l) else chS b f (s ||| 1 <<< (b l).toNat) (b l).toNat) = (s, l)
    rw [if_neg (by omega), h, Int.toNat_natCast, if_pos ht]
theorem ch_go {b : Nat → Int} {f s l k : Nat} (h : b l = (k : Int)) (ht : s.testBit k = false) : chS b (f + 1) s l = chS b f (s ||| 1 <<< k) k := by
  show (if b l < 0 then (s, l) else if s.testBit (b l).toNat then (s, l) else chS b f (s ||| 1 <<< (b l).toNat) (b l).toNat) = _
  rw [if_neg (by omega), h, Int.toNat_natCast, if_neg (by rw [ht]; decide)]
def chR (p : Nat × Nat) (what : Int32) : Int32 := if what = 0 then nI (pop8 p.1) else nI p.2
theorem chR_s {p : Nat × Nat} {what : Int32} (h : what = 0) : chR p what = nI (pop8 p.1) := if_pos h
theorem chR_l {p : Nat × Nat} {what : Int32} (h : ¬ what = 0) : chR p what = nI p.2 := if_neg h
def chB (D : dD) : Nat → Int := fun i => D.2.1 i 5
def chV (D : dD) (x what : Int32) : Int32 := chR (chS (chB D) 7 (1 <<< x.toInt.toNat) x.toInt.toNat) what
theorem by_d {D : dD} {l : Nat} {x : Int32} (hD : dOk D) (hl : l < D.1) (hx : x.toInt = chB D l) (h : ¬ chB D l < 0) : ∃ k : Nat, k < D.1 ∧ k < 8 ∧ chB D l = (k : Int) ∧ x = nI k := by
  have h1 := (hD.2.2.1 l hl).2.2.2.2.2
  have h8 := hD.1
  have e : D.2.1 l 5 = chB D l := rfl
  rw [e] at h1
  exact ⟨(chB D l).toNat, by omega, by omega, by omega, nI_is (by omega) (by omega)⟩
theorem glueN {A : Prop} {v : fmR} {r r2 : fmR} {M : fmM} (hv : ∃ x, v = .inl x) (h : (A ∧ r = v) ∨ (¬ A ∧ r = .inr fmNSE)) (h2 : (A ∧ r2 = v ∧ M.1 0 0 = 0) ∨ (¬ A ∧ M.1 0 0 = 1)) : mtI 0 1 r r2 M := by
  obtain ⟨x, rfl⟩ := hv
  rcases h with ⟨a, rfl⟩ | ⟨a, rfl⟩ <;> rcases h2 with ⟨a2, e2, t⟩ | ⟨a2, t⟩
  · exact ⟨t, e2⟩
  · exact absurd a a2
  · exact absurd a2 a
  · exact ⟨fun h => absurd h (by decide), fun _ => t⟩
theorem glueL {A B : Prop} {v : fmR} {r r2 : fmR} {M : fmM} (hv : ∃ x, v = .inl x) (h : (A ∧ B ∧ r = v) ∨ (¬ A ∧ r = .inr fmNSE) ∨ (A ∧ ¬ B ∧ r = .inr fmIAE)) (h2 : (A ∧ B ∧ r2 = v ∧ M.1 0 0 = 0) ∨ (¬ A ∧ M.1 0 0 = 1) ∨ (A ∧ ¬ B ∧ M.1 0 0 = 2)) : mtI 2 1 r r2 M := by
  obtain ⟨x, rfl⟩ := hv
  rcases h with ⟨a, b, rfl⟩ | ⟨a, rfl⟩ | ⟨a, b, rfl⟩ <;> rcases h2 with ⟨a2, b2, e2, t⟩ | ⟨a2, t⟩ | ⟨a2, b2, t⟩
  · exact ⟨t, e2⟩
  · exact absurd a a2
  · exact absurd b b2
  · exact absurd a2 a
  · exact ⟨fun h => absurd h (by decide), fun _ => t⟩
  · exact absurd a2 a
  · exact absurd b2 b
  · exact absurd a a2
  · exact ⟨fun _ => t, fun h => absurd h (by decide)⟩
/-- a life that is told -/
def inL (D : dD) (x : Int32) : Prop := 0 ≤ x.toInt ∧ x.toInt < (D.1 : Int)
set_option maxRecDepth 20000 in
theorem c_needL {M : fmM} {Q : fmR → fmM → Prop} {x : Int32} (ht : 0 ≤ x.toInt → x.toInt < (M.1 3 9).toInt → Q (.inl none) M) (hf : ¬ (0 ≤ x.toInt ∧ x.toInt < (M.1 3 9).toInt) → Q (.inr fmNSE) (fmI M 0 15 (M.1 0 15 + 1))) : pvGood Tx 0 qX10_needLife [.ref 0, .int x] M Q := by
  refine pvGood_of (Nat.le_of_ble_eq_true rfl) ?_
  show pvEv Tx 0 qX10_needLife 0 [some (.ref 0), some (.int x)] [] M Q
  have z0 : (0 : Int32).toInt = 0 := (by decide)
  refine pv_iloadn (pc := 0) (n := 1) 1 rfl rfl (fm_dec dtX10_needLife 0 rfl) ?_
  refine pv_if_lt (pc := 1) 15 (by decide) (fm_dec dtX10_needLife 1 rfl) (fun hc1 => ?_) (fun hc1 => ?_)
  · refine pv_aloadn (pc := 15) (n := 0) 0 rfl rfl (fm_dec dtX10_needLife 7 rfl) ?_
    refine pv_dup (pc := 16) rfl (fm_dec dtX10_needLife 8 rfl) ?_
    refine pv_getI (k := 0) (j := 15) (ci := 10) (pc := 17) pfl_X10_363 (by decide) rfl (by decide) (fm_dec dtX10_needLife 9 rfl) ?_
    refine pv_iconst (pc := 20) (v := 1) (by decide) (fm_dec dtX10_needLife 10 rfl) ?_
    refine pv_iadd (pc := 21) (fm_dec dtX10_needLife 11 rfl) ?_
    refine pv_putI (k := 0) (j := 15) (ci := 10) (pc := 22) pfl_X10_363 (by decide) rfl (by decide) (fm_dec dtX10_needLife 12 rfl) ?_
    exact pv_thrN (pc := 25) pvK_10 (fm_dec dtX10_needLife 13 rfl) (fm_dec dtX10_needLife 14 rfl) (fm_dec dtX10_needLife 15 rfl) (fm_dec dtX10_needLife 16 rfl) (fm_dec dtX10_needLife 17 rfl) (hf (by intro h9; first | (rw [sc_lt] at hc1; omega) | (rw [sc_lt] at hc12; exact hc12 h9.2)))
  · refine pv_iloadn (pc := 4) (n := 1) 1 rfl rfl (fm_dec dtX10_needLife 2 rfl) ?_
    refine pv_aloadn (pc := 5) (n := 0) 0 rfl rfl (fm_dec dtX10_needLife 3 rfl) ?_
    refine pv_getR (k := 0) (j := 1) (ci := 10) (pc := 6) 3 rfl (by decide) pfl_X10_19 (by decide) rfl (by decide) (fm_dec dtX10_needLife 4 rfl) ?_
    refine pv_getI (k := 3) (j := 9) (ci := 8) (pc := 9) pfl_X10_138 (by decide) rfl (by decide) (fm_dec dtX10_needLife 5 rfl) ?_
    refine pv_icmp_lt (pc := 12) 36 (by decide) (fm_dec dtX10_needLife 6 rfl) (fun hc12 => ?_) (fun hc12 => ?_)
    · exact pv_return (pc := 36) rfl (fm_dec dtX10_needLife 18 rfl) (ht (by rw [sc_lt] at hc1; omega) (by rw [sc_lt] at hc12; exact hc12))
    · refine pv_aloadn (pc := 15) (n := 0) 0 rfl rfl (fm_dec dtX10_needLife 7 rfl) ?_
      refine pv_dup (pc := 16) rfl (fm_dec dtX10_needLife 8 rfl) ?_
      refine pv_getI (k := 0) (j := 15) (ci := 10) (pc := 17) pfl_X10_363 (by decide) rfl (by decide) (fm_dec dtX10_needLife 9 rfl) ?_
      refine pv_iconst (pc := 20) (v := 1) (by decide) (fm_dec dtX10_needLife 10 rfl) ?_
      refine pv_iadd (pc := 21) (fm_dec dtX10_needLife 11 rfl) ?_
      refine pv_putI (k := 0) (j := 15) (ci := 10) (pc := 22) pfl_X10_363 (by decide) rfl (by decide) (fm_dec dtX10_needLife 12 rfl) ?_
      exact pv_thrN (pc := 25) pvK_10 (fm_dec dtX10_needLife 13 rfl) (fm_dec dtX10_needLife 14 rfl) (fm_dec dtX10_needLife 15 rfl) (fm_dec dtX10_needLife 16 rfl) (fm_dec dtX10_needLife 17 rfl) (hf (by intro h9; first | (rw [sc_lt] at hc1; omega) | (rw [sc_lt] at hc12; exact hc12 h9.2)))
theorem c_bits8 {M : fmM} {Q : fmR → fmM → Prop} {w : Nat} (hw : w < 256) (hq : Q (.inl (some (.int (nI (pop8 w))))) M) : pvGood Tx 0 qJ6_bitCount_0f7a4 [.int (nI w)] M Q := c_bits (by rw [bc8 w hw]; exact hq)
set_option maxRecDepth 20000 in
theorem xc_end {Q : fmR → fmM → Prop} {M : fmM} {li wh : Int32} {w l : Nat} {v5 v6 : Option Value} (hw : w < 256) (hq : Q (.inl (some (.int (chR (w, l) wh)))) M) : pvEv Tx 1 qX10_chain 87 [some (.ref 0), some (.int li), some (.int wh), some (.int (nI w)), some (.int (nI l)), v5, v6] [] M Q := by
  refine pv_iloadn (pc := 87) (n := 2) 2 rfl rfl (fm_dec dtX10_chain 49 rfl) ?_
  refine pv_if_ne (pc := 88) 98 (by decide) (fm_dec dtX10_chain 50 rfl) (fun hc88 => ?_) (fun hc88 => ?_)
  · refine pv_iload (pc := 98) (i := 4) rfl (fm_dec dtX10_chain 54 rfl) ?_
    exact pv_ireturn (pc := 100) rfl (fm_dec dtX10_chain 55 rfl) (by rw [chR_l hc88] at hq; exact hq)
  · refine pv_iloadn (pc := 91) (n := 3) 3 rfl rfl (fm_dec dtX10_chain 51 rfl) ?_
    refine pv_iS1 (d' := 0) (pc := 92) pcs_X10_182 (Nat.le_of_ble_eq_true rfl) (by decide) (fm_dec dtX10_chain 52 rfl) ?_
    refine c_bits8 hw ?_
    refine pv_then1 ?_
    refine pv_goto (pc := 95) 100 (by decide) (fm_dec dtX10_chain 53 rfl) ?_
    exact pv_ireturn (pc := 100) rfl (fm_dec dtX10_chain 55 rfl) (by rw [chR_s hc88] at hq; exact hq)
set_option maxRecDepth 20000 in
theorem xc_loop {Q : fmR → fmM → Prop} {M : fmM} {li wh : Int32} {D : dD} (hD : dOk D) (hX : xdw 3 M D) : ∀ (m : Nat) (w l : Nat) (i : Int32) (v6 : Option Value), w < 256 → 8 - pop8 w = m → l < D.1 → i.toInt + m = 7 → Q (.inl (some (.int (chR (chS (chB D) m w l) wh)))) M → pvEv Tx 1 qX10_chain 22 [some (.ref 0), some (.int li), some (.int wh), some (.int (nI w)), some (.int (nI l)), some (.int i), v6] [] M Q := by
  intro m
  induction m using Nat.strongRecOn with
  | _ m ih =>
    intro w l i v6 hw hm hl hi hq
    refine pv_iload (pc := 22) (i := 5) rfl (fm_dec dtX10_chain 16 rfl) ?_
    refine pv_bipush (pc := 24) (v := 8) (by decide) (fm_dec dtX10_chain 17 rfl) ?_
    refine pv_icmp_ge (pc := 26) 87 (by decide) (fm_dec dtX10_chain 18 rfl) (fun hc26 => by exfalso; rw [sc_le] at hc26; have z8 : (8 : Int32).toInt = 8 := (by decide); have h9 := pop8_le w hw; omega) (fun _ => ?_)
    have d8 := hD.1
    have hl8 : l < 8 := (by omega)
    have hl9 : (nI l).toInt = (l : Int) := nI_toInt (by omega)
    have hx9 : (M.1 9 l).toInt = chB D l := hX.2.1 l hl 5 (by decide)
    have z0 : (0 : Int32).toInt = 0 := (by decide)
    refine pv_aloadn (pc := 29) (n := 0) 0 rfl rfl (fm_dec dtX10_chain 19 rfl) ?_
    refine pv_getR (k := 0) (j := 1) (ci := 10) (pc := 30) 3 rfl (by decide) pfl_X10_19 (by decide) rfl (by decide) (fm_dec dtX10_chain 20 rfl) ?_
    refine pv_getR (k := 3) (j := 5) (ci := 8) (pc := 33) 9 rfl (by decide) pfl_X10_222 (by decide) rfl (by decide) (fm_dec dtX10_chain 21 rfl) ?_
    refine pv_iload (pc := 36) (i := 4) rfl (fm_dec dtX10_chain 22 rfl) ?_
    refine pv_iald (k := 9) (n := 8) (pc := 38) (by decide) rfl rfl (ix_in hl9 hl8) (fm_dec dtX10_chain 23 rfl) ?_
    rw [i32_cl hl9]
    refine pv_istore (pc := 39) (i := 6) (by decide) rfl (fm_dec dtX10_chain 24 rfl) ?_
    dsimp only [List.set_cons_zero, List.set_cons_succ]
    refine pv_iload (pc := 41) (i := 6) rfl (fm_dec dtX10_chain 25 rfl) ?_
    refine pv_if_lt (pc := 43) 87 (by decide) (fm_dec dtX10_chain 26 rfl) (fun hc43 => ?_) (fun hc43 => ?_)
    · have e5 : chS (chB D) m w l = (w, l) := ch_no (by rw [sc_lt] at hc43; omega)
      rw [e5] at hq
      exact xc_end hw hq
    · obtain ⟨k, hk, hk8, hkb, hkx⟩ := by_d hD hl hx9 (by rw [sc_lt] at hc43; omega)
      rw [hkx]
      refine pv_iload (pc := 46) (i := 6) rfl (fm_dec dtX10_chain 27 rfl) ?_
      refine pv_aloadn (pc := 48) (n := 0) 0 rfl rfl (fm_dec dtX10_chain 28 rfl) ?_
      refine pv_getR (k := 0) (j := 1) (ci := 10) (pc := 49) 3 rfl (by decide) pfl_X10_19 (by decide) rfl (by decide) (fm_dec dtX10_chain 29 rfl) ?_
      refine pv_getI (k := 3) (j := 9) (ci := 8) (pc := 52) pfl_X10_138 (by decide) rfl (by decide) (fm_dec dtX10_chain 30 rfl) ?_
      refine pv_icmp_ge (pc := 55) 87 (by decide) (fm_dec dtX10_chain 31 rfl) (fun hc55 => by exfalso; rw [sc_le] at hc55; have h9 : (M.1 3 9).toInt = (D.1 : Int) := hX.1.1; have h8 : (nI k).toInt = (k : Int) := nI_toInt (by omega); omega) (fun _ => ?_)
      refine pv_iloadn (pc := 58) (n := 3) 3 rfl rfl (fm_dec dtX10_chain 32 rfl) ?_
      refine pv_iload (pc := 59) (i := 6) rfl (fm_dec dtX10_chain 33 rfl) ?_
      refine pv_ishr (pc := 61) (fm_dec dtX10_chain 34 rfl) ?_
      refine pv_iconst (pc := 62) (v := 1) (by decide) (fm_dec dtX10_chain 35 rfl) ?_
      refine pv_iand (pc := 63) (fm_dec dtX10_chain 36 rfl) ?_
      refine pv_if_eq (pc := 64) 70 (by decide) (fm_dec dtX10_chain 37 rfl) (fun hc64 => ?_) (fun hc64 => ?_)
      · refine pv_iloadn (pc := 70) (n := 3) 3 rfl rfl (fm_dec dtX10_chain 39 rfl) ?_
        refine pv_iconst (pc := 71) (v := 1) (by decide) (fm_dec dtX10_chain 40 rfl) ?_
        refine pv_iload (pc := 72) (i := 6) rfl (fm_dec dtX10_chain 41 rfl) ?_
        refine pv_ishl (pc := 74) (fm_dec dtX10_chain 42 rfl) ?_
        refine pv_ior (pc := 75) (fm_dec dtX10_chain 43 rfl) ?_
        refine pv_istoren (pc := 76) (n := 3) 3 rfl (by decide) rfl (fm_dec dtX10_chain 44 rfl) ?_
        dsimp only [List.set_cons_zero, List.set_cons_succ]
        refine pv_iload (pc := 77) (i := 6) rfl (fm_dec dtX10_chain 45 rfl) ?_
        refine pv_istore (pc := 79) (i := 4) (by decide) rfl (fm_dec dtX10_chain 46 rfl) ?_
        dsimp only [List.set_cons_zero, List.set_cons_succ]
        refine pv_iincc (pc := 81) 5 1 (by decide) rfl (by decide) rfl (fm_dec dtX10_chain 47 rfl) ?_
        dsimp only [List.set_cons_zero, List.set_cons_succ]
        refine pv_goto (pc := 84) 22 (by decide) (fm_dec dtX10_chain 48 rfl) ?_
        have ht : w.testBit k = false := (has8z w hw k hk8).mp hc64
        have hp := pop8_add w hw k hk8 ht
        have hle := pop8_le _ hp.2
        obtain ⟨f, rfl⟩ : ∃ f, m = f + 1 := ⟨m - 1, by omega⟩
        rw [ch_go hkb ht] at hq
        rw [or8 w hw k hk8]
        exact ih f (by omega) (w ||| 1 <<< k) k (i + 1) _ hp.2 (by omega) hk (by have h9 : (i + 1).toInt = i.toInt + 1 := (by have z1 : (1 : Int32).toInt = 1 := (by decide); rw [sc_add (by omega) (by omega)]; omega); omega) hq
      · refine pv_goto (pc := 67) 87 (by decide) (fm_dec dtX10_chain 38 rfl) ?_
        have ht : w.testBit k = true := (by cases h9 : w.testBit k with | true => rfl | false => exact absurd ((has8z w hw k hk8).mpr h9) hc64)
        have e5 : chS (chB D) m w l = (w, l) := ch_has hkb ht
        rw [e5] at hq
        exact xc_end hw hq
set_option maxRecDepth 20000 in
theorem c_xchain {M : fmM} {Q : fmR → fmM → Prop} {li wh : Int32} {D : dD} (hD : dOk D) (hX : xdw 3 M D) (hn1 : ¬ inL D li → Q (.inr fmNSE) (fmI M 0 15 (M.1 0 15 + 1))) (hn2 : inL D li → ¬ inW wh 0 1 → Q (.inr fmIAE) (fmI M 0 16 (M.1 0 16 + 1))) (hq : inL D li → inW wh 0 1 → Q (.inl (some (.int (chV D li wh)))) M) : pvGood Tx 1 qX10_chain [.ref 0, .int li, .int wh] M Q := by
  refine pvGood_of (Nat.le_of_ble_eq_true rfl) ?_
  show pvEv Tx 1 qX10_chain 0 [some (.ref 0), some (.int li), some (.int wh), none, none, none, none] [] M Q
  have hl9 : (M.1 3 9).toInt = (D.1 : Int) := hX.1.1
  have d8 := hD.1
  refine pv_aloadn (pc := 0) (n := 0) 0 rfl rfl (fm_dec dtX10_chain 0 rfl) ?_
  refine pv_iloadn (pc := 1) (n := 1) 1 rfl rfl (fm_dec dtX10_chain 1 rfl) ?_
  refine pv_invV1 (k := 0) (d' := 0) (pc := 2) pcv_X10_197 (by decide) rfl (Nat.le_of_ble_eq_true rfl) (by decide) (fm_dec dtX10_chain 2 rfl) ?_
  refine c_needL (fun h2a h2b => ?_) (fun h2 => ?_)
  · refine pv_then0 ?_
    refine pv_aloadn (pc := 5) (n := 0) 0 rfl rfl (fm_dec dtX10_chain 3 rfl) ?_
    refine pv_iloadn (pc := 6) (n := 2) 2 rfl rfl (fm_dec dtX10_chain 4 rfl) ?_
    refine pv_iconst (pc := 7) (v := 0) (by decide) (fm_dec dtX10_chain 5 rfl) ?_
    refine pv_iconst (pc := 8) (v := 1) (by decide) (fm_dec dtX10_chain 6 rfl) ?_
    refine pv_invV3 (k := 0) (d' := 0) (pc := 9) pcv_X10_169 (by decide) rfl (Nat.le_of_ble_eq_true rfl) (by decide) (fm_dec dtX10_chain 7 rfl) ?_
    refine c_needW (fun h9a h9b => ?_) (fun h9 => ?_)
    · refine pv_then0 ?_
      refine pv_iconst (pc := 12) (v := 1) (by decide) (fm_dec dtX10_chain 8 rfl) ?_
      refine pv_iloadn (pc := 13) (n := 1) 1 rfl rfl (fm_dec dtX10_chain 9 rfl) ?_
      refine pv_ishl (pc := 14) (fm_dec dtX10_chain 10 rfl) ?_
      refine pv_istoren (pc := 15) (n := 3) 3 rfl (by decide) rfl (fm_dec dtX10_chain 11 rfl) ?_
      dsimp only [List.set_cons_zero, List.set_cons_succ]
      refine pv_iloadn (pc := 16) (n := 1) 1 rfl rfl (fm_dec dtX10_chain 12 rfl) ?_
      refine pv_istore (pc := 17) (i := 4) (by decide) rfl (fm_dec dtX10_chain 13 rfl) ?_
      dsimp only [List.set_cons_zero, List.set_cons_succ]
      refine pv_iconst (pc := 19) (v := 0) (by decide) (fm_dec dtX10_chain 14 rfl) ?_
      refine pv_istore (pc := 20) (i := 5) (by decide) rfl (fm_dec dtX10_chain 15 rfl) ?_
      dsimp only [List.set_cons_zero, List.set_cons_succ]
      have hn : inL D li := ⟨h2a, by omega⟩
      obtain ⟨k, hk⟩ : ∃ k : Nat, li.toInt = (k : Int) := ⟨li.toInt.toNat, by omega⟩
      have ek : li.toInt.toNat = k := (by omega)
      have q9 := hq hn ⟨h9a, h9b⟩
      unfold chV at q9
      rw [ek] at q9
      have hli : li = nI k := nI_is hk (by omega)
      subst hli
      rw [(one8 k (by omega)).1]
      exact xc_loop hD hX 7 (1 <<< k) k 0 _ (one8 k (by omega)).2 (by rw [pop8_1 k (by omega)]) (by omega) (by decide) q9
    · refine pv_thenX ?_
      first | exact hn2 ⟨h2a, by omega⟩ h9 | exact hn1 (fun h8 => h2 ⟨h8.1, by have := h8.2; omega⟩)
  · refine pv_thenX ?_
    first | exact hn2 ⟨h2a, by omega⟩ h9 | exact hn1 (fun h8 => h2 ⟨h8.1, by have := h8.2; omega⟩)
set_option maxRecDepth 20000 in
theorem c_onesF {M : fmM} {Q : fmR → fmM → Prop} {b : Int32} (hq : Q (.inl (some (.int (onF b)))) M) : pvGood Tm 0 qX11_ones [.int b] M Q := by
  refine pvGood_of (Nat.le_of_ble_eq_true rfl) ?_
  show pvEv Tm 0 qX11_ones 0 [some (.int b), none, none] [] M Q
  refine pv_iconst (pc := 0) (v := 0) (by decide) (fm_dec dtX11_ones 0 rfl) ?_
  refine pv_istoren (pc := 1) (n := 1) 1 rfl (by decide) rfl (fm_dec dtX11_ones 1 rfl) ?_
  dsimp only [List.set_cons_zero, List.set_cons_succ]
  refine pv_iconst (pc := 2) (v := 0) (by decide) (fm_dec dtX11_ones 2 rfl) ?_
  refine pv_istoren (pc := 3) (n := 2) 2 rfl (by decide) rfl (fm_dec dtX11_ones 3 rfl) ?_
  dsimp only [List.set_cons_zero, List.set_cons_succ]
  refine pv_iloadn (pc := 4) (n := 2) 2 rfl rfl (fm_dec dtX11_ones 4 rfl) ?_
  refine pv_bipush (pc := 5) (v := 8) (by decide) (fm_dec dtX11_ones 5 rfl) ?_
  refine pv_icmp_ge (pc := 7) 24 (by decide) (fm_dec dtX11_ones 6 rfl) (fun hc7 => by exfalso; revert hc7; decide) (fun _ => ?_)
  refine pv_iloadn (pc := 10) (n := 1) 1 rfl rfl (fm_dec dtX11_ones 7 rfl) ?_
  refine pv_iloadn (pc := 11) (n := 0) 0 rfl rfl (fm_dec dtX11_ones 8 rfl) ?_
  refine pv_iloadn (pc := 12) (n := 2) 2 rfl rfl (fm_dec dtX11_ones 9 rfl) ?_
  refine pv_ishr (pc := 13) (fm_dec dtX11_ones 10 rfl) ?_
  refine pv_iconst (pc := 14) (v := 1) (by decide) (fm_dec dtX11_ones 11 rfl) ?_
  refine pv_iand (pc := 15) (fm_dec dtX11_ones 12 rfl) ?_
  refine pv_iadd (pc := 16) (fm_dec dtX11_ones 13 rfl) ?_
  refine pv_istoren (pc := 17) (n := 1) 1 rfl (by decide) rfl (fm_dec dtX11_ones 14 rfl) ?_
  dsimp only [List.set_cons_zero, List.set_cons_succ]
  refine pv_iincc (pc := 18) 2 1 (by decide) rfl (by decide) rfl (fm_dec dtX11_ones 15 rfl) ?_
  dsimp only [List.set_cons_zero, List.set_cons_succ]
  rw [show (0 : Int32) + 1 = 1 by decide]
  refine pv_goto (pc := 21) 4 (by decide) (fm_dec dtX11_ones 16 rfl) ?_
  refine pv_iloadn (pc := 4) (n := 2) 2 rfl rfl (fm_dec dtX11_ones 4 rfl) ?_
  refine pv_bipush (pc := 5) (v := 8) (by decide) (fm_dec dtX11_ones 5 rfl) ?_
  refine pv_icmp_ge (pc := 7) 24 (by decide) (fm_dec dtX11_ones 6 rfl) (fun hc7 => by exfalso; revert hc7; decide) (fun _ => ?_)
  refine pv_iloadn (pc := 10) (n := 1) 1 rfl rfl (fm_dec dtX11_ones 7 rfl) ?_
  refine pv_iloadn (pc := 11) (n := 0) 0 rfl rfl (fm_dec dtX11_ones 8 rfl) ?_
  refine pv_iloadn (pc := 12) (n := 2) 2 rfl rfl (fm_dec dtX11_ones 9 rfl) ?_
  refine pv_ishr (pc := 13) (fm_dec dtX11_ones 10 rfl) ?_
  refine pv_iconst (pc := 14) (v := 1) (by decide) (fm_dec dtX11_ones 11 rfl) ?_
  refine pv_iand (pc := 15) (fm_dec dtX11_ones 12 rfl) ?_
  refine pv_iadd (pc := 16) (fm_dec dtX11_ones 13 rfl) ?_
  refine pv_istoren (pc := 17) (n := 1) 1 rfl (by decide) rfl (fm_dec dtX11_ones 14 rfl) ?_
  dsimp only [List.set_cons_zero, List.set_cons_succ]
  refine pv_iincc (pc := 18) 2 1 (by decide) rfl (by decide) rfl (fm_dec dtX11_ones 15 rfl) ?_
  dsimp only [List.set_cons_zero, List.set_cons_succ]
  rw [show (1 : Int32) + 1 = 2 by decide]
  refine pv_goto (pc := 21) 4 (by decide) (fm_dec dtX11_ones 16 rfl) ?_
  refine pv_iloadn (pc := 4) (n := 2) 2 rfl rfl (fm_dec dtX11_ones 4 rfl) ?_
  refine pv_bipush (pc := 5) (v := 8) (by decide) (fm_dec dtX11_ones 5 rfl) ?_
  refine pv_icmp_ge (pc := 7) 24 (by decide) (fm_dec dtX11_ones 6 rfl) (fun hc7 => by exfalso; revert hc7; decide) (fun _ => ?_)
  refine pv_iloadn (pc := 10) (n := 1) 1 rfl rfl (fm_dec dtX11_ones 7 rfl) ?_
  refine pv_iloadn (pc := 11) (n := 0) 0 rfl rfl (fm_dec dtX11_ones 8 rfl) ?_
  refine pv_iloadn (pc := 12) (n := 2) 2 rfl rfl (fm_dec dtX11_ones 9 rfl) ?_
  refine pv_ishr (pc := 13) (fm_dec dtX11_ones 10 rfl) ?_
  refine pv_iconst (pc := 14) (v := 1) (by decide) (fm_dec dtX11_ones 11 rfl) ?_
  refine pv_iand (pc := 15) (fm_dec dtX11_ones 12 rfl) ?_
  refine pv_iadd (pc := 16) (fm_dec dtX11_ones 13 rfl) ?_
  refine pv_istoren (pc := 17) (n := 1) 1 rfl (by decide) rfl (fm_dec dtX11_ones 14 rfl) ?_
  dsimp only [List.set_cons_zero, List.set_cons_succ]
  refine pv_iincc (pc := 18) 2 1 (by decide) rfl (by decide) rfl (fm_dec dtX11_ones 15 rfl) ?_
  dsimp only [List.set_cons_zero, List.set_cons_succ]
  rw [show (2 : Int32) + 1 = 3 by decide]
  refine pv_goto (pc := 21) 4 (by decide) (fm_dec dtX11_ones 16 rfl) ?_
  refine pv_iloadn (pc := 4) (n := 2) 2 rfl rfl (fm_dec dtX11_ones 4 rfl) ?_
  refine pv_bipush (pc := 5) (v := 8) (by decide) (fm_dec dtX11_ones 5 rfl) ?_
  refine pv_icmp_ge (pc := 7) 24 (by decide) (fm_dec dtX11_ones 6 rfl) (fun hc7 => by exfalso; revert hc7; decide) (fun _ => ?_)
  refine pv_iloadn (pc := 10) (n := 1) 1 rfl rfl (fm_dec dtX11_ones 7 rfl) ?_
  refine pv_iloadn (pc := 11) (n := 0) 0 rfl rfl (fm_dec dtX11_ones 8 rfl) ?_
  refine pv_iloadn (pc := 12) (n := 2) 2 rfl rfl (fm_dec dtX11_ones 9 rfl) ?_
  refine pv_ishr (pc := 13) (fm_dec dtX11_ones 10 rfl) ?_
  refine pv_iconst (pc := 14) (v := 1) (by decide) (fm_dec dtX11_ones 11 rfl) ?_
  refine pv_iand (pc := 15) (fm_dec dtX11_ones 12 rfl) ?_
  refine pv_iadd (pc := 16) (fm_dec dtX11_ones 13 rfl) ?_
  refine pv_istoren (pc := 17) (n := 1) 1 rfl (by decide) rfl (fm_dec dtX11_ones 14 rfl) ?_
  dsimp only [List.set_cons_zero, List.set_cons_succ]
  refine pv_iincc (pc := 18) 2 1 (by decide) rfl (by decide) rfl (fm_dec dtX11_ones 15 rfl) ?_
  dsimp only [List.set_cons_zero, List.set_cons_succ]
  rw [show (3 : Int32) + 1 = 4 by decide]
  refine pv_goto (pc := 21) 4 (by decide) (fm_dec dtX11_ones 16 rfl) ?_
  refine pv_iloadn (pc := 4) (n := 2) 2 rfl rfl (fm_dec dtX11_ones 4 rfl) ?_
  refine pv_bipush (pc := 5) (v := 8) (by decide) (fm_dec dtX11_ones 5 rfl) ?_
  refine pv_icmp_ge (pc := 7) 24 (by decide) (fm_dec dtX11_ones 6 rfl) (fun hc7 => by exfalso; revert hc7; decide) (fun _ => ?_)
  refine pv_iloadn (pc := 10) (n := 1) 1 rfl rfl (fm_dec dtX11_ones 7 rfl) ?_
  refine pv_iloadn (pc := 11) (n := 0) 0 rfl rfl (fm_dec dtX11_ones 8 rfl) ?_
  refine pv_iloadn (pc := 12) (n := 2) 2 rfl rfl (fm_dec dtX11_ones 9 rfl) ?_
  refine pv_ishr (pc := 13) (fm_dec dtX11_ones 10 rfl) ?_
  refine pv_iconst (pc := 14) (v := 1) (by decide) (fm_dec dtX11_ones 11 rfl) ?_
  refine pv_iand (pc := 15) (fm_dec dtX11_ones 12 rfl) ?_
  refine pv_iadd (pc := 16) (fm_dec dtX11_ones 13 rfl) ?_
  refine pv_istoren (pc := 17) (n := 1) 1 rfl (by decide) rfl (fm_dec dtX11_ones 14 rfl) ?_
  dsimp only [List.set_cons_zero, List.set_cons_succ]
  refine pv_iincc (pc := 18) 2 1 (by decide) rfl (by decide) rfl (fm_dec dtX11_ones 15 rfl) ?_
  dsimp only [List.set_cons_zero, List.set_cons_succ]
  rw [show (4 : Int32) + 1 = 5 by decide]
  refine pv_goto (pc := 21) 4 (by decide) (fm_dec dtX11_ones 16 rfl) ?_
  refine pv_iloadn (pc := 4) (n := 2) 2 rfl rfl (fm_dec dtX11_ones 4 rfl) ?_
  refine pv_bipush (pc := 5) (v := 8) (by decide) (fm_dec dtX11_ones 5 rfl) ?_
  refine pv_icmp_ge (pc := 7) 24 (by decide) (fm_dec dtX11_ones 6 rfl) (fun hc7 => by exfalso; revert hc7; decide) (fun _ => ?_)
  refine pv_iloadn (pc := 10) (n := 1) 1 rfl rfl (fm_dec dtX11_ones 7 rfl) ?_
  refine pv_iloadn (pc := 11) (n := 0) 0 rfl rfl (fm_dec dtX11_ones 8 rfl) ?_
  refine pv_iloadn (pc := 12) (n := 2) 2 rfl rfl (fm_dec dtX11_ones 9 rfl) ?_
  refine pv_ishr (pc := 13) (fm_dec dtX11_ones 10 rfl) ?_
  refine pv_iconst (pc := 14) (v := 1) (by decide) (fm_dec dtX11_ones 11 rfl) ?_
  refine pv_iand (pc := 15) (fm_dec dtX11_ones 12 rfl) ?_
  refine pv_iadd (pc := 16) (fm_dec dtX11_ones 13 rfl) ?_
  refine pv_istoren (pc := 17) (n := 1) 1 rfl (by decide) rfl (fm_dec dtX11_ones 14 rfl) ?_
  dsimp only [List.set_cons_zero, List.set_cons_succ]
  refine pv_iincc (pc := 18) 2 1 (by decide) rfl (by decide) rfl (fm_dec dtX11_ones 15 rfl) ?_
  dsimp only [List.set_cons_zero, List.set_cons_succ]
  rw [show (5 : Int32) + 1 = 6 by decide]
  refine pv_goto (pc := 21) 4 (by decide) (fm_dec dtX11_ones 16 rfl) ?_
  refine pv_iloadn (pc := 4) (n := 2) 2 rfl rfl (fm_dec dtX11_ones 4 rfl) ?_
  refine pv_bipush (pc := 5) (v := 8) (by decide) (fm_dec dtX11_ones 5 rfl) ?_
  refine pv_icmp_ge (pc := 7) 24 (by decide) (fm_dec dtX11_ones 6 rfl) (fun hc7 => by exfalso; revert hc7; decide) (fun _ => ?_)
  refine pv_iloadn (pc := 10) (n := 1) 1 rfl rfl (fm_dec dtX11_ones 7 rfl) ?_
  refine pv_iloadn (pc := 11) (n := 0) 0 rfl rfl (fm_dec dtX11_ones 8 rfl) ?_
  refine pv_iloadn (pc := 12) (n := 2) 2 rfl rfl (fm_dec dtX11_ones 9 rfl) ?_
  refine pv_ishr (pc := 13) (fm_dec dtX11_ones 10 rfl) ?_
  refine pv_iconst (pc := 14) (v := 1) (by decide) (fm_dec dtX11_ones 11 rfl) ?_
  refine pv_iand (pc := 15) (fm_dec dtX11_ones 12 rfl) ?_
  refine pv_iadd (pc := 16) (fm_dec dtX11_ones 13 rfl) ?_
  refine pv_istoren (pc := 17) (n := 1) 1 rfl (by decide) rfl (fm_dec dtX11_ones 14 rfl) ?_
  dsimp only [List.set_cons_zero, List.set_cons_succ]
  refine pv_iincc (pc := 18) 2 1 (by decide) rfl (by decide) rfl (fm_dec dtX11_ones 15 rfl) ?_
  dsimp only [List.set_cons_zero, List.set_cons_succ]
  rw [show (6 : Int32) + 1 = 7 by decide]
  refine pv_goto (pc := 21) 4 (by decide) (fm_dec dtX11_ones 16 rfl) ?_
  refine pv_iloadn (pc := 4) (n := 2) 2 rfl rfl (fm_dec dtX11_ones 4 rfl) ?_
  refine pv_bipush (pc := 5) (v := 8) (by decide) (fm_dec dtX11_ones 5 rfl) ?_
  refine pv_icmp_ge (pc := 7) 24 (by decide) (fm_dec dtX11_ones 6 rfl) (fun hc7 => by exfalso; revert hc7; decide) (fun _ => ?_)
  refine pv_iloadn (pc := 10) (n := 1) 1 rfl rfl (fm_dec dtX11_ones 7 rfl) ?_
  refine pv_iloadn (pc := 11) (n := 0) 0 rfl rfl (fm_dec dtX11_ones 8 rfl) ?_
  refine pv_iloadn (pc := 12) (n := 2) 2 rfl rfl (fm_dec dtX11_ones 9 rfl) ?_
  refine pv_ishr (pc := 13) (fm_dec dtX11_ones 10 rfl) ?_
  refine pv_iconst (pc := 14) (v := 1) (by decide) (fm_dec dtX11_ones 11 rfl) ?_
  refine pv_iand (pc := 15) (fm_dec dtX11_ones 12 rfl) ?_
  refine pv_iadd (pc := 16) (fm_dec dtX11_ones 13 rfl) ?_
  refine pv_istoren (pc := 17) (n := 1) 1 rfl (by decide) rfl (fm_dec dtX11_ones 14 rfl) ?_
  dsimp only [List.set_cons_zero, List.set_cons_succ]
  refine pv_iincc (pc := 18) 2 1 (by decide) rfl (by decide) rfl (fm_dec dtX11_ones 15 rfl) ?_
  dsimp only [List.set_cons_zero, List.set_cons_succ]
  rw [show (7 : Int32) + 1 = 8 by decide]
  refine pv_goto (pc := 21) 4 (by decide) (fm_dec dtX11_ones 16 rfl) ?_
  refine pv_iloadn (pc := 4) (n := 2) 2 rfl rfl (fm_dec dtX11_ones 4 rfl) ?_
  refine pv_bipush (pc := 5) (v := 8) (by decide) (fm_dec dtX11_ones 5 rfl) ?_
  refine pv_icmp_ge (pc := 7) 24 (by decide) (fm_dec dtX11_ones 6 rfl) (fun _ => ?_) (fun hc7 => by exfalso; revert hc7; decide)
  refine pv_iloadn (pc := 24) (n := 1) 1 rfl rfl (fm_dec dtX11_ones 17 rfl) ?_
  exact pv_ireturn (pc := 25) rfl (fm_dec dtX11_ones 18 rfl) hq
theorem c_ones8 {M : fmM} {Q : fmR → fmM → Prop} {w : Nat} (hw : w < 256) (hq : Q (.inl (some (.int (nI (pop8 w))))) M) : pvGood Tm 0 qX11_ones [.int (nI w)] M Q := c_onesF (by rw [on8 w hw]; exact hq)
set_option maxRecDepth 20000 in
theorem mc_loop {Q : fmR → fmM → Prop} {M : fmM} {i wh : Int32} {D : dD} (hD : dOk D) (hY : mdw M D) : ∀ (m : Nat) (w l : Nat), w < 256 → 8 - pop8 w = m → l < D.1 → Q (.inl (some (.int (chR (chS (chB D) m w l) wh)))) M → pvEv Tm 2 qX11_chain 59 [some (.ref 0), some (.int i), some (.int wh), some (.int (nI w)), some (.int (nI l))] [] M Q := by
  intro m
  induction m using Nat.strongRecOn with
  | _ m ih =>
    intro w l hw hm hl hq
    have d8 := hD.1
    have hl8 : l < 8 := (by omega)
    have hl9 : (nI l).toInt = (l : Int) := nI_toInt (by omega)
    have hx9 : (M.1 (35 + l) (Int32.toNatClampNeg 5)).toInt = chB D l := hY.2.2.2.1 l hl 5 (by decide)
    have zm : (-1 : Int32).toInt = -1 := (by decide)
    refine pv_aloadn (pc := 59) (n := 0) 0 rfl rfl (fm_dec dtX11_chain 36 rfl) ?_
    refine pv_getR (k := 0) (j := 14) (ci := 11) (pc := 60) 17 rfl (by decide) pfl_X11_31 (by decide) rfl (by decide) (fm_dec dtX11_chain 37 rfl) ?_
    refine pv_iload (pc := 63) (i := 4) rfl (fm_dec dtX11_chain 38 rfl) ?_
    refine pv_aald (k := 17) (n := 8) (r := (35 + l)) (pc := 65) (by decide) (Or.inr (Or.inr rfl)) rfl (rw_life.inb hl9 hl8) (rw_life.at hl9 hl8) (rw_life.2.2.2 _ hl8).2.1 (fm_dec dtX11_chain 39 rfl) ?_
    refine pv_iconst (pc := 66) (v := 5) (by decide) (fm_dec dtX11_chain 40 rfl) ?_
    refine pv_iald (k := (35 + l)) (n := 6) (pc := 67) (rw_life.2.2.2 _ hl8).2.2.1 (rw_life.2.2.2 _ hl8).2.2.2.1 (rw_life.2.2.2 _ hl8).2.2.2.2 (fm_inl (by decide)) (fm_dec dtX11_chain 41 rfl) ?_
    refine pv_iconst (pc := 68) (v := (-1)) (by decide) (fm_dec dtX11_chain 42 rfl) ?_
    refine pv_icmp_eq (pc := 69) 109 (by decide) (fm_dec dtX11_chain 43 rfl) (fun hc69 => ?_) (fun hc69 => ?_)
    · have hn9 : chB D l < 0 := (by have h9 := congrArg Int32.toInt hc69; omega)
      rw [ch_no hn9] at hq
      refine pv_iloadn (pc := 109) (n := 2) 2 rfl rfl (fm_dec dtX11_chain 67 rfl) ?_
      refine pv_if_ne (pc := 110) 120 (by decide) (fm_dec dtX11_chain 68 rfl) (fun hc110 => ?_) (fun hc110 => ?_)
      · refine pv_iload (pc := 120) (i := 4) rfl (fm_dec dtX11_chain 72 rfl) ?_
        exact pv_ireturn (pc := 122) rfl (fm_dec dtX11_chain 73 rfl) (by rw [chR_l hc110] at hq; exact hq)
      · refine pv_iloadn (pc := 113) (n := 3) 3 rfl rfl (fm_dec dtX11_chain 69 rfl) ?_
        refine pv_iS1 (d' := 0) (pc := 114) pcs_X11_416 (Nat.le_of_ble_eq_true rfl) (by decide) (fm_dec dtX11_chain 70 rfl) ?_
        refine c_ones8 hw ?_
        refine pv_then1 ?_
        refine pv_goto (pc := 117) 122 (by decide) (fm_dec dtX11_chain 71 rfl) ?_
        exact pv_ireturn (pc := 122) rfl (fm_dec dtX11_chain 73 rfl) (by rw [chR_s hc110] at hq; exact hq)
    · have hn9 : ¬ chB D l < 0 := (by intro h9; apply hc69; apply i32_ext; have h8 := (hD.2.2.1 l hl).2.2.2.2.2; have e : D.2.1 l 5 = chB D l := rfl; omega)
      obtain ⟨k, hk, hk8, hkb, hkx⟩ := by_d hD hl hx9 hn9
      refine pv_iloadn (pc := 72) (n := 3) 3 rfl rfl (fm_dec dtX11_chain 44 rfl) ?_
      refine pv_aloadn (pc := 73) (n := 0) 0 rfl rfl (fm_dec dtX11_chain 45 rfl) ?_
      refine pv_getR (k := 0) (j := 14) (ci := 11) (pc := 74) 17 rfl (by decide) pfl_X11_31 (by decide) rfl (by decide) (fm_dec dtX11_chain 46 rfl) ?_
      refine pv_iload (pc := 77) (i := 4) rfl (fm_dec dtX11_chain 47 rfl) ?_
      refine pv_aald (k := 17) (n := 8) (r := (35 + l)) (pc := 79) (by decide) (Or.inr (Or.inr rfl)) rfl (rw_life.inb hl9 hl8) (rw_life.at hl9 hl8) (rw_life.2.2.2 _ hl8).2.1 (fm_dec dtX11_chain 48 rfl) ?_
      refine pv_iconst (pc := 80) (v := 5) (by decide) (fm_dec dtX11_chain 49 rfl) ?_
      refine pv_iald (k := (35 + l)) (n := 6) (pc := 81) (rw_life.2.2.2 _ hl8).2.2.1 (rw_life.2.2.2 _ hl8).2.2.2.1 (rw_life.2.2.2 _ hl8).2.2.2.2 (fm_inl (by decide)) (fm_dec dtX11_chain 50 rfl) ?_
      refine pv_iS2 (d' := 0) (pc := 82) pcs_X11_256 (Nat.le_of_ble_eq_true rfl) (by decide) (fm_dec dtX11_chain 51 rfl) ?_
      refine c_has (fun h82 => ?_) (fun h82 => ?_)
      · refine pv_then1 ?_
        refine pv_if_ne (pc := 85) 109 (by decide) (fm_dec dtX11_chain 52 rfl) (fun _ => ?_) (fun hc85 => by exfalso; revert hc85; decide)
        have ht : w.testBit k = true := (has8 w hw k hk8).mp (by rw [← hkx]; exact h82)
        rw [ch_has hkb ht] at hq
        refine pv_iloadn (pc := 109) (n := 2) 2 rfl rfl (fm_dec dtX11_chain 67 rfl) ?_
        refine pv_if_ne (pc := 110) 120 (by decide) (fm_dec dtX11_chain 68 rfl) (fun hc110 => ?_) (fun hc110 => ?_)
        · refine pv_iload (pc := 120) (i := 4) rfl (fm_dec dtX11_chain 72 rfl) ?_
          exact pv_ireturn (pc := 122) rfl (fm_dec dtX11_chain 73 rfl) (by rw [chR_l hc110] at hq; exact hq)
        · refine pv_iloadn (pc := 113) (n := 3) 3 rfl rfl (fm_dec dtX11_chain 69 rfl) ?_
          refine pv_iS1 (d' := 0) (pc := 114) pcs_X11_416 (Nat.le_of_ble_eq_true rfl) (by decide) (fm_dec dtX11_chain 70 rfl) ?_
          refine c_ones8 hw ?_
          refine pv_then1 ?_
          refine pv_goto (pc := 117) 122 (by decide) (fm_dec dtX11_chain 71 rfl) ?_
          exact pv_ireturn (pc := 122) rfl (fm_dec dtX11_chain 73 rfl) (by rw [chR_s hc110] at hq; exact hq)
      · refine pv_then1 ?_
        refine pv_if_ne (pc := 85) 109 (by decide) (fm_dec dtX11_chain 52 rfl) (fun hc85 => by exfalso; revert hc85; decide) (fun _ => ?_)
        refine pv_aloadn (pc := 88) (n := 0) 0 rfl rfl (fm_dec dtX11_chain 53 rfl) ?_
        refine pv_getR (k := 0) (j := 14) (ci := 11) (pc := 89) 17 rfl (by decide) pfl_X11_31 (by decide) rfl (by decide) (fm_dec dtX11_chain 54 rfl) ?_
        refine pv_iload (pc := 92) (i := 4) rfl (fm_dec dtX11_chain 55 rfl) ?_
        refine pv_aald (k := 17) (n := 8) (r := (35 + l)) (pc := 94) (by decide) (Or.inr (Or.inr rfl)) rfl (rw_life.inb hl9 hl8) (rw_life.at hl9 hl8) (rw_life.2.2.2 _ hl8).2.1 (fm_dec dtX11_chain 56 rfl) ?_
        refine pv_iconst (pc := 95) (v := 5) (by decide) (fm_dec dtX11_chain 57 rfl) ?_
        refine pv_iald (k := (35 + l)) (n := 6) (pc := 96) (rw_life.2.2.2 _ hl8).2.2.1 (rw_life.2.2.2 _ hl8).2.2.2.1 (rw_life.2.2.2 _ hl8).2.2.2.2 (fm_inl (by decide)) (fm_dec dtX11_chain 58 rfl) ?_
        refine pv_istore (pc := 97) (i := 4) (by decide) rfl (fm_dec dtX11_chain 59 rfl) ?_
        dsimp only [List.set_cons_zero, List.set_cons_succ]
        refine pv_iloadn (pc := 99) (n := 3) 3 rfl rfl (fm_dec dtX11_chain 60 rfl) ?_
        refine pv_iconst (pc := 100) (v := 1) (by decide) (fm_dec dtX11_chain 61 rfl) ?_
        refine pv_iload (pc := 101) (i := 4) rfl (fm_dec dtX11_chain 62 rfl) ?_
        refine pv_ishl (pc := 103) (fm_dec dtX11_chain 63 rfl) ?_
        refine pv_ior (pc := 104) (fm_dec dtX11_chain 64 rfl) ?_
        refine pv_istoren (pc := 105) (n := 3) 3 rfl (by decide) rfl (fm_dec dtX11_chain 65 rfl) ?_
        dsimp only [List.set_cons_zero, List.set_cons_succ]
        refine pv_goto (pc := 106) 59 (by decide) (fm_dec dtX11_chain 66 rfl) ?_
        have ht : w.testBit k = false := Bool.eq_false_iff.mpr (fun h9 => h82 (by rw [hkx]; exact (has8 w hw k hk8).mpr h9))
        have hp := pop8_add w hw k hk8 ht
        have hle := pop8_le _ hp.2
        obtain ⟨f, rfl⟩ : ∃ f, m = f + 1 := ⟨m - 1, by omega⟩
        rw [ch_go hkb ht] at hq
        rw [hkx, or8 w hw k hk8]
        exact ih f (by omega) (w ||| 1 <<< k) k hp.2 (by omega) hk hq
set_option maxRecDepth 20000 in
theorem c_mchain {M : fmM} {Q : fmR → fmM → Prop} {i p : Int32} {D : dD} (hD : dOk D) (hY : mdw M D) (h1 : ¬ inL D i → ∀ (x : Int32) (M' : fmM), M'.1 0 0 = 1 → Q (.inl (some (.int x))) M') (h2 : inL D i → ¬ inW p 0 1 → ∀ (x : Int32) (M' : fmM), M'.1 0 0 = 2 → Q (.inl (some (.int x))) M') (hq : inL D i → inW p 0 1 → Q (.inl (some (.int (chV D i p)))) (fmI M 0 0 0)) : pvGood Tm 2 qX11_chain [.ref 0, .int i, .int p] M Q := by
  refine pvGood_of (Nat.le_of_ble_eq_true rfl) ?_
  show pvEv Tm 2 qX11_chain 0 [some (.ref 0), some (.int i), some (.int p), none, none] [] M Q
  have h4 : (M.1 4 0).toInt = (D.1 : Int) := hY.1
  have hl := hD.1
  refine pv_aloadn (pc := 0) (n := 0) 0 rfl rfl (fm_dec dtX11_chain 0 rfl) ?_
  refine pv_iconst (pc := 1) (v := 0) (by decide) (fm_dec dtX11_chain 1 rfl) ?_
  refine pv_putI (k := 0) (j := 0) (ci := 11) (pc := 2) pfl_X11_101 (by decide) rfl (by decide) (fm_dec dtX11_chain 2 rfl) ?_
  refine pv_aloadn (pc := 5) (n := 0) 0 rfl rfl (fm_dec dtX11_chain 3 rfl) ?_
  refine pv_aloadn (pc := 6) (n := 0) 0 rfl rfl (fm_dec dtX11_chain 4 rfl) ?_
  refine pv_iloadn (pc := 7) (n := 1) 1 rfl rfl (fm_dec dtX11_chain 5 rfl) ?_
  refine pv_invV1 (k := 0) (d' := 1) (pc := 8) pcv_X11_331 (by decide) rfl (Nat.le_of_ble_eq_true rfl) (by decide) (fm_dec dtX11_chain 6 rfl) ?_
  refine c_isLife (M := fmI M 0 0 0) h4 hl (fun k hk hkl => ?_) (fun hno => ?_)
  · refine pv_then1 ?_
    refine pv_if_ne (pc := 11) 18 (by decide) (fm_dec dtX11_chain 7 rfl) (fun _ => ?_) (fun hc11 => by exfalso; revert hc11; decide)
    refine pv_iconst (pc := 18) (v := 0) (by decide) (fm_dec dtX11_chain 10 rfl) ?_
    refine pv_iconst (pc := 19) (v := 1) (by decide) (fm_dec dtX11_chain 11 rfl) ?_
    refine pv_iconst (pc := 20) (v := 0) (by decide) (fm_dec dtX11_chain 12 rfl) ?_
    refine pv_invV3 (k := 0) (d' := 0) (pc := 21) pcv_X11_177 (by decide) rfl (Nat.le_of_ble_eq_true rfl) (by decide) (fm_dec dtX11_chain 13 rfl) ?_
    refine c_badF0 rfl ?_
    refine pv_then1 ?_
    refine pv_if_ne (pc := 24) 50 (by decide) (fm_dec dtX11_chain 14 rfl) (fun hc24 => by exfalso; revert hc24; decide) (fun _ => ?_)
    refine pv_aloadn (pc := 27) (n := 0) 0 rfl rfl (fm_dec dtX11_chain 15 rfl) ?_
    refine pv_iloadn (pc := 28) (n := 2) 2 rfl rfl (fm_dec dtX11_chain 16 rfl) ?_
    refine pv_iconst (pc := 29) (v := 0) (by decide) (fm_dec dtX11_chain 17 rfl) ?_
    refine pv_iconst (pc := 30) (v := 1) (by decide) (fm_dec dtX11_chain 18 rfl) ?_
    refine pv_iS3 (d' := 0) (pc := 31) pcs_X11_135 (Nat.le_of_ble_eq_true rfl) (by decide) (fm_dec dtX11_chain 19 rfl) ?_
    refine c_in (fun h31a h31b => ?_) (fun h31 => ?_)
    · refine pv_then1 ?_
      refine pv_if_ne (pc := 34) 41 (by decide) (fm_dec dtX11_chain 20 rfl) (fun _ => ?_) (fun hc34 => by exfalso; revert hc34; decide)
      refine pv_iconst (pc := 41) (v := 0) (by decide) (fm_dec dtX11_chain 23 rfl) ?_
      refine pv_iconst (pc := 42) (v := 2) (by decide) (fm_dec dtX11_chain 24 rfl) ?_
      refine pv_iconst (pc := 43) (v := 1) (by decide) (fm_dec dtX11_chain 25 rfl) ?_
      refine pv_invV3 (k := 0) (d' := 0) (pc := 44) pcv_X11_177 (by decide) rfl (Nat.le_of_ble_eq_true rfl) (by decide) (fm_dec dtX11_chain 26 rfl) ?_
      refine c_badF1 rfl ?_
      refine pv_then1 ?_
      refine pv_if_eq (pc := 47) 52 (by decide) (fm_dec dtX11_chain 27 rfl) (fun _ => ?_) (fun hc47 => by exfalso; revert hc47; decide)
      refine pv_iconst (pc := 52) (v := 1) (by decide) (fm_dec dtX11_chain 30 rfl) ?_
      refine pv_iloadn (pc := 53) (n := 1) 1 rfl rfl (fm_dec dtX11_chain 31 rfl) ?_
      refine pv_ishl (pc := 54) (fm_dec dtX11_chain 32 rfl) ?_
      refine pv_istoren (pc := 55) (n := 3) 3 rfl (by decide) rfl (fm_dec dtX11_chain 33 rfl) ?_
      dsimp only [List.set_cons_zero, List.set_cons_succ]
      refine pv_iloadn (pc := 56) (n := 1) 1 rfl rfl (fm_dec dtX11_chain 34 rfl) ?_
      refine pv_istore (pc := 57) (i := 4) (by decide) rfl (fm_dec dtX11_chain 35 rfl) ?_
      dsimp only [List.set_cons_zero, List.set_cons_succ]
      have hn : inL D i := ⟨by omega, by omega⟩
      have ek : i.toInt.toNat = k := (by omega)
      have q9 := hq hn ⟨h31a, h31b⟩
      unfold chV at q9
      rw [ek] at q9
      have hi9 : i = nI k := nI_is hk (by omega)
      subst hi9
      rw [(one8 k (by omega)).1]
      exact mc_loop hD (M := fmI M 0 0 0) ⟨hY.1, hY.2.1, hY.2.2.1, fun i hi j hj => (by rw [fmI_k _ _ (by omega)]; exact hY.2.2.2.1 i hi j hj), fun i hi j hj => (by rw [fmI_k _ _ (by omega)]; exact hY.2.2.2.2 i hi j hj)⟩ 7 (1 <<< k) k (one8 k (by omega)).2 (by rw [pop8_1 k (by omega)]) (by omega) q9
    · refine pv_then1 ?_
      refine pv_if_ne (pc := 34) 41 (by decide) (fm_dec dtX11_chain 20 rfl) (fun hc34 => by exfalso; revert hc34; decide) (fun _ => ?_)
      refine pv_iconst (pc := 37) (v := 1) (by decide) (fm_dec dtX11_chain 21 rfl) ?_
      refine pv_goto (pc := 38) 42 (by decide) (fm_dec dtX11_chain 22 rfl) ?_
      refine pv_iconst (pc := 42) (v := 2) (by decide) (fm_dec dtX11_chain 24 rfl) ?_
      refine pv_iconst (pc := 43) (v := 1) (by decide) (fm_dec dtX11_chain 25 rfl) ?_
      refine pv_invV3 (k := 0) (d' := 0) (pc := 44) pcv_X11_177 (by decide) rfl (Nat.le_of_ble_eq_true rfl) (by decide) (fm_dec dtX11_chain 26 rfl) ?_
      refine c_badT1 rfl (by decide) ?_
      refine pv_then1 ?_
      refine pv_if_eq (pc := 47) 52 (by decide) (fm_dec dtX11_chain 27 rfl) (fun hc47 => by exfalso; revert hc47; decide) (fun _ => ?_)
      refine pv_iconst (pc := 50) (v := 0) (by decide) (fm_dec dtX11_chain 28 rfl) ?_
      exact pv_ireturn (pc := 51) rfl (fm_dec dtX11_chain 29 rfl) (h2 ⟨by omega, by omega⟩ h31 _ _ rfl)
  · refine pv_then1 ?_
    refine pv_if_ne (pc := 11) 18 (by decide) (fm_dec dtX11_chain 7 rfl) (fun hc11 => by exfalso; revert hc11; decide) (fun _ => ?_)
    refine pv_iconst (pc := 14) (v := 1) (by decide) (fm_dec dtX11_chain 8 rfl) ?_
    refine pv_goto (pc := 15) 19 (by decide) (fm_dec dtX11_chain 9 rfl) ?_
    refine pv_iconst (pc := 19) (v := 1) (by decide) (fm_dec dtX11_chain 11 rfl) ?_
    refine pv_iconst (pc := 20) (v := 0) (by decide) (fm_dec dtX11_chain 12 rfl) ?_
    refine pv_invV3 (k := 0) (d' := 0) (pc := 21) pcv_X11_177 (by decide) rfl (Nat.le_of_ble_eq_true rfl) (by decide) (fm_dec dtX11_chain 13 rfl) ?_
    refine c_badT0 rfl (by decide) ?_
    refine pv_then1 ?_
    refine pv_if_ne (pc := 24) 50 (by decide) (fm_dec dtX11_chain 14 rfl) (fun _ => ?_) (fun hc24 => by exfalso; revert hc24; decide)
    refine pv_iconst (pc := 50) (v := 0) (by decide) (fm_dec dtX11_chain 28 rfl) ?_
    exact pv_ireturn (pc := 51) rfl (fm_dec dtX11_chain 29 rfl) (h1 hno _ _ rfl)
theorem xe_chain {M : fmM} {a0 a1 : Int32} {D : dD} (hD : dOk D) (hX : xdw 3 M D) : pvGood Tx 250 qX10_chain [.ref 0, .int a0, .int a1] M (fun r _ => (inL D a0 ∧ inW a1 0 1 ∧ r = .inl (some (.int (chV D a0 a1)))) ∨ (¬ inL D a0 ∧ r = .inr fmNSE) ∨ (inL D a0 ∧ ¬ inW a1 0 1 ∧ r = .inr fmIAE)) := (c_xchain hD hX (fun h => Or.inr (Or.inl ⟨h, rfl⟩)) (fun h h' => Or.inr (Or.inr ⟨h, h', rfl⟩)) (fun h h' => Or.inl ⟨h, h', rfl⟩)).up (by decide)
theorem me_chain {M : fmM} {a0 a1 : Int32} {D : dD} (hD : dOk D) (hY : mdw M D) : pvGood Tm 250 qX11_chain [.ref 0, .int a0, .int a1] M (fun r M' => (inL D a0 ∧ inW a1 0 1 ∧ r = .inl (some (.int (chV D a0 a1))) ∧ M'.1 0 0 = 0) ∨ (¬ inL D a0 ∧ M'.1 0 0 = 1) ∨ (inL D a0 ∧ ¬ inW a1 0 1 ∧ M'.1 0 0 = 2)) := (c_mchain hD hY (fun h x M' e => Or.inr (Or.inl ⟨h, e⟩)) (fun h h' x M' e => Or.inr (Or.inr ⟨h, h', e⟩)) (fun h h' => Or.inl ⟨h, h', rfl, rfl⟩)).up (by decide)
