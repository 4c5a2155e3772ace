theorem al_b {t : Bool} (h : bI (!t) = 0) : t = true := by
  cases t with
  | true => rfl
  | false => exact absurd h (by decide)
theorem al_n {t : Bool} (h : ¬ bI (!t) = 0) : t = false := by
  cases t with
  | false => rfl
  | true => exact absurd (by decide) h
/-- 4096ths of the risk of the first n lives in lt weeks -/
def riG (D : dD) (cs : tC) (S : aS) (lt : Nat) : Nat → Int
  | 0 => 0
  | n + 1 => if S.1.2.2.1.testBit n then riG D cs S lt n else riG D cs S lt n + D.2.1 n 1 * coA D cs S.1.2.2.1 (S.1.1 + lt) n (if S.2 n = -1 then -1 else S.2 n + lt)
theorem ri_t {D : dD} {cs : tC} {S : aS} {lt n : Nat} (h : S.1.2.2.1.testBit n = true) : riG D cs S lt (n + 1) = riG D cs S lt n := if_pos h
theorem ri_f {D : dD} {cs : tC} {S : aS} {lt n : Nat} (h : S.1.2.2.1.testBit n = false) : riG D cs S lt (n + 1) = riG D cs S lt n + D.2.1 n 1 * coA D cs S.1.2.2.1 (S.1.1 + lt) n (if S.2 n = -1 then -1 else S.2 n + lt) := if_neg (by rw [h]; decide)
theorem ri_1 {D : dD} {cs : tC} {dead w n : Nat} {ag : Int} (hD : dOk D) (hn : n < D.1) : 0 ≤ D.2.1 n 1 * coA D cs dead w n ag ∧ D.2.1 n 1 * coA D cs dead w n ag ≤ 3649536 := by
  have b1 := (hD.2.2.1 n hn).2.1
  have c1 := coA_b (cs := cs) (dead := dead) (w := w) (age := ag) hD hn
  have h1 := mul_b (a := D.2.1 n 1) (b := coA D cs dead w n ag) (m := 64) (n := 57024) (by omega) (by omega) c1.1 c1.2
  omega
theorem ri_b {D : dD} {cs : tC} {S : aS} {lt : Nat} (hD : dOk D) : ∀ n, n ≤ D.1 → 0 ≤ riG D cs S lt n ∧ riG D cs S lt n ≤ 3649536 * (n : Int) := by
  intro n
  induction n with
  | zero => intro _; exact ⟨Int.le_refl _, (by show (0 : Int) ≤ 3649536 * ((0 : Nat) : Int); decide)⟩
  | succ n ih =>
    intro hn
    have h1 := ih (by omega)
    have h2 := ri_1 (cs := cs) (dead := S.1.2.2.1) (w := S.1.1 + lt) (ag := if S.2 n = -1 then -1 else S.2 n + lt) hD (show n < D.1 by omega)
    cases ht : S.1.2.2.1.testBit n with
    | true =>
      rw [ri_t ht]
      omega
    | false =>
      rw [ri_f ht]
      omega
theorem ml_i {x : Int32} {z : Int64} {a b : Int} (hx : x.toInt = a) (hz : z.toInt = b) (h1 : -1000000000 ≤ a * b) (h2 : a * b ≤ 1000000000) : (x.toInt64 * z).toInt = a * b := by
  rw [Int64.toInt_mul, Int32.toInt_toInt64, hx, hz]
  exact Int.bmod_eq_of_le (by omega) (by omega)
theorem ad_j {x z : Int64} {a b : Int} (hx : x.toInt = a) (hz : z.toInt = b) (h1 : -4000000000000 ≤ a + b) (h2 : a + b ≤ 4000000000000) : (x + z).toInt = a + b := by
  rw [Int64.toInt_add, hx, hz]
  exact Int.bmod_eq_of_le (by omega) (by omega)
def amW (S : aS) : Nat := min 60 (200 - S.1.1)
set_option maxRecDepth 20000 in
theorem c_xam {M : fmM} {Q : fmR → fmM → Prop} {D : dD} {S : aS} (hs : xst M D S) (ho : stO D S) (hq : ∀ r : Int32, r.toInt = ((amW S : Nat) : Int) → Q (.inl (some (.int r))) M) : pvGood Tx 2 qX10_aheadMost [.ref 0] M Q := by
  refine pvGood_of (Nat.le_of_ble_eq_true rfl) ?_
  show pvEv Tx 2 qX10_aheadMost 0 [some (.ref 0)] [] M Q
  have w2 := ho.1
  have g2 := hs.2.1
  have z60 : (60 : Int32).toInt = 60 := (by decide)
  have z200 : (200 : Int32).toInt = 200 := (by decide)
  refine pv_bipush (pc := 0) (v := 60) (by decide) (fm_dec dtX10_aheadMost 0 rfl) ?_
  refine pv_sipush (pc := 2) (v := 200) (by decide) (fm_dec dtX10_aheadMost 1 rfl) ?_
  refine pv_aloadn (pc := 5) (n := 0) 0 rfl rfl (fm_dec dtX10_aheadMost 2 rfl) ?_
  refine pv_getR (k := 0) (j := 9) (ci := 10) (pc := 6) 46 rfl (by decide) pfl_X10_75 (by decide) rfl (by decide) (fm_dec dtX10_aheadMost 3 rfl) ?_
  refine pv_getR (k := 46) (j := 0) (ci := 5) (pc := 9) 47 rfl (by decide) pfl_X10_90 (by decide) rfl (by decide) (fm_dec dtX10_aheadMost 4 rfl) ?_
  refine pv_getI (k := 47) (j := 2) (ci := 6) (pc := 12) pfl_X10_173 (by decide) rfl (by decide) (fm_dec dtX10_aheadMost 5 rfl) ?_
  refine pv_isub (pc := 15) (fm_dec dtX10_aheadMost 6 rfl) ?_
  refine pv_mm (pc := 16) pmm_X10_352 (by decide) (Nat.le_of_ble_eq_true rfl) (fm_dec dtX10_aheadMost 7 rfl) ?_
  exact pv_ireturn (pc := 19) rfl (fm_dec dtX10_aheadMost 8 rfl) (hq _ (by rw [mxf, z60, sc_sub (by omega) (by omega), z200, g2]; unfold amW; omega))
theorem nI_ad {a b : Nat} : nI a + nI b = nI (a + b) := by
  show Int32.ofNat a + Int32.ofNat b = Int32.ofNat (a + b)
  rw [Int32.ofNat_add]
set_option maxRecDepth 20000 in
theorem xri_loop {Q : fmR → fmM → Prop} {D : dD} {cs : tC} {S : aS} {lt : Nat} (hl60 : lt ≤ 60) : ∀ (m : Nat) (n : Nat) (M : fmM) (a : Int64) (v6 v7 : Option Value), xAq M D cs S → n ≤ D.1 → D.1 - n = m → a.toInt = riG D cs S lt n → (∀ (M' : fmM) (r : Int64), xAq M' D cs S → r.toInt = riG D cs S lt D.1 → Q (.inl (some (.long r))) M') → pvEv Tx 40 qX0_riskWhen 5 [some (.ref 32), some (.ref 47), some (.int (nI lt)), some (.long a), none, some (.int (nI n)), v6, v7] [] M Q := by
  intro m
  induction m using Nat.strongRecOn with
  | _ m ih =>
    intro n M a v6 v7 h hnD hm ha hq
    have h9q := h
    obtain ⟨hD, hX, hL, hs, ho⟩ := h9q
    have d8 := hD.1
    have hn9 : (nI n).toInt = (n : Int) := nI_toInt (by omega)
    have hlt9 : (nI lt).toInt = (lt : Int) := nI_toInt (by omega)
    have h39 : (M.1 3 9).toInt = (D.1 : Int) := hX.1.1
    refine pv_iload (pc := 5) (i := 5) rfl (fm_dec dtX0_riskWhen 4 rfl) ?_
    refine pv_aloadn (pc := 7) (n := 0) 0 rfl rfl (fm_dec dtX0_riskWhen 5 rfl) ?_
    refine pv_getR (k := 32) (j := 0) (ci := 0) (pc := 8) 3 rfl (by decide) pfl_X0_15 (by decide) rfl (by decide) (fm_dec dtX0_riskWhen 6 rfl) ?_
    refine pv_getI (k := 3) (j := 9) (ci := 8) (pc := 11) pfl_X0_75 (by decide) rfl (by decide) (fm_dec dtX0_riskWhen 7 rfl) ?_
    refine pv_icmp_ge (pc := 14) 82 (by decide) (fm_dec dtX0_riskWhen 8 rfl) (fun hc14 => ?_) (fun hc14 => ?_)
    · refine pv_lloadn (pc := 82) (n := 3) 3 rfl rfl (fm_dec dtX0_riskWhen 45 rfl) ?_
      exact pv_lreturn (pc := 83) rfl (fm_dec dtX0_riskWhen 46 rfl) (by have e9 : n = D.1 := (by rw [sc_le] at hc14; omega); subst e9; exact hq _ _ h ha)
    · have hn : n < D.1 := (by rw [sc_le] at hc14; omega)
      have g := ag_x hs hn
      have ab := ag_b ho hn
      have w2 := ho.1
      have g5 : (M.1 5 n).toInt = D.2.1 n 1 := hX.2.1 n hn 1 (by decide)
      have c9 := ri_1 (cs := cs) (dead := S.1.2.2.1) (w := S.1.1 + lt) (ag := if S.2 n = -1 then -1 else S.2 n + lt) hD hn
      have cb := ri_b (cs := cs) (S := S) (lt := lt) hD n (by omega)
      refine pv_aloadn (pc := 17) (n := 1) 1 rfl rfl (fm_dec dtX0_riskWhen 9 rfl) ?_
      refine pv_iload (pc := 18) (i := 5) rfl (fm_dec dtX0_riskWhen 10 rfl) ?_
      refine pv_invV1 (k := 47) (d' := 0) (pc := 20) pcv_X0_38 (by decide) rfl (Nat.le_of_ble_eq_true rfl) (by decide) (fm_dec dtX0_riskWhen 11 rfl) ?_
      refine c_xaliv hs ho (by omega) ?_
      refine pv_then1 ?_
      refine pv_if_eq (pc := 23) 76 (by decide) (fm_dec dtX0_riskWhen 12 rfl) (fun hc23 => ?_) (fun hc23 => ?_)
      · refine pv_iincc (pc := 76) 5 1 (by decide) rfl (by decide) rfl (fm_dec dtX0_riskWhen 43 rfl) ?_
        dsimp only [List.set_cons_zero, List.set_cons_succ]
        refine pv_goto (pc := 79) 5 (by decide) (fm_dec dtX0_riskWhen 44 rfl) ?_
        rw [nI_succ1]
        have e9 := ri_t (D := D) (cs := cs) (lt := lt) (al_b hc23)
        exact ih (D.1 - (n + 1)) (by omega) (n + 1) M _ _ _ h (by omega) rfl (by rw [e9]; exact ha) hq
      · refine pv_aloadn (pc := 26) (n := 1) 1 rfl rfl (fm_dec dtX0_riskWhen 13 rfl) ?_
        refine pv_getR (k := 47) (j := 0) (ci := 6) (pc := 27) 48 rfl (by decide) pfl_X0_78 (by decide) rfl (by decide) (fm_dec dtX0_riskWhen 14 rfl) ?_
        refine pv_iload (pc := 30) (i := 5) rfl (fm_dec dtX0_riskWhen 15 rfl) ?_
        refine pv_iald (k := 48) (n := 8) (pc := 32) (by decide) rfl rfl (ix_in hn9 (by omega)) (fm_dec dtX0_riskWhen 16 rfl) ?_
        rw [i32_cl hn9]
        refine pv_istore (pc := 33) (i := 6) (by decide) rfl (fm_dec dtX0_riskWhen 17 rfl) ?_
        dsimp only [List.set_cons_zero, List.set_cons_succ]
        refine pv_iload (pc := 35) (i := 6) rfl (fm_dec dtX0_riskWhen 18 rfl) ?_
        refine pv_iconst (pc := 37) (v := (-1)) (by decide) (fm_dec dtX0_riskWhen 19 rfl) ?_
        refine pv_icmp_ne (pc := 38) 45 (by decide) (fm_dec dtX0_riskWhen 20 rfl) (fun hc38 => ?_) (fun hc38 => ?_)
        · obtain ⟨exn, hne⟩ := ag_n hs ho hn hc38
          have eI : (if S.2 n = -1 then -1 else S.2 n + (lt : Int)) = (((S.2 n).toNat + lt : Nat) : Int) := (by rw [if_neg hne]; omega)
          rw [eI] at c9
          rw [exn]
          refine pv_iload (pc := 45) (i := 6) rfl (fm_dec dtX0_riskWhen 23 rfl) ?_
          refine pv_iloadn (pc := 47) (n := 2) 2 rfl rfl (fm_dec dtX0_riskWhen 24 rfl) ?_
          refine pv_iadd (pc := 48) (fm_dec dtX0_riskWhen 25 rfl) ?_
          rw [nI_ad]
          refine pv_istore (pc := 49) (i := 7) (by decide) rfl (fm_dec dtX0_riskWhen 26 rfl) ?_
          dsimp only [List.set_cons_zero, List.set_cons_succ]
          refine pv_lloadn (pc := 51) (n := 3) 3 rfl rfl (fm_dec dtX0_riskWhen 27 rfl) ?_
          refine pv_aloadn (pc := 52) (n := 0) 0 rfl rfl (fm_dec dtX0_riskWhen 28 rfl) ?_
          refine pv_getR (k := 32) (j := 0) (ci := 0) (pc := 53) 3 rfl (by decide) pfl_X0_15 (by decide) rfl (by decide) (fm_dec dtX0_riskWhen 29 rfl) ?_
          refine pv_getR (k := 3) (j := 1) (ci := 8) (pc := 56) 5 rfl (by decide) pfl_X0_81 (by decide) rfl (by decide) (fm_dec dtX0_riskWhen 30 rfl) ?_
          refine pv_iload (pc := 59) (i := 5) rfl (fm_dec dtX0_riskWhen 31 rfl) ?_
          refine pv_iald (k := 5) (n := 8) (pc := 61) (by decide) rfl rfl (ix_in hn9 (by omega)) (fm_dec dtX0_riskWhen 32 rfl) ?_
          rw [i32_cl hn9]
          refine pv_i2l (pc := 62) (fm_dec dtX0_riskWhen 33 rfl) ?_
          refine pv_aloadn (pc := 63) (n := 0) 0 rfl rfl (fm_dec dtX0_riskWhen 34 rfl) ?_
          refine pv_aloadn (pc := 64) (n := 1) 1 rfl rfl (fm_dec dtX0_riskWhen 35 rfl) ?_
          refine pv_iload (pc := 65) (i := 5) rfl (fm_dec dtX0_riskWhen 36 rfl) ?_
          refine pv_iloadn (pc := 67) (n := 2) 2 rfl rfl (fm_dec dtX0_riskWhen 37 rfl) ?_
          refine pv_iload (pc := 68) (i := 7) rfl (fm_dec dtX0_riskWhen 38 rfl) ?_
          refine pv_invV4 (k := 32) (d' := 3) (pc := 70) pcv_X0_84 (by decide) rfl (Nat.le_of_ble_eq_true rfl) (by decide) (fm_dec dtX0_riskWhen 39 rfl) ?_
          refine c_xcostG (w := S.1.1 + lt) hD hX hL hs ho hn (by rw [sc_add (by have := hs.2.1; omega) (by have := hs.2.1; omega), hs.2.1, hlt9]; omega) (by omega) (ag := (((S.2 n).toNat + lt : Nat) : Int)) (nI_toInt (by omega)) (by omega) (fun M70 r70 g70 h70 e70 => ?_)
          refine pv_then1 ?_
          refine pv_lmul (pc := 73) (fm_dec dtX0_riskWhen 40 rfl) ?_
          refine pv_ladd (pc := 74) (fm_dec dtX0_riskWhen 41 rfl) ?_
          refine pv_lstoren (pc := 75) (n := 3) 3 rfl (by decide) rfl (fm_dec dtX0_riskWhen 42 rfl) ?_
          dsimp only [List.set_cons_zero, List.set_cons_succ]
          refine pv_iincc (pc := 76) 5 1 (by decide) rfl (by decide) rfl (fm_dec dtX0_riskWhen 43 rfl) ?_
          dsimp only [List.set_cons_zero, List.set_cons_succ]
          refine pv_goto (pc := 79) 5 (by decide) (fm_dec dtX0_riskWhen 44 rfl) ?_
          have e8 := ml_i g5 e70 (by omega) (by omega)
          have e7 := ad_j ha e8 (by omega) (by omega)
          rw [nI_succ1]
          have e9 := ri_f (D := D) (cs := cs) (lt := lt) (al_n hc23)
          rw [eI] at e9
          exact ih (D.1 - (n + 1)) (by omega) (n + 1) M70 _ _ _ (h.low g70 h70) (by omega) rfl (by rw [e9]; exact e7) hq
        · have hm := ag_m hs hn hc38
          have eI : (if S.2 n = -1 then -1 else S.2 n + (lt : Int)) = -1 := if_pos hm
          rw [eI] at c9
          refine pv_iconst (pc := 41) (v := (-1)) (by decide) (fm_dec dtX0_riskWhen 21 rfl) ?_
          refine pv_goto (pc := 42) 49 (by decide) (fm_dec dtX0_riskWhen 22 rfl) ?_
          refine pv_istore (pc := 49) (i := 7) (by decide) rfl (fm_dec dtX0_riskWhen 26 rfl) ?_
          dsimp only [List.set_cons_zero, List.set_cons_succ]
          refine pv_lloadn (pc := 51) (n := 3) 3 rfl rfl (fm_dec dtX0_riskWhen 27 rfl) ?_
          refine pv_aloadn (pc := 52) (n := 0) 0 rfl rfl (fm_dec dtX0_riskWhen 28 rfl) ?_
          refine pv_getR (k := 32) (j := 0) (ci := 0) (pc := 53) 3 rfl (by decide) pfl_X0_15 (by decide) rfl (by decide) (fm_dec dtX0_riskWhen 29 rfl) ?_
          refine pv_getR (k := 3) (j := 1) (ci := 8) (pc := 56) 5 rfl (by decide) pfl_X0_81 (by decide) rfl (by decide) (fm_dec dtX0_riskWhen 30 rfl) ?_
          refine pv_iload (pc := 59) (i := 5) rfl (fm_dec dtX0_riskWhen 31 rfl) ?_
          refine pv_iald (k := 5) (n := 8) (pc := 61) (by decide) rfl rfl (ix_in hn9 (by omega)) (fm_dec dtX0_riskWhen 32 rfl) ?_
          rw [i32_cl hn9]
          refine pv_i2l (pc := 62) (fm_dec dtX0_riskWhen 33 rfl) ?_
          refine pv_aloadn (pc := 63) (n := 0) 0 rfl rfl (fm_dec dtX0_riskWhen 34 rfl) ?_
          refine pv_aloadn (pc := 64) (n := 1) 1 rfl rfl (fm_dec dtX0_riskWhen 35 rfl) ?_
          refine pv_iload (pc := 65) (i := 5) rfl (fm_dec dtX0_riskWhen 36 rfl) ?_
          refine pv_iloadn (pc := 67) (n := 2) 2 rfl rfl (fm_dec dtX0_riskWhen 37 rfl) ?_
          refine pv_iload (pc := 68) (i := 7) rfl (fm_dec dtX0_riskWhen 38 rfl) ?_
          refine pv_invV4 (k := 32) (d' := 3) (pc := 70) pcv_X0_84 (by decide) rfl (Nat.le_of_ble_eq_true rfl) (by decide) (fm_dec dtX0_riskWhen 39 rfl) ?_
          refine c_xcostG (w := S.1.1 + lt) hD hX hL hs ho hn (by rw [sc_add (by have := hs.2.1; omega) (by have := hs.2.1; omega), hs.2.1, hlt9]; omega) (by omega) (ag := -1) (by decide) (by decide) (fun M70 r70 g70 h70 e70 => ?_)
          refine pv_then1 ?_
          refine pv_lmul (pc := 73) (fm_dec dtX0_riskWhen 40 rfl) ?_
          refine pv_ladd (pc := 74) (fm_dec dtX0_riskWhen 41 rfl) ?_
          refine pv_lstoren (pc := 75) (n := 3) 3 rfl (by decide) rfl (fm_dec dtX0_riskWhen 42 rfl) ?_
          dsimp only [List.set_cons_zero, List.set_cons_succ]
          refine pv_iincc (pc := 76) 5 1 (by decide) rfl (by decide) rfl (fm_dec dtX0_riskWhen 43 rfl) ?_
          dsimp only [List.set_cons_zero, List.set_cons_succ]
          refine pv_goto (pc := 79) 5 (by decide) (fm_dec dtX0_riskWhen 44 rfl) ?_
          have e8 := ml_i g5 e70 (by omega) (by omega)
          have e7 := ad_j ha e8 (by omega) (by omega)
          rw [nI_succ1]
          have e9 := ri_f (D := D) (cs := cs) (lt := lt) (al_n hc23)
          rw [eI] at e9
          exact ih (D.1 - (n + 1)) (by omega) (n + 1) M70 _ _ _ (h.low g70 h70) (by omega) rfl (by rw [e9]; exact e7) hq
set_option maxRecDepth 20000 in
theorem c_xrisk {M : fmM} {Q : fmR → fmM → Prop} {D : dD} {cs : tC} {S : aS} {lt : Nat} (h : xAq M D cs S) (hl60 : lt ≤ 60) (hq : ∀ (M' : fmM) (r : Int64), xAq M' D cs S → r.toInt = riG D cs S lt D.1 → Q (.inl (some (.long r))) M') : pvGood Tx 41 qX0_riskWhen [.ref 32, .ref 47, .int (nI lt)] M Q := by
  refine pvGood_of (Nat.le_of_ble_eq_true rfl) ?_
  show pvEv Tx 41 qX0_riskWhen 0 [some (.ref 32), some (.ref 47), some (.int (nI lt)), none, none, none, none, none] [] M Q
  refine pv_lconst (pc := 0) (v := 0) (by decide) (fm_dec dtX0_riskWhen 0 rfl) ?_
  refine pv_lstoren (pc := 1) (n := 3) 3 rfl (by decide) rfl (fm_dec dtX0_riskWhen 1 rfl) ?_
  dsimp only [List.set_cons_zero, List.set_cons_succ]
  refine pv_iconst (pc := 2) (v := 0) (by decide) (fm_dec dtX0_riskWhen 2 rfl) ?_
  refine pv_istore (pc := 3) (i := 5) (by decide) rfl (fm_dec dtX0_riskWhen 3 rfl) ?_
  dsimp only [List.set_cons_zero, List.set_cons_succ]
  exact (xri_loop hl60 D.1 0 M 0 _ _ h (Nat.zero_le _) rfl (by show (0 : Int64).toInt = (0 : Int); decide) hq).up (by decide)
set_option maxRecDepth 20000 in
theorem c_mcofA {M : fmM} {Q : fmR → fmM → Prop} {D : dD} {cs : tC} {S : aS} {i : Nat} (h : mAq M D cs S) (hi : i < D.1) (hq : ∀ (M' : fmM) (r : Int32), (∀ k j, k ≠ 5 → k ≠ 6 → M'.1 k j = M.1 k j) → M'.2 = M.2 → r.toInt = (if S.1.2.2.1.testBit i then 0 else coS D cs S i) → Q (.inl (some (.int r))) M') : pvGood Tm 8 qX11_costOf [.ref 0, .ref 7, .int (nI i)] M Q := by
  refine pvGood_of (Nat.le_of_ble_eq_true rfl) ?_
  show pvEv Tm 8 qX11_costOf 0 [some (.ref 0), some (.ref 7), some (.int (nI i))] [] M Q
  obtain ⟨hD, hY, hM, hd, ht, ho⟩ := h
  have d8 := hD.1
  have hi9 : (nI i).toInt = (i : Int) := nI_toInt (by omega)
  have hi8 : i < 8 := (by omega)
  have h1i := one_i hi8
  have e0 : M.1 7 (Int32.toNatClampNeg 0) = nI S.1.2.2.1 := nI_is ht.1 (by have := ho.2.2.1; omega)
  refine pv_aloadn (pc := 0) (n := 1) 1 rfl rfl (fm_dec dtX11_costOf 0 rfl) ?_
  refine pv_iconst (pc := 1) (v := 0) (by decide) (fm_dec dtX11_costOf 1 rfl) ?_
  refine pv_iald (k := 7) (n := 14) (pc := 2) (by decide) rfl rfl (fm_inl (by decide)) (fm_dec dtX11_costOf 2 rfl) ?_
  refine pv_iloadn (pc := 3) (n := 2) 2 rfl rfl (fm_dec dtX11_costOf 3 rfl) ?_
  refine pv_iS2 (d' := 0) (pc := 4) pcs_X11_256 (Nat.le_of_ble_eq_true rfl) (by decide) (fm_dec dtX11_costOf 4 rfl) ?_
  refine c_has (fun h4 => ?_) (fun h4 => ?_)
  · refine pv_then1 ?_
    refine pv_if_eq (pc := 7) 14 (by decide) (fm_dec dtX11_costOf 5 rfl) (fun hc7 => by exfalso; revert hc7; decide) (fun _ => ?_)
    refine pv_iconst (pc := 10) (v := 0) (by decide) (fm_dec dtX11_costOf 6 rfl) ?_
    refine pv_goto (pc := 11) 29 (by decide) (fm_dec dtX11_costOf 7 rfl) ?_
    exact pv_ireturn (pc := 29) rfl (fm_dec dtX11_costOf 20 rfl) (hq _ _ (fun _ _ _ _ => rfl) rfl (by rw [if_pos ((has8 _ ho.2.2.1 i hi8).mp (by rw [← e0]; exact h4))]; decide))
  · refine pv_then1 ?_
    refine pv_if_eq (pc := 7) 14 (by decide) (fm_dec dtX11_costOf 5 rfl) (fun _ => ?_) (fun hc7 => by exfalso; revert hc7; decide)
    refine pv_aloadn (pc := 14) (n := 0) 0 rfl rfl (fm_dec dtX11_costOf 8 rfl) ?_
    refine pv_aloadn (pc := 15) (n := 1) 1 rfl rfl (fm_dec dtX11_costOf 9 rfl) ?_
    refine pv_iloadn (pc := 16) (n := 2) 2 rfl rfl (fm_dec dtX11_costOf 10 rfl) ?_
    refine pv_aloadn (pc := 17) (n := 1) 1 rfl rfl (fm_dec dtX11_costOf 11 rfl) ?_
    refine pv_iconst (pc := 18) (v := 1) (by decide) (fm_dec dtX11_costOf 12 rfl) ?_
    refine pv_iloadn (pc := 19) (n := 2) 2 rfl rfl (fm_dec dtX11_costOf 13 rfl) ?_
    refine pv_iadd (pc := 20) (fm_dec dtX11_costOf 14 rfl) ?_
    refine pv_iald (k := 7) (n := 14) (pc := 21) (by decide) rfl rfl (ix_in h1i (by omega)) (fm_dec dtX11_costOf 15 rfl) ?_
    rw [i32_cl h1i]
    refine pv_aloadn (pc := 22) (n := 1) 1 rfl rfl (fm_dec dtX11_costOf 16 rfl) ?_
    refine pv_bipush (pc := 23) (v := 10) (by decide) (fm_dec dtX11_costOf 17 rfl) ?_
    refine pv_iald (k := 7) (n := 14) (pc := 25) (by decide) rfl rfl (fm_inl (by decide)) (fm_dec dtX11_costOf 18 rfl) ?_
    refine pv_invV4 (k := 0) (d' := 6) (pc := 26) pcv_X11_280 (by decide) rfl (Nat.le_of_ble_eq_true rfl) (by decide) (fm_dec dtX11_costOf 19 rfl) ?_
    refine c_mco hD hY hM hd ht ho hi ht.2.1 (ht.2.2.2.2.2.2 i hi) (fun M26 r26 g26 h26 e26 => ?_)
    refine pv_then1 ?_
    exact pv_ireturn (pc := 29) rfl (fm_dec dtX11_costOf 20 rfl) (hq _ _ g26 h26 (by rw [if_neg (fun h9 => h4 (by rw [e0]; exact (has8 _ ho.2.2.1 i hi8).mpr h9))]; exact e26))
set_option maxRecDepth 20000 in
theorem mri_loop {Q : fmR → fmM → Prop} {M0 : fmM} {D : dD} {cs : tC} {S : aS} (h0 : mAq M0 D cs S) : ∀ (m : Nat) (n : Nat) (M : fmM) (a : Int64), (∀ k j, k ≠ 5 → k ≠ 6 → M.1 k j = M0.1 k j) → n ≤ D.1 → D.1 - n = m → a.toInt = riG D cs S 0 n → (∀ (M' : fmM) (r : Int64), (∀ k j, k ≠ 5 → k ≠ 6 → M'.1 k j = M0.1 k j) → r.toInt = riG D cs S 0 D.1 → Q (.inl (some (.long r))) M') → pvEv Tm 40 qX11_riskOf 5 [some (.ref 0), some (.ref 7), some (.long a), none, some (.int (nI n))] [] M Q := by
  intro m
  induction m using Nat.strongRecOn with
  | _ m ih =>
    intro n M a hfr hnD hm ha hq
    have h9q := h0.low (fun k j _ a b => hfr k j a b) (hfr 0 17 (by decide) (by decide))
    obtain ⟨hD, hY, hM, hd, ht, ho⟩ := h9q
    have d8 := hD.1
    have hn9 : (nI n).toInt = (n : Int) := nI_toInt (by omega)
    have h39 : (M.1 4 (Int32.toNatClampNeg 0)).toInt = (D.1 : Int) := hY.1
    refine pv_iload (pc := 5) (i := 4) rfl (fm_dec dtX11_riskOf 4 rfl) ?_
    refine pv_aloadn (pc := 7) (n := 0) 0 rfl rfl (fm_dec dtX11_riskOf 5 rfl) ?_
    refine pv_getR (k := 0) (j := 12) (ci := 11) (pc := 8) 4 rfl (by decide) pfl_X11_23 (by decide) rfl (by decide) (fm_dec dtX11_riskOf 6 rfl) ?_
    refine pv_iconst (pc := 11) (v := 0) (by decide) (fm_dec dtX11_riskOf 7 rfl) ?_
    refine pv_iald (k := 4) (n := 6) (pc := 12) (by decide) rfl rfl (fm_inl (by decide)) (fm_dec dtX11_riskOf 8 rfl) ?_
    refine pv_icmp_ge (pc := 13) 44 (by decide) (fm_dec dtX11_riskOf 9 rfl) (fun hc13 => ?_) (fun hc13 => ?_)
    · refine pv_lloadn (pc := 44) (n := 2) 2 rfl rfl (fm_dec dtX11_riskOf 28 rfl) ?_
      exact pv_lreturn (pc := 45) rfl (fm_dec dtX11_riskOf 29 rfl) (by have e9 : n = D.1 := (by rw [sc_le] at hc13; omega); subst e9; exact hq _ _ hfr ha)
    · have hn : n < D.1 := (by rw [sc_le] at hc13; omega)
      have hn8 : n < 8 := (by omega)
      have ab := ag_b ho hn
      have g5 : (M.1 (35 + n) (Int32.toNatClampNeg 1)).toInt = D.2.1 n 1 := hY.2.2.2.1 n hn 1 (by decide)
      have c9 := ri_1 (cs := cs) (dead := S.1.2.2.1) (w := S.1.1) (ag := S.2 n) hD hn
      have cb := ri_b (cs := cs) (S := S) (lt := 0) hD n (by omega)
      refine pv_lloadn (pc := 16) (n := 2) 2 rfl rfl (fm_dec dtX11_riskOf 10 rfl) ?_
      refine pv_aloadn (pc := 17) (n := 0) 0 rfl rfl (fm_dec dtX11_riskOf 11 rfl) ?_
      refine pv_getR (k := 0) (j := 14) (ci := 11) (pc := 18) 17 rfl (by decide) pfl_X11_31 (by decide) rfl (by decide) (fm_dec dtX11_riskOf 12 rfl) ?_
      refine pv_iload (pc := 21) (i := 4) rfl (fm_dec dtX11_riskOf 13 rfl) ?_
      refine pv_aald (k := 17) (n := 8) (r := (35 + n)) (pc := 23) (by decide) (Or.inr (Or.inr rfl)) rfl (rw_life.inb hn9 hn8) (rw_life.at hn9 hn8) (rw_life.2.2.2 _ hn8).2.1 (fm_dec dtX11_riskOf 14 rfl) ?_
      refine pv_iconst (pc := 24) (v := 1) (by decide) (fm_dec dtX11_riskOf 15 rfl) ?_
      refine pv_iald (k := (35 + n)) (n := 6) (pc := 25) (rw_life.2.2.2 _ hn8).2.2.1 (rw_life.2.2.2 _ hn8).2.2.2.1 (rw_life.2.2.2 _ hn8).2.2.2.2 (fm_inl (by decide)) (fm_dec dtX11_riskOf 16 rfl) ?_
      refine pv_i2l (pc := 26) (fm_dec dtX11_riskOf 17 rfl) ?_
      refine pv_aloadn (pc := 27) (n := 0) 0 rfl rfl (fm_dec dtX11_riskOf 18 rfl) ?_
      refine pv_aloadn (pc := 28) (n := 1) 1 rfl rfl (fm_dec dtX11_riskOf 19 rfl) ?_
      refine pv_iload (pc := 29) (i := 4) rfl (fm_dec dtX11_riskOf 20 rfl) ?_
      refine pv_invV2 (k := 0) (d' := 8) (pc := 31) pcv_X11_293 (by decide) rfl (Nat.le_of_ble_eq_true rfl) (by decide) (fm_dec dtX11_riskOf 21 rfl) ?_
      refine c_mcofA ⟨hD, hY, hM, hd, ht, ho⟩ hn (fun M31 r31 g31 h31 e31 => ?_)
      refine pv_then1 ?_
      refine pv_i2l (pc := 34) (fm_dec dtX11_riskOf 22 rfl) ?_
      refine pv_lmul (pc := 35) (fm_dec dtX11_riskOf 23 rfl) ?_
      refine pv_ladd (pc := 36) (fm_dec dtX11_riskOf 24 rfl) ?_
      refine pv_lstoren (pc := 37) (n := 2) 2 rfl (by decide) rfl (fm_dec dtX11_riskOf 25 rfl) ?_
      dsimp only [List.set_cons_zero, List.set_cons_succ]
      refine pv_iincc (pc := 38) 4 1 (by decide) rfl (by decide) rfl (fm_dec dtX11_riskOf 26 rfl) ?_
      dsimp only [List.set_cons_zero, List.set_cons_succ]
      refine pv_goto (pc := 41) 5 (by decide) (fm_dec dtX11_riskOf 27 rfl) ?_
      rw [nI_succ1]
      have z0 : D.2.1 n 1 * 0 = 0 := Int.mul_zero _
      have e6 : r31.toInt64.toInt = (if S.1.2.2.1.testBit n then 0 else coS D cs S n) := (by rw [Int32.toInt_toInt64]; exact e31)
      have e9 : riG D cs S 0 (n + 1) = riG D cs S 0 n + D.2.1 n 1 * (if S.1.2.2.1.testBit n then 0 else coS D cs S n) := (by cases ht9 : S.1.2.2.1.testBit n with | true => (rw [ri_t ht9, if_pos rfl]; omega) | false => (rw [ri_f ht9, if_neg (show ¬ (false = true) by decide), coS_A]; have e5 : (if S.2 n = -1 then -1 else S.2 n + ((0 : Nat) : Int)) = S.2 n := (by split <;> omega); rw [e5, Nat.add_zero]))
      have c8 : 0 ≤ D.2.1 n 1 * (if S.1.2.2.1.testBit n then 0 else coS D cs S n) ∧ D.2.1 n 1 * (if S.1.2.2.1.testBit n then 0 else coS D cs S n) ≤ 3649536 := (by cases S.1.2.2.1.testBit n with | true => (rw [if_pos rfl]; omega) | false => (rw [if_neg (by decide)]; exact c9))
      have e8 := ml_i g5 e6 (by omega) (by omega)
      have e7 := ad_j ha e8 (by omega) (by omega)
      exact ih (D.1 - (n + 1)) (by omega) (n + 1) M31 _ (fun k j a b => (g31 k j a b).trans (hfr k j a b)) (by omega) rfl (by rw [e9]; exact e7) hq
set_option maxRecDepth 20000 in
theorem c_mrisk {M : fmM} {Q : fmR → fmM → Prop} {D : dD} {cs : tC} {S : aS} (h : mAq M D cs S) (hq : ∀ (M' : fmM) (r : Int64), (∀ k j, k ≠ 5 → k ≠ 6 → M'.1 k j = M.1 k j) → r.toInt = riG D cs S 0 D.1 → Q (.inl (some (.long r))) M') : pvGood Tm 41 qX11_riskOf [.ref 0, .ref 7] M Q := by
  refine pvGood_of (Nat.le_of_ble_eq_true rfl) ?_
  show pvEv Tm 41 qX11_riskOf 0 [some (.ref 0), some (.ref 7), none, none, none] [] M Q
  refine pv_lconst (pc := 0) (v := 0) (by decide) (fm_dec dtX11_riskOf 0 rfl) ?_
  refine pv_lstoren (pc := 1) (n := 2) 2 rfl (by decide) rfl (fm_dec dtX11_riskOf 1 rfl) ?_
  dsimp only [List.set_cons_zero, List.set_cons_succ]
  refine pv_iconst (pc := 2) (v := 0) (by decide) (fm_dec dtX11_riskOf 2 rfl) ?_
  refine pv_istore (pc := 3) (i := 4) (by decide) rfl (fm_dec dtX11_riskOf 3 rfl) ?_
  dsimp only [List.set_cons_zero, List.set_cons_succ]
  exact (mri_loop h D.1 0 M 0 (fun _ _ _ _ => rfl) (Nat.zero_le _) rfl (by show (0 : Int64).toInt = (0 : Int); decide) hq).up (by decide)
def mstT (M : fmM) (D : dD) (S : aS) : Prop := (M.1 8 0).toInt = (S.1.2.2.1 : Int) ∧ (M.1 8 10).toInt = (S.1.1 : Int) ∧ (M.1 8 9).toInt = (S.1.2.1 : Int) ∧ (M.1 8 11).toInt = (S.1.2.2.2.1 : Int) ∧ (M.1 8 12).toInt = (S.1.2.2.2.2.1 : Int) ∧ (M.1 8 13).toInt = S.1.2.2.2.2.2 ∧ ∀ i, i < D.1 → (M.1 8 (1 + i)).toInt = if S.2 i = -1 then -1000 else (S.1.1 : Int) - S.2 i
theorem mstT.of {M M' : fmM} {D : dD} {S : aS} (h : mstT M D S) (e : ∀ j, M'.1 8 j = M.1 8 j) : mstT M' D S := by
  obtain ⟨a, b, c, d, e1, f, g⟩ := h
  exact ⟨by rw [e]; exact a, by rw [e]; exact b, by rw [e]; exact c, by rw [e]; exact d, by rw [e]; exact e1, by rw [e]; exact f, fun i hi => by rw [e]; exact g i hi⟩
theorem mstT.no {M : fmM} {D : dD} {S : aS} {i : Nat} (h : mstT M D S) (ho : stO D S) (hi : i < D.1) : M.1 8 (1 + i) = -1000 ↔ S.2 i = -1 := by
  have h9 := h.2.2.2.2.2.2 i hi
  have b := ho.2.2.2.2.2.2.1 i hi
  have zm : (-1000 : Int32).toInt = -1000 := by decide
  constructor
  · intro e
    rw [e, zm] at h9
    split at h9
    · assumption
    · omega
  · intro e
    rw [if_pos e] at h9
    exact i32_ext (h9.trans zm.symm)
set_option maxRecDepth 20000 in
theorem c_msdT {M : fmM} {Q : fmR → fmM → Prop} {D : dD} {S : aS} {i : Nat} (hD : dOk D) (hY : mdw M D) (hs : mstT M D S) (ho : stO D S) (hi : i < D.1) (hq : Q (.inl (some (.int (nI (sdA D S.1.2.2.1 i))))) M) : pvGood Tm 1 qX11_isByDead [.ref 0, .ref 8, .int (nI i)] M Q := by
  refine pvGood_of (Nat.le_of_ble_eq_true rfl) ?_
  show pvEv Tm 1 qX11_isByDead 0 [some (.ref 0), some (.ref 8), some (.int (nI i))] [] M Q
  have d8 := hD.1
  have hi9 : (nI i).toInt = (i : Int) := nI_toInt (by omega)
  have hi8 : i < 8 := (by omega)
  have g5 : (M.1 (35 + i) (Int32.toNatClampNeg 5)).toInt = chB D i := hY.2.2.2.1 i hi 5 (by decide)
  have zm : (-1 : Int32).toInt = -1 := (by decide)
  have ec : D.2.1 i 5 = chB D i := rfl
  have e0 : M.1 8 (Int32.toNatClampNeg 0) = nI S.1.2.2.1 := nI_is hs.1 (by have := ho.2.2.1; omega)
  refine pv_aloadn (pc := 0) (n := 0) 0 rfl rfl (fm_dec dtX11_isByDead 0 rfl) ?_
  refine pv_getR (k := 0) (j := 14) (ci := 11) (pc := 1) 17 rfl (by decide) pfl_X11_31 (by decide) rfl (by decide) (fm_dec dtX11_isByDead 1 rfl) ?_
  refine pv_iloadn (pc := 4) (n := 2) 2 rfl rfl (fm_dec dtX11_isByDead 2 rfl) ?_
  refine pv_aald (k := 17) (n := 8) (r := (35 + i)) (pc := 5) (by decide) (Or.inr (Or.inr rfl)) rfl (rw_life.inb hi9 hi8) (rw_life.at hi9 hi8) (rw_life.2.2.2 _ hi8).2.1 (fm_dec dtX11_isByDead 3 rfl) ?_
  refine pv_iconst (pc := 6) (v := 5) (by decide) (fm_dec dtX11_isByDead 4 rfl) ?_
  refine pv_iald (k := (35 + i)) (n := 6) (pc := 7) (rw_life.2.2.2 _ hi8).2.2.1 (rw_life.2.2.2 _ hi8).2.2.2.1 (rw_life.2.2.2 _ hi8).2.2.2.2 (fm_inl (by decide)) (fm_dec dtX11_isByDead 5 rfl) ?_
  refine pv_iconst (pc := 8) (v := (-1)) (by decide) (fm_dec dtX11_isByDead 6 rfl) ?_
  refine pv_icmp_eq (pc := 9) 33 (by decide) (fm_dec dtX11_isByDead 7 rfl) (fun hc9 => ?_) (fun hc9 => ?_)
  · refine pv_iconst (pc := 33) (v := 0) (by decide) (fm_dec dtX11_isByDead 21 rfl) ?_
    exact pv_ireturn (pc := 34) rfl (fm_dec dtX11_isByDead 22 rfl) (by have h9 := hq; unfold sdA at h9; rw [if_pos (by have h8 := congrArg Int32.toInt hc9; omega)] at h9; exact h9)
  · have hn9 : ¬ chB D i < 0 := (by intro h9; apply hc9; apply i32_ext; have h8 := (hD.2.2.1 i hi).2.2.2.2.2; omega)
    obtain ⟨k, hk, hk8, hkb, hkx⟩ := by_d hD hi g5 hn9
    refine pv_aloadn (pc := 12) (n := 1) 1 rfl rfl (fm_dec dtX11_isByDead 8 rfl) ?_
    refine pv_iconst (pc := 13) (v := 0) (by decide) (fm_dec dtX11_isByDead 9 rfl) ?_
    refine pv_iald (k := 8) (n := 14) (pc := 14) (by decide) rfl rfl (fm_inl (by decide)) (fm_dec dtX11_isByDead 10 rfl) ?_
    refine pv_aloadn (pc := 15) (n := 0) 0 rfl rfl (fm_dec dtX11_isByDead 11 rfl) ?_
    refine pv_getR (k := 0) (j := 14) (ci := 11) (pc := 16) 17 rfl (by decide) pfl_X11_31 (by decide) rfl (by decide) (fm_dec dtX11_isByDead 12 rfl) ?_
    refine pv_iloadn (pc := 19) (n := 2) 2 rfl rfl (fm_dec dtX11_isByDead 13 rfl) ?_
    refine pv_aald (k := 17) (n := 8) (r := (35 + i)) (pc := 20) (by decide) (Or.inr (Or.inr rfl)) rfl (rw_life.inb hi9 hi8) (rw_life.at hi9 hi8) (rw_life.2.2.2 _ hi8).2.1 (fm_dec dtX11_isByDead 14 rfl) ?_
    refine pv_iconst (pc := 21) (v := 5) (by decide) (fm_dec dtX11_isByDead 15 rfl) ?_
    refine pv_iald (k := (35 + i)) (n := 6) (pc := 22) (rw_life.2.2.2 _ hi8).2.2.1 (rw_life.2.2.2 _ hi8).2.2.2.1 (rw_life.2.2.2 _ hi8).2.2.2.2 (fm_inl (by decide)) (fm_dec dtX11_isByDead 16 rfl) ?_
    refine pv_iS2 (d' := 0) (pc := 23) pcs_X11_256 (Nat.le_of_ble_eq_true rfl) (by decide) (fm_dec dtX11_isByDead 17 rfl) ?_
    refine c_has (fun h23 => ?_) (fun h23 => ?_)
    · refine pv_then1 ?_
      refine pv_if_eq (pc := 26) 33 (by decide) (fm_dec dtX11_isByDead 18 rfl) (fun hc26 => by exfalso; revert hc26; decide) (fun _ => ?_)
      refine pv_iconst (pc := 29) (v := 1) (by decide) (fm_dec dtX11_isByDead 19 rfl) ?_
      refine pv_goto (pc := 30) 34 (by decide) (fm_dec dtX11_isByDead 20 rfl) ?_
      exact pv_ireturn (pc := 34) rfl (fm_dec dtX11_isByDead 22 rfl) (by have h9 := hq; unfold sdA at h9; rw [if_neg (by omega), ec, hkb, Int.toNat_natCast, if_pos ((has8 _ ho.2.2.1 k hk8).mp (by rw [← e0, ← hkx]; exact h23))] at h9; exact h9)
    · refine pv_then1 ?_
      refine pv_if_eq (pc := 26) 33 (by decide) (fm_dec dtX11_isByDead 18 rfl) (fun _ => ?_) (fun hc26 => by exfalso; revert hc26; decide)
      refine pv_iconst (pc := 33) (v := 0) (by decide) (fm_dec dtX11_isByDead 21 rfl) ?_
      exact pv_ireturn (pc := 34) rfl (fm_dec dtX11_isByDead 22 rfl) (by have h9 := hq; unfold sdA at h9; rw [if_neg (by omega), ec, hkb, Int.toNat_natCast, if_neg (fun h8 => h23 (by rw [e0, hkx]; exact (has8 _ ho.2.2.1 k hk8).mpr h8))] at h9; exact h9)
set_option maxRecDepth 20000 in
theorem c_mwrgGT {M : fmM} {Q : fmR → fmM → Prop} {D : dD} {cs : tC} {S : aS} {i a wN : Nat} {wr w : Int32} (hD : dOk D) (hY : mdw M D) (hL : lwM M cs) (hd : cs = [] ∨ dpB 23 0 cs = some 1) (hs : mstT M D S) (ho : stO D S) (hi : i < D.1) (hw : w.toInt = (wN : Int)) (hw2 : wN ≤ 300) (hr : wr.toInt = (wN : Int) - a) (ha : a ≤ 400) (hq : ∀ (M' : fmM) (r : Int32), (∀ k j, k ≠ 5 → k ≠ 6 → M'.1 k j = M.1 k j) → M'.2 = M.2 → r.toInt = wrS D cs S.1.2.2.1 wN i a → Q (.inl (some (.int r))) M') : pvGood Tm 5 qX11_wrongIn [.ref 0, .ref 8, .int (nI i), .int wr, .int w] M Q := by
  refine pvGood_of (Nat.le_of_ble_eq_true rfl) ?_
  show pvEv Tm 5 qX11_wrongIn 0 [some (.ref 0), some (.ref 8), some (.int (nI i)), some (.int wr), some (.int w)] [] M Q
  have d8 := hD.1
  have hi9 : (nI i).toInt = (i : Int) := nI_toInt (by omega)
  have hi8 : i < 8 := (by omega)
  have b2 := (hD.2.2.1 i hi).2.2.1
  have g2 : M.1 (35 + i) (Int32.toNatClampNeg 2) = nI (D.2.1 i 2).toNat := nI_is (by have h9 : (M.1 (35 + i) (Int32.toNatClampNeg 2)).toInt = D.2.1 i 2 := hY.2.2.2.1 i hi 2 (by decide); omega) (by omega)
  have ea : w - wr = nI a := nI_is (by rw [sc_sub (by omega) (by omega)]; omega) (by omega)
  refine pv_aloadn (pc := 0) (n := 0) 0 rfl rfl (fm_dec dtX11_wrongIn 0 rfl) ?_
  refine pv_iload (pc := 1) (i := 4) rfl (fm_dec dtX11_wrongIn 1 rfl) ?_
  refine pv_iloadn (pc := 3) (n := 3) 3 rfl rfl (fm_dec dtX11_wrongIn 2 rfl) ?_
  refine pv_isub (pc := 4) (fm_dec dtX11_wrongIn 3 rfl) ?_
  refine pv_aloadn (pc := 5) (n := 0) 0 rfl rfl (fm_dec dtX11_wrongIn 4 rfl) ?_
  refine pv_iloadn (pc := 6) (n := 2) 2 rfl rfl (fm_dec dtX11_wrongIn 5 rfl) ?_
  refine pv_iload (pc := 7) (i := 4) rfl (fm_dec dtX11_wrongIn 6 rfl) ?_
  refine pv_invV2 (k := 0) (d' := 0) (pc := 9) pcv_X11_263 (by decide) rfl (Nat.le_of_ble_eq_true rfl) (by decide) (fm_dec dtX11_wrongIn 7 rfl) ?_
  refine c_myr hD hY hi hw hw2 ?_
  refine pv_then1 ?_
  refine pv_aloadn (pc := 12) (n := 0) 0 rfl rfl (fm_dec dtX11_wrongIn 8 rfl) ?_
  refine pv_getR (k := 0) (j := 14) (ci := 11) (pc := 13) 17 rfl (by decide) pfl_X11_31 (by decide) rfl (by decide) (fm_dec dtX11_wrongIn 9 rfl) ?_
  refine pv_iloadn (pc := 16) (n := 2) 2 rfl rfl (fm_dec dtX11_wrongIn 10 rfl) ?_
  refine pv_aald (k := 17) (n := 8) (r := (35 + i)) (pc := 17) (by decide) (Or.inr (Or.inr rfl)) rfl (rw_life.inb hi9 hi8) (rw_life.at hi9 hi8) (rw_life.2.2.2 _ hi8).2.1 (fm_dec dtX11_wrongIn 11 rfl) ?_
  refine pv_iconst (pc := 18) (v := 2) (by decide) (fm_dec dtX11_wrongIn 12 rfl) ?_
  refine pv_iald (k := (35 + i)) (n := 6) (pc := 19) (rw_life.2.2.2 _ hi8).2.2.1 (rw_life.2.2.2 _ hi8).2.2.2.1 (rw_life.2.2.2 _ hi8).2.2.2.2 (fm_inl (by decide)) (fm_dec dtX11_wrongIn 13 rfl) ?_
  refine pv_aloadn (pc := 20) (n := 0) 0 rfl rfl (fm_dec dtX11_wrongIn 14 rfl) ?_
  refine pv_aloadn (pc := 21) (n := 1) 1 rfl rfl (fm_dec dtX11_wrongIn 15 rfl) ?_
  refine pv_iloadn (pc := 22) (n := 2) 2 rfl rfl (fm_dec dtX11_wrongIn 16 rfl) ?_
  refine pv_invV2 (k := 0) (d' := 1) (pc := 23) pcv_X11_266 (by decide) rfl (Nat.le_of_ble_eq_true rfl) (by decide) (fm_dec dtX11_wrongIn 17 rfl) ?_
  refine c_msdT hD hY hs ho hi ?_
  refine pv_then1 ?_
  refine pv_aloadn (pc := 26) (n := 0) 0 rfl rfl (fm_dec dtX11_wrongIn 18 rfl) ?_
  refine pv_iloadn (pc := 27) (n := 2) 2 rfl rfl (fm_dec dtX11_wrongIn 19 rfl) ?_
  refine pv_iloadn (pc := 28) (n := 3) 3 rfl rfl (fm_dec dtX11_wrongIn 20 rfl) ?_
  refine pv_iload (pc := 29) (i := 4) rfl (fm_dec dtX11_wrongIn 21 rfl) ?_
  refine pv_invV3 (k := 0) (d' := 0) (pc := 31) pcv_X11_270 (by decide) rfl (Nat.le_of_ble_eq_true rfl) (by decide) (fm_dec dtX11_wrongIn 22 rfl) ?_
  refine c_mcg hD hY ?_
  refine pv_then1 ?_
  refine pv_invV5 (k := 0) (d' := 4) (pc := 34) pcv_X11_273 (by decide) rfl (Nat.le_of_ble_eq_true rfl) (by decide) (fm_dec dtX11_wrongIn 23 rfl) ?_
  refine c_mlw hL hd (fun M34 g34 h34 => ?_)
  refine pv_then1 ?_
  exact pv_ireturn (pc := 37) rfl (fm_dec dtX11_wrongIn 24 rfl) (hq M34 _ g34 h34 (by unfold wrS; rw [ea, g2, hi9, hw, hr]))
set_option maxRecDepth 20000 in
theorem c_mcoGT {M : fmM} {Q : fmR → fmM → Prop} {D : dD} {cs : tC} {S : aS} {i wN : Nat} {ag : Int} {wr w : Int32} (hD : dOk D) (hY : mdw M D) (hL : lwM M cs) (hd : cs = [] ∨ dpB 23 0 cs = some 1) (hs : mstT M D S) (ho : stO D S) (hi : i < D.1) (hw : w.toInt = (wN : Int)) (hw2 : wN ≤ 300) (hr : wr.toInt = if ag = -1 then -1000 else (wN : Int) - ag) (ha : -1 ≤ ag ∧ ag ≤ 400) (hq : ∀ (M' : fmM) (r : Int32), (∀ k j, k ≠ 5 → k ≠ 6 → M'.1 k j = M.1 k j) → M'.2 = M.2 → r.toInt = coA D cs S.1.2.2.1 wN i ag → Q (.inl (some (.int r))) M') : pvGood Tm 6 qX11_costIn [.ref 0, .ref 8, .int (nI i), .int wr, .int w] M Q := by
  refine pvGood_of (Nat.le_of_ble_eq_true rfl) ?_
  show pvEv Tm 6 qX11_costIn 0 [some (.ref 0), some (.ref 8), some (.int (nI i)), some (.int wr), some (.int w)] [] M Q
  have d8 := hD.1
  have hi9 : (nI i).toInt = (i : Int) := nI_toInt (by omega)
  have hi8 : i < 8 := (by omega)
  have zm : (-1000 : Int32).toInt = -1000 := (by decide)
  have z64 : (64 : Int32).toInt = 64 := (by decide)
  have b2 := (hD.2.2.1 i hi).2.2.1
  have b3 := hD.2.2.2.2.2.1
  have b4 := hD.2.2.2.2.2.2.1
  have g2 : (M.1 (35 + i) (Int32.toNatClampNeg 2)).toInt = D.2.1 i 2 := hY.2.2.2.1 i hi 2 (by decide)
  have g3 : (M.1 4 (Int32.toNatClampNeg 3)).toInt = D.2.2.2.2 3 := hY.2.2.1 3 (by decide) (by decide)
  have g4 : (M.1 4 (Int32.toNatClampNeg 4)).toInt = D.2.2.2.2 4 := hY.2.2.1 4 (by decide) (by decide)
  refine pv_iloadn (pc := 0) (n := 3) 3 rfl rfl (fm_dec dtX11_costIn 0 rfl) ?_
  refine pv_sipush (pc := 1) (v := (-1000)) (by decide) (fm_dec dtX11_costIn 1 rfl) ?_
  refine pv_icmp_ne (pc := 4) 28 (by decide) (fm_dec dtX11_costIn 2 rfl) (fun hc4 => ?_) (fun hc4 => ?_)
  · have hne : ¬ ag = -1 := (fun h9 => hc4 (i32_ext (by rw [hr, if_pos h9, zm])))
    rw [if_neg hne] at hr
    refine pv_aloadn (pc := 28) (n := 0) 0 rfl rfl (fm_dec dtX11_costIn 17 rfl) ?_
    refine pv_getR (k := 0) (j := 12) (ci := 11) (pc := 29) 4 rfl (by decide) pfl_X11_23 (by decide) rfl (by decide) (fm_dec dtX11_costIn 18 rfl) ?_
    refine pv_iconst (pc := 32) (v := 4) (by decide) (fm_dec dtX11_costIn 19 rfl) ?_
    refine pv_iald (k := 4) (n := 6) (pc := 33) (by decide) rfl rfl (fm_inl (by decide)) (fm_dec dtX11_costIn 20 rfl) ?_
    refine pv_aloadn (pc := 34) (n := 0) 0 rfl rfl (fm_dec dtX11_costIn 21 rfl) ?_
    refine pv_getR (k := 0) (j := 14) (ci := 11) (pc := 35) 17 rfl (by decide) pfl_X11_31 (by decide) rfl (by decide) (fm_dec dtX11_costIn 22 rfl) ?_
    refine pv_iloadn (pc := 38) (n := 2) 2 rfl rfl (fm_dec dtX11_costIn 23 rfl) ?_
    refine pv_aald (k := 17) (n := 8) (r := (35 + i)) (pc := 39) (by decide) (Or.inr (Or.inr rfl)) rfl (rw_life.inb hi9 hi8) (rw_life.at hi9 hi8) (rw_life.2.2.2 _ hi8).2.1 (fm_dec dtX11_costIn 24 rfl) ?_
    refine pv_iconst (pc := 40) (v := 2) (by decide) (fm_dec dtX11_costIn 25 rfl) ?_
    refine pv_iald (k := (35 + i)) (n := 6) (pc := 41) (rw_life.2.2.2 _ hi8).2.2.1 (rw_life.2.2.2 _ hi8).2.2.2.1 (rw_life.2.2.2 _ hi8).2.2.2.2 (fm_inl (by decide)) (fm_dec dtX11_costIn 26 rfl) ?_
    refine pv_imul (pc := 42) (fm_dec dtX11_costIn 27 rfl) ?_
    refine pv_aloadn (pc := 43) (n := 0) 0 rfl rfl (fm_dec dtX11_costIn 28 rfl) ?_
    refine pv_aloadn (pc := 44) (n := 1) 1 rfl rfl (fm_dec dtX11_costIn 29 rfl) ?_
    refine pv_iloadn (pc := 45) (n := 2) 2 rfl rfl (fm_dec dtX11_costIn 30 rfl) ?_
    refine pv_iloadn (pc := 46) (n := 3) 3 rfl rfl (fm_dec dtX11_costIn 31 rfl) ?_
    refine pv_iload (pc := 47) (i := 4) rfl (fm_dec dtX11_costIn 32 rfl) ?_
    refine pv_invV4 (k := 0) (d' := 5) (pc := 49) pcv_X11_276 (by decide) rfl (Nat.le_of_ble_eq_true rfl) (by decide) (fm_dec dtX11_costIn 33 rfl) ?_
    refine c_mwrgGT (a := ag.toNat) hD hY hL hd hs ho hi hw hw2 (by omega) (by omega) (fun M49 r49 g49 h49 e49 => ?_)
    refine pv_then1 ?_
    refine pv_imul (pc := 52) (fm_dec dtX11_costIn 34 rfl) ?_
    exact pv_ireturn (pc := 53) rfl (fm_dec dtX11_costIn 35 rfl) (hq M49 _ g49 h49 (by have h1 := mul_b (a := D.2.2.2.2 4) (b := D.2.1 i 2) (m := 9) (n := 99) (by omega) (by omega) (by omega) (by omega); have hw9 := wrS_b (D := D) (cs := cs) (dead := S.1.2.2.1) (w := wN) (i := i) (age := ag.toNat); have h2 := mul_b (a := D.2.2.2.2 4 * D.2.1 i 2) (b := wrS D cs S.1.2.2.1 wN i ag.toNat) (m := 891) (n := 64) (by omega) (by omega) hw9.1 hw9.2; have e1 : (M.1 4 (Int32.toNatClampNeg 4) * M.1 (35 + i) (Int32.toNatClampNeg 2)).toInt = D.2.2.2.2 4 * D.2.1 i 2 := (by rw [sc_mul (by rw [g4, g2]; omega) (by rw [g4, g2]; omega), g4, g2]); rw [sc_mul (by rw [e1, e49]; omega) (by rw [e1, e49]; omega), e1, e49]; unfold coA; rw [if_neg hne]))
  · refine pv_bipush (pc := 7) (v := 64) (by decide) (fm_dec dtX11_costIn 3 rfl) ?_
    refine pv_aloadn (pc := 9) (n := 0) 0 rfl rfl (fm_dec dtX11_costIn 4 rfl) ?_
    refine pv_getR (k := 0) (j := 12) (ci := 11) (pc := 10) 4 rfl (by decide) pfl_X11_23 (by decide) rfl (by decide) (fm_dec dtX11_costIn 5 rfl) ?_
    refine pv_iconst (pc := 13) (v := 3) (by decide) (fm_dec dtX11_costIn 6 rfl) ?_
    refine pv_iald (k := 4) (n := 6) (pc := 14) (by decide) rfl rfl (fm_inl (by decide)) (fm_dec dtX11_costIn 7 rfl) ?_
    refine pv_imul (pc := 15) (fm_dec dtX11_costIn 8 rfl) ?_
    refine pv_aloadn (pc := 16) (n := 0) 0 rfl rfl (fm_dec dtX11_costIn 9 rfl) ?_
    refine pv_getR (k := 0) (j := 14) (ci := 11) (pc := 17) 17 rfl (by decide) pfl_X11_31 (by decide) rfl (by decide) (fm_dec dtX11_costIn 10 rfl) ?_
    refine pv_iloadn (pc := 20) (n := 2) 2 rfl rfl (fm_dec dtX11_costIn 11 rfl) ?_
    refine pv_aald (k := 17) (n := 8) (r := (35 + i)) (pc := 21) (by decide) (Or.inr (Or.inr rfl)) rfl (rw_life.inb hi9 hi8) (rw_life.at hi9 hi8) (rw_life.2.2.2 _ hi8).2.1 (fm_dec dtX11_costIn 12 rfl) ?_
    refine pv_iconst (pc := 22) (v := 2) (by decide) (fm_dec dtX11_costIn 13 rfl) ?_
    refine pv_iald (k := (35 + i)) (n := 6) (pc := 23) (rw_life.2.2.2 _ hi8).2.2.1 (rw_life.2.2.2 _ hi8).2.2.2.1 (rw_life.2.2.2 _ hi8).2.2.2.2 (fm_inl (by decide)) (fm_dec dtX11_costIn 14 rfl) ?_
    refine pv_imul (pc := 24) (fm_dec dtX11_costIn 15 rfl) ?_
    refine pv_goto (pc := 25) 53 (by decide) (fm_dec dtX11_costIn 16 rfl) ?_
    exact pv_ireturn (pc := 53) rfl (fm_dec dtX11_costIn 35 rfl) (hq M _ (fun _ _ _ _ => rfl) rfl (by have hm : ag = -1 := (by have h9 := congrArg Int32.toInt hc4; rw [hr, zm] at h9; split at h9; assumption; omega); have h1 := mul_b (a := 64) (b := D.2.2.2.2 3) (m := 64) (n := 9) (by omega) (by omega) (by omega) (by omega); have h2 := mul_b (a := 64 * D.2.2.2.2 3) (b := D.2.1 i 2) (m := 576) (n := 99) (by omega) (by omega) (by omega) (by omega); have e1 : ((64 : Int32) * M.1 4 (Int32.toNatClampNeg 3)).toInt = 64 * D.2.2.2.2 3 := (by rw [sc_mul (by rw [z64, g3]; omega) (by rw [z64, g3]; omega), z64, g3]); rw [sc_mul (by rw [e1, g2]; omega) (by rw [e1, g2]; omega), e1, g2]; unfold coA; rw [if_pos hm]))
theorem c_mcoT {M : fmM} {Q : fmR → fmM → Prop} {D : dD} {cs : tC} {S : aS} {i : Nat} {wr w : Int32} (hD : dOk D) (hY : mdw M D) (hL : lwM M cs) (hd : cs = [] ∨ dpB 23 0 cs = some 1) (hs : mstT M D S) (ho : stO D S) (hi : i < D.1) (hw : w.toInt = (S.1.1 : Int)) (hr : wr.toInt = if S.2 i = -1 then -1000 else (S.1.1 : Int) - S.2 i) (hq : ∀ (M' : fmM) (r : Int32), (∀ k j, k ≠ 5 → k ≠ 6 → M'.1 k j = M.1 k j) → M'.2 = M.2 → r.toInt = coS D cs S i → Q (.inl (some (.int r))) M') : pvGood Tm 6 qX11_costIn [.ref 0, .ref 8, .int (nI i), .int wr, .int w] M Q := c_mcoGT hD hY hL hd hs ho hi hw (by have := ho.1; omega) hr (by have h1 := ho.2.2.2.2.2.2.1 i hi; have h2 := ho.1; omega) hq
/-- and the other's -/
def mAqT (M : fmM) (D : dD) (cs : tC) (S : aS) : Prop := dOk D ∧ mdw M D ∧ lwM M cs ∧ (cs = [] ∨ dpB 23 0 cs = some 1) ∧ mstT M D S ∧ stO D S
theorem mAqT.low {M M' : fmM} {D : dD} {cs : tC} {S : aS} (h : mAqT M D cs S) (hk : ∀ k j, k ≠ 0 → k ≠ 5 → k ≠ 6 → M'.1 k j = M.1 k j) (h0 : M'.1 0 17 = M.1 0 17) : mAqT M' D cs S := ⟨h.1, h.2.1.k h.1 (fun k j a => hk k j (by omega) (by omega) (by omega)), h.2.2.1.f h0 (fun k j a => hk k j (by omega) (by omega) (by omega)), h.2.2.2.1, h.2.2.2.2.1.of (fun j => hk 8 j (by decide) (by decide) (by decide)), h.2.2.2.2.2⟩
theorem mAqT.z {M : fmM} {D : dD} {cs : tC} {S : aS} {x : Int32} (h : mAqT M D cs S) : mAqT (fmI M 0 0 x) D cs S := h.low (fun k j a _ _ => by rw [fmI_k _ _ a]) (by rw [fmI_j _ _ (by decide)])
set_option maxRecDepth 20000 in
theorem c_mcofAT {M : fmM} {Q : fmR → fmM → Prop} {D : dD} {cs : tC} {S : aS} {i : Nat} (h : mAqT M D cs S) (hi : i < D.1) (hq : ∀ (M' : fmM) (r : Int32), (∀ k j, k ≠ 5 → k ≠ 6 → M'.1 k j = M.1 k j) → M'.2 = M.2 → r.toInt = (if S.1.2.2.1.testBit i then 0 else coS D cs S i) → Q (.inl (some (.int r))) M') : pvGood Tm 8 qX11_costOf [.ref 0, .ref 8, .int (nI i)] M Q := by
  refine pvGood_of (Nat.le_of_ble_eq_true rfl) ?_
  show pvEv Tm 8 qX11_costOf 0 [some (.ref 0), some (.ref 8), some (.int (nI i))] [] M Q
  obtain ⟨hD, hY, hM, hd, ht, ho⟩ := h
  have d8 := hD.1
  have hi9 : (nI i).toInt = (i : Int) := nI_toInt (by omega)
  have hi8 : i < 8 := (by omega)
  have h1i := one_i hi8
  have e0 : M.1 8 (Int32.toNatClampNeg 0) = nI S.1.2.2.1 := nI_is ht.1 (by have := ho.2.2.1; omega)
  refine pv_aloadn (pc := 0) (n := 1) 1 rfl rfl (fm_dec dtX11_costOf 0 rfl) ?_
  refine pv_iconst (pc := 1) (v := 0) (by decide) (fm_dec dtX11_costOf 1 rfl) ?_
  refine pv_iald (k := 8) (n := 14) (pc := 2) (by decide) rfl rfl (fm_inl (by decide)) (fm_dec dtX11_costOf 2 rfl) ?_
  refine pv_iloadn (pc := 3) (n := 2) 2 rfl rfl (fm_dec dtX11_costOf 3 rfl) ?_
  refine pv_iS2 (d' := 0) (pc := 4) pcs_X11_256 (Nat.le_of_ble_eq_true rfl) (by decide) (fm_dec dtX11_costOf 4 rfl) ?_
  refine c_has (fun h4 => ?_) (fun h4 => ?_)
  · refine pv_then1 ?_
    refine pv_if_eq (pc := 7) 14 (by decide) (fm_dec dtX11_costOf 5 rfl) (fun hc7 => by exfalso; revert hc7; decide) (fun _ => ?_)
    refine pv_iconst (pc := 10) (v := 0) (by decide) (fm_dec dtX11_costOf 6 rfl) ?_
    refine pv_goto (pc := 11) 29 (by decide) (fm_dec dtX11_costOf 7 rfl) ?_
    exact pv_ireturn (pc := 29) rfl (fm_dec dtX11_costOf 20 rfl) (hq _ _ (fun _ _ _ _ => rfl) rfl (by rw [if_pos ((has8 _ ho.2.2.1 i hi8).mp (by rw [← e0]; exact h4))]; decide))
  · refine pv_then1 ?_
    refine pv_if_eq (pc := 7) 14 (by decide) (fm_dec dtX11_costOf 5 rfl) (fun _ => ?_) (fun hc7 => by exfalso; revert hc7; decide)
    refine pv_aloadn (pc := 14) (n := 0) 0 rfl rfl (fm_dec dtX11_costOf 8 rfl) ?_
    refine pv_aloadn (pc := 15) (n := 1) 1 rfl rfl (fm_dec dtX11_costOf 9 rfl) ?_
    refine pv_iloadn (pc := 16) (n := 2) 2 rfl rfl (fm_dec dtX11_costOf 10 rfl) ?_
    refine pv_aloadn (pc := 17) (n := 1) 1 rfl rfl (fm_dec dtX11_costOf 11 rfl) ?_
    refine pv_iconst (pc := 18) (v := 1) (by decide) (fm_dec dtX11_costOf 12 rfl) ?_
    refine pv_iloadn (pc := 19) (n := 2) 2 rfl rfl (fm_dec dtX11_costOf 13 rfl) ?_
    refine pv_iadd (pc := 20) (fm_dec dtX11_costOf 14 rfl) ?_
    refine pv_iald (k := 8) (n := 14) (pc := 21) (by decide) rfl rfl (ix_in h1i (by omega)) (fm_dec dtX11_costOf 15 rfl) ?_
    rw [i32_cl h1i]
    refine pv_aloadn (pc := 22) (n := 1) 1 rfl rfl (fm_dec dtX11_costOf 16 rfl) ?_
    refine pv_bipush (pc := 23) (v := 10) (by decide) (fm_dec dtX11_costOf 17 rfl) ?_
    refine pv_iald (k := 8) (n := 14) (pc := 25) (by decide) rfl rfl (fm_inl (by decide)) (fm_dec dtX11_costOf 18 rfl) ?_
    refine pv_invV4 (k := 0) (d' := 6) (pc := 26) pcv_X11_280 (by decide) rfl (Nat.le_of_ble_eq_true rfl) (by decide) (fm_dec dtX11_costOf 19 rfl) ?_
    refine c_mcoT hD hY hM hd ht ho hi ht.2.1 (ht.2.2.2.2.2.2 i hi) (fun M26 r26 g26 h26 e26 => ?_)
    refine pv_then1 ?_
    exact pv_ireturn (pc := 29) rfl (fm_dec dtX11_costOf 20 rfl) (hq _ _ g26 h26 (by rw [if_neg (fun h9 => h4 (by rw [e0]; exact (has8 _ ho.2.2.1 i hi8).mpr h9))]; exact e26))
set_option maxRecDepth 20000 in
theorem mri_loopT {Q : fmR → fmM → Prop} {M0 : fmM} {D : dD} {cs : tC} {S : aS} (h0 : mAqT M0 D cs S) : ∀ (m : Nat) (n : Nat) (M : fmM) (a : Int64), (∀ k j, k ≠ 5 → k ≠ 6 → M.1 k j = M0.1 k j) → n ≤ D.1 → D.1 - n = m → a.toInt = riG D cs S 0 n → (∀ (M' : fmM) (r : Int64), (∀ k j, k ≠ 5 → k ≠ 6 → M'.1 k j = M0.1 k j) → r.toInt = riG D cs S 0 D.1 → Q (.inl (some (.long r))) M') → pvEv Tm 40 qX11_riskOf 5 [some (.ref 0), some (.ref 8), some (.long a), none, some (.int (nI n))] [] M Q := by
  intro m
  induction m using Nat.strongRecOn with
  | _ m ih =>
    intro n M a hfr hnD hm ha hq
    have h9q := h0.low (fun k j _ a b => hfr k j a b) (hfr 0 17 (by decide) (by decide))
    obtain ⟨hD, hY, hM, hd, ht, ho⟩ := h9q
    have d8 := hD.1
    have hn9 : (nI n).toInt = (n : Int) := nI_toInt (by omega)
    have h39 : (M.1 4 (Int32.toNatClampNeg 0)).toInt = (D.1 : Int) := hY.1
    refine pv_iload (pc := 5) (i := 4) rfl (fm_dec dtX11_riskOf 4 rfl) ?_
    refine pv_aloadn (pc := 7) (n := 0) 0 rfl rfl (fm_dec dtX11_riskOf 5 rfl) ?_
    refine pv_getR (k := 0) (j := 12) (ci := 11) (pc := 8) 4 rfl (by decide) pfl_X11_23 (by decide) rfl (by decide) (fm_dec dtX11_riskOf 6 rfl) ?_
    refine pv_iconst (pc := 11) (v := 0) (by decide) (fm_dec dtX11_riskOf 7 rfl) ?_
    refine pv_iald (k := 4) (n := 6) (pc := 12) (by decide) rfl rfl (fm_inl (by decide)) (fm_dec dtX11_riskOf 8 rfl) ?_
    refine pv_icmp_ge (pc := 13) 44 (by decide) (fm_dec dtX11_riskOf 9 rfl) (fun hc13 => ?_) (fun hc13 => ?_)
    · refine pv_lloadn (pc := 44) (n := 2) 2 rfl rfl (fm_dec dtX11_riskOf 28 rfl) ?_
      exact pv_lreturn (pc := 45) rfl (fm_dec dtX11_riskOf 29 rfl) (by have e9 : n = D.1 := (by rw [sc_le] at hc13; omega); subst e9; exact hq _ _ hfr ha)
    · have hn : n < D.1 := (by rw [sc_le] at hc13; omega)
      have hn8 : n < 8 := (by omega)
      have ab := ag_b ho hn
      have g5 : (M.1 (35 + n) (Int32.toNatClampNeg 1)).toInt = D.2.1 n 1 := hY.2.2.2.1 n hn 1 (by decide)
      have c9 := ri_1 (cs := cs) (dead := S.1.2.2.1) (w := S.1.1) (ag := S.2 n) hD hn
      have cb := ri_b (cs := cs) (S := S) (lt := 0) hD n (by omega)
      refine pv_lloadn (pc := 16) (n := 2) 2 rfl rfl (fm_dec dtX11_riskOf 10 rfl) ?_
      refine pv_aloadn (pc := 17) (n := 0) 0 rfl rfl (fm_dec dtX11_riskOf 11 rfl) ?_
      refine pv_getR (k := 0) (j := 14) (ci := 11) (pc := 18) 17 rfl (by decide) pfl_X11_31 (by decide) rfl (by decide) (fm_dec dtX11_riskOf 12 rfl) ?_
      refine pv_iload (pc := 21) (i := 4) rfl (fm_dec dtX11_riskOf 13 rfl) ?_
      refine pv_aald (k := 17) (n := 8) (r := (35 + n)) (pc := 23) (by decide) (Or.inr (Or.inr rfl)) rfl (rw_life.inb hn9 hn8) (rw_life.at hn9 hn8) (rw_life.2.2.2 _ hn8).2.1 (fm_dec dtX11_riskOf 14 rfl) ?_
      refine pv_iconst (pc := 24) (v := 1) (by decide) (fm_dec dtX11_riskOf 15 rfl) ?_
      refine pv_iald (k := (35 + n)) (n := 6) (pc := 25) (rw_life.2.2.2 _ hn8).2.2.1 (rw_life.2.2.2 _ hn8).2.2.2.1 (rw_life.2.2.2 _ hn8).2.2.2.2 (fm_inl (by decide)) (fm_dec dtX11_riskOf 16 rfl) ?_
      refine pv_i2l (pc := 26) (fm_dec dtX11_riskOf 17 rfl) ?_
      refine pv_aloadn (pc := 27) (n := 0) 0 rfl rfl (fm_dec dtX11_riskOf 18 rfl) ?_
      refine pv_aloadn (pc := 28) (n := 1) 1 rfl rfl (fm_dec dtX11_riskOf 19 rfl) ?_
      refine pv_iload (pc := 29) (i := 4) rfl (fm_dec dtX11_riskOf 20 rfl) ?_
      refine pv_invV2 (k := 0) (d' := 8) (pc := 31) pcv_X11_293 (by decide) rfl (Nat.le_of_ble_eq_true rfl) (by decide) (fm_dec dtX11_riskOf 21 rfl) ?_
      refine c_mcofAT ⟨hD, hY, hM, hd, ht, ho⟩ hn (fun M31 r31 g31 h31 e31 => ?_)
      refine pv_then1 ?_
      refine pv_i2l (pc := 34) (fm_dec dtX11_riskOf 22 rfl) ?_
      refine pv_lmul (pc := 35) (fm_dec dtX11_riskOf 23 rfl) ?_
      refine pv_ladd (pc := 36) (fm_dec dtX11_riskOf 24 rfl) ?_
      refine pv_lstoren (pc := 37) (n := 2) 2 rfl (by decide) rfl (fm_dec dtX11_riskOf 25 rfl) ?_
      dsimp only [List.set_cons_zero, List.set_cons_succ]
      refine pv_iincc (pc := 38) 4 1 (by decide) rfl (by decide) rfl (fm_dec dtX11_riskOf 26 rfl) ?_
      dsimp only [List.set_cons_zero, List.set_cons_succ]
      refine pv_goto (pc := 41) 5 (by decide) (fm_dec dtX11_riskOf 27 rfl) ?_
      rw [nI_succ1]
      have z0 : D.2.1 n 1 * 0 = 0 := Int.mul_zero _
      have e6 : r31.toInt64.toInt = (if S.1.2.2.1.testBit n then 0 else coS D cs S n) := (by rw [Int32.toInt_toInt64]; exact e31)
      have e9 : riG D cs S 0 (n + 1) = riG D cs S 0 n + D.2.1 n 1 * (if S.1.2.2.1.testBit n then 0 else coS D cs S n) := (by cases ht9 : S.1.2.2.1.testBit n with | true => (rw [ri_t ht9, if_pos rfl]; omega) | false => (rw [ri_f ht9, if_neg (show ¬ (false = true) by decide), coS_A]; have e5 : (if S.2 n = -1 then -1 else S.2 n + ((0 : Nat) : Int)) = S.2 n := (by split <;> omega); rw [e5, Nat.add_zero]))
      have c8 : 0 ≤ D.2.1 n 1 * (if S.1.2.2.1.testBit n then 0 else coS D cs S n) ∧ D.2.1 n 1 * (if S.1.2.2.1.testBit n then 0 else coS D cs S n) ≤ 3649536 := (by cases S.1.2.2.1.testBit n with | true => (rw [if_pos rfl]; omega) | false => (rw [if_neg (by decide)]; exact c9))
      have e8 := ml_i g5 e6 (by omega) (by omega)
      have e7 := ad_j ha e8 (by omega) (by omega)
      exact ih (D.1 - (n + 1)) (by omega) (n + 1) M31 _ (fun k j a b => (g31 k j a b).trans (hfr k j a b)) (by omega) rfl (by rw [e9]; exact e7) hq
set_option maxRecDepth 20000 in
theorem c_mriskT {M : fmM} {Q : fmR → fmM → Prop} {D : dD} {cs : tC} {S : aS} (h : mAqT M D cs S) (hq : ∀ (M' : fmM) (r : Int64), (∀ k j, k ≠ 5 → k ≠ 6 → M'.1 k j = M.1 k j) → r.toInt = riG D cs S 0 D.1 → Q (.inl (some (.long r))) M') : pvGood Tm 41 qX11_riskOf [.ref 0, .ref 8] M Q := by
  refine pvGood_of (Nat.le_of_ble_eq_true rfl) ?_
  show pvEv Tm 41 qX11_riskOf 0 [some (.ref 0), some (.ref 8), none, none, none] [] M Q
  refine pv_lconst (pc := 0) (v := 0) (by decide) (fm_dec dtX11_riskOf 0 rfl) ?_
  refine pv_lstoren (pc := 1) (n := 2) 2 rfl (by decide) rfl (fm_dec dtX11_riskOf 1 rfl) ?_
  dsimp only [List.set_cons_zero, List.set_cons_succ]
  refine pv_iconst (pc := 2) (v := 0) (by decide) (fm_dec dtX11_riskOf 2 rfl) ?_
  refine pv_istore (pc := 3) (i := 4) (by decide) rfl (fm_dec dtX11_riskOf 3 rfl) ?_
  dsimp only [List.set_cons_zero, List.set_cons_succ]
  exact (mri_loopT h D.1 0 M 0 (fun _ _ _ _ => rfl) (Nat.zero_le _) rfl (by show (0 : Int64).toInt = (0 : Int); decide) hq).up (by decide)
/-- nothing but the state and the law's own cells has changed -/
def mFrT (M M' : fmM) : Prop := (∀ k j, k ≠ 5 → k ≠ 6 → k ≠ 8 → M'.1 k j = M.1 k j) ∧ M'.2 = M.2
theorem mFrT.refl (M : fmM) : mFrT M M := ⟨fun _ _ _ _ _ => rfl, rfl⟩
theorem mFrT.trans {M M1 M2 : fmM} (h : mFrT M M1) (h' : mFrT M1 M2) : mFrT M M2 := ⟨fun k j a b c => (h'.1 k j a b c).trans (h.1 k j a b c), h'.2.trans h.2⟩
theorem mFrT.put {M M1 : fmM} {j : Nat} {x : Int32} (h : mFrT M M1) : mFrT M (fmI M1 8 j x) := ⟨fun k' j' a b c => by rw [fmI_k _ _ c]; exact h.1 k' j' a b c, h.2⟩
set_option maxRecDepth 20000 in
theorem c_mweekT {M : fmM} {Q : fmR → fmM → Prop} {D : dD} {S : aS} (hD : dOk D) (hY : mdw M D) (hs : mstT M D S) (ho : stO D S) (hn : weS D S = none → Q (.inl (some (.int 0))) M) (hq : ∀ (M' : fmM) (S' : aS), weS D S = some S' → mstT M' D S' → mFrT M M' → Q (.inl (some (.int 1))) M') : pvGood Tm 0 qX11_weekEnds [.ref 0, .ref 8] M Q := by
  refine pvGood_of (Nat.le_of_ble_eq_true rfl) ?_
  show pvEv Tm 0 qX11_weekEnds 0 [some (.ref 0), some (.ref 8)] [] M Q
  have z200 : (200 : Int32).toInt = 200 := (by decide)
  have b2 := hD.2.2.2.2.1
  have w2 := ho.1
  have g10 : (M.1 8 (Int32.toNatClampNeg 10)).toInt = (S.1.1 : Int) := hs.2.1
  refine pv_aloadn (pc := 0) (n := 1) 1 rfl rfl (fm_dec dtX11_weekEnds 0 rfl) ?_
  refine pv_bipush (pc := 1) (v := 10) (by decide) (fm_dec dtX11_weekEnds 1 rfl) ?_
  refine pv_iald (k := 8) (n := 14) (pc := 3) (by decide) rfl rfl (fm_inl (by decide)) (fm_dec dtX11_weekEnds 2 rfl) ?_
  refine pv_sipush (pc := 4) (v := 200) (by decide) (fm_dec dtX11_weekEnds 3 rfl) ?_
  refine pv_icmp_ne (pc := 7) 12 (by decide) (fm_dec dtX11_weekEnds 4 rfl) (fun hc7 => ?_) (fun hc7 => ?_)
  · refine pv_aloadn (pc := 12) (n := 1) 1 rfl rfl (fm_dec dtX11_weekEnds 7 rfl) ?_
    refine pv_bipush (pc := 13) (v := 10) (by decide) (fm_dec dtX11_weekEnds 8 rfl) ?_
    refine pv_dup2 (pc := 15) rfl rfl (fm_dec dtX11_weekEnds 9 rfl) ?_
    refine pv_iald (k := 8) (n := 14) (pc := 16) (by decide) rfl rfl (fm_inl (by decide)) (fm_dec dtX11_weekEnds 10 rfl) ?_
    refine pv_iconst (pc := 17) (v := 1) (by decide) (fm_dec dtX11_weekEnds 11 rfl) ?_
    refine pv_iadd (pc := 18) (fm_dec dtX11_weekEnds 12 rfl) ?_
    refine pv_iast (k := 8) (n := 14) (pc := 19) (by decide) rfl rfl (fm_inl (by decide)) (fm_dec dtX11_weekEnds 13 rfl) ?_
    refine pv_aloadn (pc := 20) (n := 1) 1 rfl rfl (fm_dec dtX11_weekEnds 14 rfl) ?_
    refine pv_bipush (pc := 21) (v := 9) (by decide) (fm_dec dtX11_weekEnds 15 rfl) ?_
    refine pv_aloadn (pc := 23) (n := 0) 0 rfl rfl (fm_dec dtX11_weekEnds 16 rfl) ?_
    refine pv_getR (k := 0) (j := 12) (ci := 11) (pc := 24) 4 rfl (by decide) pfl_X11_23 (by decide) rfl (by decide) (fm_dec dtX11_weekEnds 17 rfl) ?_
    refine pv_iconst (pc := 27) (v := 2) (by decide) (fm_dec dtX11_weekEnds 18 rfl) ?_
    refine pv_iald (k := 4) (n := 6) (pc := 28) (by decide) rfl rfl (fm_inl (by decide)) (fm_dec dtX11_weekEnds 19 rfl) ?_
    refine pv_iast (k := 8) (n := 14) (pc := 29) (by decide) rfl rfl (fm_inl (by decide)) (fm_dec dtX11_weekEnds 20 rfl) ?_
    refine pv_iconst (pc := 30) (v := 1) (by decide) (fm_dec dtX11_weekEnds 21 rfl) ?_
    exact pv_zreturn (pc := 31) rfl (by first | exact Or.inr rfl | exact Or.inl rfl) (fm_dec dtX11_weekEnds 22 rfl) (hq _ _ (if_neg (fun h9 => hc7 (i32_ext (by omega)))) ⟨hs.1, (by show (M.1 8 10 + 1).toInt = ((S.1.1 + 1 : Nat) : Int); exact i32_p1 hs.2.1 (by omega)), (by show (M.1 4 2).toInt = (((D.2.2.2.2 2).toNat : Nat) : Int); have g := hY.2.2.1 2 (by decide) (by decide); omega), hs.2.2.2.1, hs.2.2.2.2.1, hs.2.2.2.2.2.1, fun i hi => (by have d8 := hD.1; have g := hs.2.2.2.2.2.2 i hi; have bs := ho.2.2.2.2.2.2.1 i hi; show _ = if (if S.2 i = -1 then (-1 : Int) else S.2 i + 1) = -1 then -1000 else ((S.1.1 + 1 : Nat) : Int) - (if S.2 i = -1 then (-1 : Int) else S.2 i + 1); rw [fmI_j _ _ (by show ¬ 1 + i = 9; omega), fmI_j _ _ (by show ¬ 1 + i = 10; omega), g]; split; rfl; rw [if_neg (by omega)]; omega)⟩ ((mFrT.refl M).put.put))
  · refine pv_iconst (pc := 10) (v := 0) (by decide) (fm_dec dtX11_weekEnds 5 rfl) ?_
    exact pv_zreturn (pc := 11) rfl (by first | exact Or.inr rfl | exact Or.inl rfl) (fm_dec dtX11_weekEnds 6 rfl) (hn (if_pos (by have h9 := congrArg Int32.toInt hc7; omega)))
theorem lc_gt {x z : Int64} : lg_cmp x z ≤ 0 ↔ x.toInt ≤ z.toInt := by
  unfold lg_cmp
  split
  · rename_i h
    have h8 : z.toInt < x.toInt := Int64.lt_iff_toInt_lt.mp h
    exact ⟨fun h9 => absurd h9 (by decide), fun h9 => absurd h9 (by omega)⟩
  · rename_i h
    have h8 : ¬ z.toInt < x.toInt := fun e => h (Int64.lt_iff_toInt_lt.mpr e)
    split
    · exact ⟨fun _ => by omega, fun _ => by decide⟩
    · exact ⟨fun _ => by omega, fun _ => by decide⟩
/-- k weeks on, nothing being done -/
def weI (D : dD) (S : aS) : Nat → aS
  | 0 => S
  | k + 1 => match weS D (weI D S k) with
    | some S' => S'
    | none => weI D S k
theorem weI_s {D : dD} {S S' : aS} {k : Nat} (h : weS D (weI D S k) = some S') : weI D S (k + 1) = S' := by
  show (match weS D (weI D S k) with
    | some S' => S'
    | none => weI D S k) = S'
  rw [h]
theorem weI_n {D : dD} {S : aS} {k : Nat} (h : weS D (weI D S k) = none) : weI D S (k + 1) = weI D S k := by
  show (match weS D (weI D S k) with
    | some S' => S'
    | none => weI D S k) = weI D S k
  rw [h]
theorem weI_O {D : dD} {S : aS} (hD : dOk D) (ho : stO D S) : ∀ k, stO D (weI D S k) := by
  intro k
  induction k with
  | zero => exact ho
  | succ k ih =>
    cases h : weS D (weI D S k) with
    | none =>
      rw [weI_n h]
      exact ih
    | some S' =>
      rw [weI_s h]
      exact do_ok (cs := []) (k := 3) (i := 0) hD ih (fun h => absurd h (by decide)) h
theorem weI_v {D : dD} {S : aS} (ho : stO D S) : ∀ k, (weI D S k).1.1 = S.1.1 + min k (200 - S.1.1) ∧ (weI D S k).1.2.2.1 = S.1.2.2.1 ∧ ∀ i, i < D.1 → (weI D S k).2 i = if S.2 i = -1 then -1 else S.2 i + ((min k (200 - S.1.1) : Nat) : Int) := by
  have w2 := ho.1
  intro k
  induction k with
  | zero =>
    refine ⟨by show S.1.1 = _; omega, rfl, fun i hi => ?_⟩
    show S.2 i = _
    split <;> omega
  | succ k ih =>
    obtain ⟨h1, h2, h3⟩ := ih
    by_cases e : (weI D S k).1.1 = 200
    · have h9 : weS D (weI D S k) = none := if_pos e
      rw [weI_n h9]
      have e2 : min (k + 1) (200 - S.1.1) = min k (200 - S.1.1) := by omega
      rw [e2]
      exact ⟨h1, h2, h3⟩
    · have h9 : weS D (weI D S k) = some (((weI D S k).1.1 + 1, (D.2.2.2.2 2).toNat, (weI D S k).1.2.2), fun j => if (weI D S k).2 j = -1 then -1 else (weI D S k).2 j + 1) := if_neg e
      rw [weI_s h9]
      have e2 : min (k + 1) (200 - S.1.1) = min k (200 - S.1.1) + 1 := by omega
      rw [e2]
      refine ⟨by show (weI D S k).1.1 + 1 = _; omega, h2, fun i hi => ?_⟩
      show (if (weI D S k).2 i = -1 then (-1 : Int) else (weI D S k).2 i + 1) = _
      rw [h3 i hi]
      have hb := ag_b ho hi
      by_cases e4 : S.2 i = -1
      · rw [if_pos e4, if_pos e4, if_pos rfl]
      · rw [if_neg e4, if_neg e4, if_neg (by omega)]
        omega
theorem ri_we {D : dD} {cs : tC} {S : aS} {k : Nat} (ho : stO D S) : ∀ n, n ≤ D.1 → riG D cs (weI D S k) 0 n = riG D cs S (min k (200 - S.1.1)) n := by
  obtain ⟨h1, h2, h3⟩ := weI_v (k := k) ho
  intro n
  induction n with
  | zero => intro _; rfl
  | succ n ih =>
    intro hn
    have h4 := h3 n (by omega)
    have hb := ag_b ho (show n < D.1 by omega)
    cases ht : S.1.2.2.1.testBit n with
    | true => rw [ri_t (by rw [h2]; exact ht), ri_t ht, ih (by omega)]
    | false =>
      rw [ri_f (by rw [h2]; exact ht), ri_f ht, ih (by omega), h1, h2, h4, Nat.add_zero]
      congr 3
      by_cases e : S.2 n = -1
      · rw [if_pos e, if_pos rfl]
      · rw [if_neg e, if_neg (by omega)]
        omega
/-- the week of the most risk, of the first n + 1 -/
def wzS (R : Nat → Int) : Nat → Nat
  | 0 => 0
  | n + 1 => if R (wzS R n) < R (n + 1) then n + 1 else wzS R n
theorem ws_t {R : Nat → Int} {n : Nat} (h : R (wzS R n) < R (n + 1)) : wzS R (n + 1) = n + 1 := if_pos h
theorem ws_f {R : Nat → Int} {n : Nat} (h : ¬ R (wzS R n) < R (n + 1)) : wzS R (n + 1) = wzS R n := if_neg h
theorem ws_b {R : Nat → Int} : ∀ n, wzS R n ≤ n ∧ ∀ j, j ≤ n → R j ≤ R (wzS R n) := by
  intro n
  induction n with
  | zero => exact ⟨Nat.le_refl _, fun j hj => by rw [show j = 0 by omega]; exact Int.le_refl _⟩
  | succ n ih =>
    by_cases h : R (wzS R n) < R (n + 1)
    · rw [ws_t h]
      refine ⟨Nat.le_refl _, fun j hj => ?_⟩
      by_cases e : j = n + 1
      · rw [e]
        exact Int.le_refl _
      · have := ih.2 j (by omega)
        omega
    · rw [ws_f h]
      refine ⟨by have := ih.1; omega, fun j hj => ?_⟩
      by_cases e : j = n + 1
      · rw [e]
        omega
      · exact ih.2 j (by omega)
/-- weeks beyond the last are as the last -/
theorem ws_c {R : Nat → Int} {L : Nat} : ∀ n, L ≤ n → wzS (fun k => R (min k L)) n = wzS R L := by
  have h0 : ∀ n, n ≤ L → wzS (fun k => R (min k L)) n = wzS R n := by
    intro n
    induction n with
    | zero => intro _; rfl
    | succ n ih =>
      intro hn
      have e1 := ih (by omega)
      have b1 := (ws_b (R := R) n).1
      show (if R (min (wzS (fun k => R (min k L)) n) L) < R (min (n + 1) L) then n + 1 else wzS (fun k => R (min k L)) n) = if R (wzS R n) < R (n + 1) then n + 1 else wzS R n
      rw [e1, Nat.min_eq_left (by omega), Nat.min_eq_left (by omega)]
  intro n
  induction n with
  | zero => intro h; exact (h0 0 (Nat.zero_le _)).trans (by rw [show L = 0 by omega])
  | succ n ih =>
    intro hn
    by_cases e : n + 1 ≤ L
    · rw [h0 (n + 1) e, show n + 1 = L by omega]
    · have e1 := ih (by omega)
      have b1 := ws_b (R := R) L
      rw [ws_f]
      · exact e1
      · show ¬ R (min (wzS (fun k => R (min k L)) n) L) < R (min (n + 1) L)
        rw [e1, Nat.min_eq_right (show L ≤ n + 1 by omega), Nat.min_eq_left b1.1]
        have := b1.2 L (Nat.le_refl _)
        omega
set_option maxRecDepth 20000 in
theorem xws_loop {Q : fmR → fmM → Prop} {D : dD} {cs : tC} {S : aS} : ∀ (m : Nat) (k : Nat) (M : fmM) (wh : Int32) (mo : Int64) (v5 v6 : Option Value), xAq M D cs S → k ≤ amW S + 1 → amW S + 1 - k = m → ((k = 0 ∧ mo = -1 ∧ wh = 0) ∨ (0 < k ∧ wh.toInt = ((wzS (fun k => riG D cs S k D.1) (k - 1) : Nat) : Int) ∧ mo.toInt = riG D cs S (wzS (fun k => riG D cs S k D.1) (k - 1)) D.1)) → (∀ (r : Int32) (M' : fmM), r.toInt = ((wzS (fun k => riG D cs S k D.1) (amW S) : Nat) : Int) → Q (.inl (some (.int r))) M') → pvEv Tx 50 qX10_worst 9 [some (.ref 0), some (.int wh), some (.long mo), none, some (.int (nI k)), v5, v6] [] M Q := by
  intro m
  induction m using Nat.strongRecOn with
  | _ m ih =>
    intro k M wh mo v5 v6 h hka hm hinv hq
    have h9q := h
    obtain ⟨hD, hX, hL, hs, ho⟩ := h9q
    have am60 : amW S ≤ 60 := Nat.min_le_left _ _
    have hk9 : (nI k).toInt = (k : Int) := nI_toInt (by omega)
    refine pv_iload (pc := 9) (i := 4) rfl (fm_dec dtX10_worst 6 rfl) ?_
    refine pv_aloadn (pc := 11) (n := 0) 0 rfl rfl (fm_dec dtX10_worst 7 rfl) ?_
    refine pv_invV0 (k := 0) (d' := 2) (pc := 12) pcv_X10_277 (by decide) rfl (Nat.le_of_ble_eq_true rfl) (by decide) (fm_dec dtX10_worst 8 rfl) ?_
    refine c_xam hs ho (fun r12 e12 => ?_)
    refine pv_then1 ?_
    refine pv_icmp_gt (pc := 15) 55 (by decide) (fm_dec dtX10_worst 9 rfl) (fun hc15 => ?_) (fun hc15 => ?_)
    · refine pv_iloadn (pc := 55) (n := 1) 1 rfl rfl (fm_dec dtX10_worst 28 rfl) ?_
      exact pv_ireturn (pc := 56) rfl (fm_dec dtX10_worst 29 rfl) (by rcases hinv with ⟨e0, -, -⟩ | ⟨h0, hw, -⟩; (rw [sc_lt] at hc15; omega); exact hq _ _ (by have e9 : k - 1 = amW S := (by rw [sc_lt] at hc15; omega); rw [hw, e9]))
    · have hk : k ≤ amW S := (by rw [sc_lt] at hc15; omega)
      refine pv_aloadn (pc := 18) (n := 0) 0 rfl rfl (fm_dec dtX10_worst 10 rfl) ?_
      refine pv_getR (k := 0) (j := 6) (ci := 10) (pc := 19) 32 rfl (by decide) pfl_X10_52 (by decide) rfl (by decide) (fm_dec dtX10_worst 11 rfl) ?_
      refine pv_aloadn (pc := 22) (n := 0) 0 rfl rfl (fm_dec dtX10_worst 12 rfl) ?_
      refine pv_getR (k := 0) (j := 9) (ci := 10) (pc := 23) 46 rfl (by decide) pfl_X10_75 (by decide) rfl (by decide) (fm_dec dtX10_worst 13 rfl) ?_
      refine pv_getR (k := 46) (j := 0) (ci := 5) (pc := 26) 47 rfl (by decide) pfl_X10_90 (by decide) rfl (by decide) (fm_dec dtX10_worst 14 rfl) ?_
      refine pv_iload (pc := 29) (i := 4) rfl (fm_dec dtX10_worst 15 rfl) ?_
      refine pv_invV2 (k := 32) (d' := 41) (pc := 31) pcv_X10_261 (by decide) rfl (Nat.le_of_ble_eq_true rfl) (by decide) (fm_dec dtX10_worst 16 rfl) ?_
      refine c_xrisk h (show k ≤ 60 by omega) (fun M31 r31 q31 e31 => ?_)
      refine pv_then1 ?_
      have rb := ri_b (cs := cs) (S := S) (lt := k) hD D.1 (Nat.le_refl _)
      refine pv_lstore (pc := 34) (i := 5) (by decide) rfl (fm_dec dtX10_worst 17 rfl) ?_
      dsimp only [List.set_cons_zero, List.set_cons_succ]
      refine pv_lload (pc := 36) (i := 5) rfl (fm_dec dtX10_worst 18 rfl) ?_
      refine pv_lloadn (pc := 38) (n := 2) 2 rfl rfl (fm_dec dtX10_worst 19 rfl) ?_
      refine pv_lcmp (pc := 39) (fm_dec dtX10_worst 20 rfl) ?_
      refine pv_if_le (pc := 40) 49 (by decide) (fm_dec dtX10_worst 21 rfl) (fun hc40 => ?_) (fun hc40 => ?_)
      · refine pv_iincc (pc := 49) 4 1 (by decide) rfl (by decide) rfl (fm_dec dtX10_worst 26 rfl) ?_
        dsimp only [List.set_cons_zero, List.set_cons_succ]
        refine pv_goto (pc := 52) 9 (by decide) (fm_dec dtX10_worst 27 rfl) ?_
        rw [nI_succ1]
        rcases hinv with ⟨e0, em, -⟩ | ⟨h0, hw, hm9⟩
        · exfalso
          have h9 := lc_gt.mp hc40
          rw [em] at h9
          have zm : (-1 : Int64).toInt = -1 := (by decide)
          omega
        · have e9 : wzS (fun k => riG D cs S k D.1) (k - 1 + 1) = wzS (fun k => riG D cs S k D.1) (k - 1) := ws_f (by have h9 := lc_gt.mp hc40; show ¬ riG D cs S (wzS (fun k => riG D cs S k D.1) (k - 1)) D.1 < riG D cs S (k - 1 + 1) D.1; rw [show k - 1 + 1 = k by omega]; omega)
          exact ih (amW S + 1 - (k + 1)) (by omega) (k + 1) M31 _ _ _ _ q31 (by omega) rfl (Or.inr ⟨by omega, by rw [show k + 1 - 1 = k - 1 + 1 by omega, e9]; exact hw, by rw [show k + 1 - 1 = k - 1 + 1 by omega, e9]; exact hm9⟩) hq
      · refine pv_lload (pc := 43) (i := 5) rfl (fm_dec dtX10_worst 22 rfl) ?_
        refine pv_lstoren (pc := 45) (n := 2) 2 rfl (by decide) rfl (fm_dec dtX10_worst 23 rfl) ?_
        dsimp only [List.set_cons_zero, List.set_cons_succ]
        refine pv_iload (pc := 46) (i := 4) rfl (fm_dec dtX10_worst 24 rfl) ?_
        refine pv_istoren (pc := 48) (n := 1) 1 rfl (by decide) rfl (fm_dec dtX10_worst 25 rfl) ?_
        dsimp only [List.set_cons_zero, List.set_cons_succ]
        refine pv_iincc (pc := 49) 4 1 (by decide) rfl (by decide) rfl (fm_dec dtX10_worst 26 rfl) ?_
        dsimp only [List.set_cons_zero, List.set_cons_succ]
        refine pv_goto (pc := 52) 9 (by decide) (fm_dec dtX10_worst 27 rfl) ?_
        rw [nI_succ1]
        have e9 : wzS (fun k => riG D cs S k D.1) k = k := (by rcases hinv with ⟨e0, -, -⟩ | ⟨h0, hw, hm9⟩; (subst e0; rfl); (have e8 : wzS (fun k => riG D cs S k D.1) (k - 1 + 1) = k - 1 + 1 := ws_t (by have h9 : ¬ r31.toInt ≤ mo.toInt := (fun e => hc40 (lc_gt.mpr e)); show riG D cs S (wzS (fun k => riG D cs S k D.1) (k - 1)) D.1 < riG D cs S (k - 1 + 1) D.1; rw [show k - 1 + 1 = k by omega]; omega); rw [show k - 1 + 1 = k by omega] at e8; exact e8))
        exact ih (amW S + 1 - (k + 1)) (by omega) (k + 1) M31 _ _ _ _ q31 (by omega) rfl (Or.inr ⟨by omega, by rw [Nat.add_sub_cancel, e9]; exact hk9, by rw [Nat.add_sub_cancel, e9]; exact e31⟩) hq
set_option maxRecDepth 20000 in
theorem c_xworst {M : fmM} {Q : fmR → fmM → Prop} {D : dD} {cs : tC} {S : aS} (h : xAq M D cs S) (hq : ∀ (r : Int32) (M' : fmM), r.toInt = ((wzS (fun k => riG D cs S k D.1) (amW S) : Nat) : Int) → Q (.inl (some (.int r))) M') : pvGood Tx 51 qX10_worst [.ref 0] M Q := by
  refine pvGood_of (Nat.le_of_ble_eq_true rfl) ?_
  show pvEv Tx 51 qX10_worst 0 [some (.ref 0), none, none, none, none, none, none] [] M Q
  refine pv_iconst (pc := 0) (v := 0) (by decide) (fm_dec dtX10_worst 0 rfl) ?_
  refine pv_istoren (pc := 1) (n := 1) 1 rfl (by decide) rfl (fm_dec dtX10_worst 1 rfl) ?_
  dsimp only [List.set_cons_zero, List.set_cons_succ]
  refine pv_ldc2 (pc := 2) pkc_X10_281 (fm_dec dtX10_worst 2 rfl) ?_
  refine pv_lstoren (pc := 5) (n := 2) 2 rfl (by decide) rfl (fm_dec dtX10_worst 3 rfl) ?_
  dsimp only [List.set_cons_zero, List.set_cons_succ]
  refine pv_iconst (pc := 6) (v := 0) (by decide) (fm_dec dtX10_worst 4 rfl) ?_
  refine pv_istore (pc := 7) (i := 4) (by decide) rfl (fm_dec dtX10_worst 5 rfl) ?_
  dsimp only [List.set_cons_zero, List.set_cons_succ]
  exact (xws_loop (amW S + 1) 0 M _ _ _ _ h (Nat.zero_le _) rfl (Or.inl ⟨rfl, rfl, rfl⟩) hq).up (by decide)
theorem ro_8 : rwC 8 := by decide +kernel
theorem mAq.low8 {M M' : fmM} {D : dD} {cs : tC} {S : aS} (h : mAq M D cs S) (hk : ∀ k j, k ≠ 5 → k ≠ 6 → k ≠ 8 → M'.1 k j = M.1 k j) : mAq M' D cs S := ⟨h.1, h.2.1.k h.1 (fun k j a => hk k j (by omega) (by omega) (by omega)), h.2.2.1.f (hk 0 17 (by decide) (by decide) (by decide)) (fun k j a => hk k j (by omega) (by omega) (by omega)), h.2.2.2.1, h.2.2.2.2.1.of (fun j => hk 7 j (by decide) (by decide) (by decide)), h.2.2.2.2.2⟩
theorem mAq.tr {M M' : fmM} {D : dD} {cs : tC} {S : aS} (h : mAq M D cs S) (c : cpB 7 8 14 M M') : mAqT M' D cs S := by
  have hk : ∀ k j, k ≠ 8 → M'.1 k j = M.1 k j := fun k j a => c.2.1 k j (fun h9 => a h9.1)
  obtain ⟨hD, hY, hM, hd, ht, ho⟩ := h
  have d8 := hD.1
  obtain ⟨a, b, c1, d, e, f, g⟩ := ht
  exact ⟨hD, hY.k hD (fun k j a => hk k j (by omega)), hM.f (hk 0 17 (by decide)) (fun k j a => hk k j (by omega)), hd, ⟨by rw [c.1 0 (by decide)]; exact a, by rw [c.1 10 (by decide)]; exact b, by rw [c.1 9 (by decide)]; exact c1, by rw [c.1 11 (by decide)]; exact d, by rw [c.1 12 (by decide)]; exact e, by rw [c.1 13 (by decide)]; exact f, fun i hi => by rw [c.1 (1 + i) (by omega)]; exact g i hi⟩, ho⟩
set_option maxRecDepth 20000 in
theorem mrk_loop {Q : fmR → fmM → Prop} {M0 : fmM} {D : dD} {cs : tC} {S : aS} {k : Nat} (hoS : stO D S) (hk60 : k ≤ 60) : ∀ (m : Nat) (n : Nat) (M : fmM), mAqT M D cs (weI D S n) → (∀ k j, k ≠ 5 → k ≠ 6 → k ≠ 8 → M.1 k j = M0.1 k j) → n ≤ k → k - n = m → (∀ (M' : fmM) (r : Int64), (∀ k j, k ≠ 5 → k ≠ 6 → k ≠ 8 → M'.1 k j = M0.1 k j) → r.toInt = riG D cs S (min k (200 - S.1.1)) D.1 → Q (.inl (some (.long r))) M') → pvEv Tm 50 qX11_riskIn 13 [some (.ref 0), some (.int (nI k)), some (.int (nI n))] [] M Q := by
  intro m
  induction m using Nat.strongRecOn with
  | _ m ih =>
    intro n M h hfr hnk hm hq
    have hn9 : (nI n).toInt = (n : Int) := nI_toInt (by omega)
    have hk9 : (nI k).toInt = (k : Int) := nI_toInt (by omega)
    refine pv_iloadn (pc := 13) (n := 2) 2 rfl rfl (fm_dec dtX11_riskIn 7 rfl) ?_
    refine pv_iloadn (pc := 14) (n := 1) 1 rfl rfl (fm_dec dtX11_riskIn 8 rfl) ?_
    refine pv_icmp_ge (pc := 15) 33 (by decide) (fm_dec dtX11_riskIn 9 rfl) (fun hc15 => ?_) (fun hc15 => ?_)
    · refine pv_aloadn (pc := 33) (n := 0) 0 rfl rfl (fm_dec dtX11_riskIn 17 rfl) ?_
      refine pv_aloadn (pc := 34) (n := 0) 0 rfl rfl (fm_dec dtX11_riskIn 18 rfl) ?_
      refine pv_getR (k := 0) (j := 28) (ci := 11) (pc := 35) 8 rfl (by decide) pfl_X11_64 (by decide) rfl (by decide) (fm_dec dtX11_riskIn 19 rfl) ?_
      refine pv_invV1 (k := 0) (d' := 41) (pc := 38) pcv_X11_349 (by decide) rfl (Nat.le_of_ble_eq_true rfl) (by decide) (fm_dec dtX11_riskIn 20 rfl) ?_
      refine c_mriskT h (fun M38 r38 g38 e38 => ?_)
      refine pv_then1 ?_
      exact pv_lreturn (pc := 41) rfl (fm_dec dtX11_riskIn 21 rfl) (by have e9 : n = k := (by rw [sc_le] at hc15; omega); subst e9; exact hq _ _ (fun k j a b c => (g38 k j a b).trans (hfr k j a b c)) (by rw [e38]; exact ri_we hoS D.1 (Nat.le_refl _)))
    · refine pv_aloadn (pc := 18) (n := 0) 0 rfl rfl (fm_dec dtX11_riskIn 10 rfl) ?_
      refine pv_aloadn (pc := 19) (n := 0) 0 rfl rfl (fm_dec dtX11_riskIn 11 rfl) ?_
      refine pv_getR (k := 0) (j := 28) (ci := 11) (pc := 20) 8 rfl (by decide) pfl_X11_64 (by decide) rfl (by decide) (fm_dec dtX11_riskIn 12 rfl) ?_
      refine pv_invV1 (k := 0) (d' := 0) (pc := 23) pcv_X11_306 (by decide) rfl (Nat.le_of_ble_eq_true rfl) (by decide) (fm_dec dtX11_riskIn 13 rfl) ?_
      refine c_mweekT h.1 h.2.1 h.2.2.2.2.1 h.2.2.2.2.2 (fun h23 => ?_) (fun M23 S23 h23 x23 f23 => ?_)
      · refine pv_then1 ?_
        refine pv_pop (pc := 26) rfl (fm_dec dtX11_riskIn 14 rfl) ?_
        refine pv_iincc (pc := 27) 2 1 (by decide) rfl (by decide) rfl (fm_dec dtX11_riskIn 15 rfl) ?_
        dsimp only [List.set_cons_zero, List.set_cons_succ]
        refine pv_goto (pc := 30) 13 (by decide) (fm_dec dtX11_riskIn 16 rfl) ?_
        rw [nI_succ1]
        exact ih (k - (n + 1)) (by rw [sc_le] at hc15; omega) (n + 1) M (by rw [weI_n h23]; exact h) hfr (by rw [sc_le] at hc15; omega) rfl hq
      · refine pv_then1 ?_
        refine pv_pop (pc := 26) rfl (fm_dec dtX11_riskIn 14 rfl) ?_
        refine pv_iincc (pc := 27) 2 1 (by decide) rfl (by decide) rfl (fm_dec dtX11_riskIn 15 rfl) ?_
        dsimp only [List.set_cons_zero, List.set_cons_succ]
        refine pv_goto (pc := 30) 13 (by decide) (fm_dec dtX11_riskIn 16 rfl) ?_
        rw [nI_succ1]
        have hO := do_ok (cs := []) (k := 3) (i := 0) h.1 h.2.2.2.2.2 (fun h => absurd h (by decide)) h23
        exact ih (k - (n + 1)) (by rw [sc_le] at hc15; omega) (n + 1) M23 (by rw [weI_s h23]; exact ⟨h.1, h.2.1.k h.1 (fun k j a => f23.1 k j (by omega) (by omega) (by omega)), h.2.2.1.f (f23.1 0 17 (by decide) (by decide) (by decide)) (fun k j a => f23.1 k j (by omega) (by omega) (by omega)), h.2.2.2.1, x23, hO⟩) (fun k j a b c => (f23.1 k j a b c).trans (hfr k j a b c)) (by rw [sc_le] at hc15; omega) rfl hq
set_option maxRecDepth 20000 in
theorem c_mrk {M : fmM} {Q : fmR → fmM → Prop} {D : dD} {cs : tC} {S : aS} {k : Nat} (h : mAq M D cs S) (hk60 : k ≤ 60) (hq : ∀ (M' : fmM) (r : Int64), (∀ k j, k ≠ 5 → k ≠ 6 → k ≠ 8 → M'.1 k j = M.1 k j) → r.toInt = riG D cs S (min k (200 - S.1.1)) D.1 → Q (.inl (some (.long r))) M') : pvGood Tm 51 qX11_riskIn [.ref 0, .int (nI k)] M Q := by
  refine pvGood_of (Nat.le_of_ble_eq_true rfl) ?_
  show pvEv Tm 51 qX11_riskIn 0 [some (.ref 0), some (.int (nI k)), none] [] M Q
  refine pv_aloadn (pc := 0) (n := 0) 0 rfl rfl (fm_dec dtX11_riskIn 0 rfl) ?_
  refine pv_getR (k := 0) (j := 27) (ci := 11) (pc := 1) 7 rfl (by decide) pfl_X11_61 (by decide) rfl (by decide) (fm_dec dtX11_riskIn 1 rfl) ?_
  refine pv_aloadn (pc := 4) (n := 0) 0 rfl rfl (fm_dec dtX11_riskIn 2 rfl) ?_
  refine pv_getR (k := 0) (j := 28) (ci := 11) (pc := 5) 8 rfl (by decide) pfl_X11_64 (by decide) rfl (by decide) (fm_dec dtX11_riskIn 3 rfl) ?_
  refine pv_iS2 (d' := 0) (pc := 8) pcs_X11_323 (Nat.le_of_ble_eq_true rfl) (by decide) (fm_dec dtX11_riskIn 4 rfl) ?_
  refine c_mcp ro_7 ro_8 (by decide) (fun M8 c8 => ?_)
  refine pv_then0 ?_
  refine pv_iconst (pc := 11) (v := 0) (by decide) (fm_dec dtX11_riskIn 5 rfl) ?_
  refine pv_istoren (pc := 12) (n := 2) 2 rfl (by decide) rfl (fm_dec dtX11_riskIn 6 rfl) ?_
  dsimp only [List.set_cons_zero, List.set_cons_succ]
  exact (mrk_loop h.2.2.2.2.2 hk60 k 0 M8 (h.tr c8) (fun k j _ _ c => c8.2.1 k j (fun h9 => c h9.1)) (Nat.zero_le _) rfl hq).up (by decide)
set_option maxRecDepth 20000 in
theorem mws_loop {Q : fmR → fmM → Prop} {D : dD} {cs : tC} {S : aS} (hcap : wzS (fun k => riG D cs S (min k (200 - S.1.1)) D.1) 60 = wzS (fun k => riG D cs S k D.1) (min 60 (200 - S.1.1))) : ∀ (m : Nat) (k : Nat) (M : fmM) (b : Int32), (mAq M D cs S ∧ M.1 0 0 = 0) → 1 ≤ k → k ≤ 61 → 61 - k = m → b.toInt = ((wzS (fun k => riG D cs S (min k (200 - S.1.1)) D.1) (k - 1) : Nat) : Int) → (∀ (r : Int32) (M' : fmM), M'.1 0 0 = 0 → r.toInt = ((wzS (fun k => riG D cs S k D.1) (amW S) : Nat) : Int) → Q (.inl (some (.int r))) M') → pvEv Tm 60 qX11_worst 9 [some (.ref 0), some (.int b), some (.int (nI k))] [] M Q := by
  intro m
  induction m using Nat.strongRecOn with
  | _ m ih =>
    intro k M b h hk1 hk61 hm hb hq
    have hk9 : (nI k).toInt = (k : Int) := nI_toInt (by omega)
    refine pv_iloadn (pc := 9) (n := 2) 2 rfl rfl (fm_dec dtX11_worst 7 rfl) ?_
    refine pv_bipush (pc := 10) (v := 60) (by decide) (fm_dec dtX11_worst 8 rfl) ?_
    refine pv_icmp_gt (pc := 12) 41 (by decide) (fm_dec dtX11_worst 9 rfl) (fun hc12 => ?_) (fun hc12 => ?_)
    · refine pv_iloadn (pc := 41) (n := 1) 1 rfl rfl (fm_dec dtX11_worst 24 rfl) ?_
      exact pv_ireturn (pc := 42) rfl (fm_dec dtX11_worst 25 rfl) (by have e9 : k - 1 = 60 := (by rw [sc_lt] at hc12; have z60 : (60 : Int32).toInt = 60 := (by decide); omega); rw [e9] at hb; exact hq _ _ h.2 (by rw [hb, show amW S = min 60 (200 - S.1.1) from rfl]; exact congrArg _ hcap))
    · have hk60 : k ≤ 60 := (by rw [sc_lt] at hc12; have z60 : (60 : Int32).toInt = 60 := (by decide); omega)
      have wb := (ws_b (R := (fun k => riG D cs S (min k (200 - S.1.1)) D.1)) (k - 1)).1
      have ebb : b = nI (wzS (fun k => riG D cs S (min k (200 - S.1.1)) D.1) (k - 1)) := nI_is hb (by omega)
      refine pv_aloadn (pc := 15) (n := 0) 0 rfl rfl (fm_dec dtX11_worst 10 rfl) ?_
      refine pv_iloadn (pc := 16) (n := 2) 2 rfl rfl (fm_dec dtX11_worst 11 rfl) ?_
      refine pv_invV1 (k := 0) (d' := 51) (pc := 17) pcv_X11_423 (by decide) rfl (Nat.le_of_ble_eq_true rfl) (by decide) (fm_dec dtX11_worst 12 rfl) ?_
      refine c_mrk h.1 hk60 (fun M17 r17 g17 e17 => ?_)
      refine pv_then1 ?_
      have h17 := h.1.low8 g17
      refine pv_aloadn (pc := 20) (n := 0) 0 rfl rfl (fm_dec dtX11_worst 13 rfl) ?_
      refine pv_iloadn (pc := 21) (n := 1) 1 rfl rfl (fm_dec dtX11_worst 14 rfl) ?_
      rw [ebb]
      refine pv_invV1 (k := 0) (d' := 51) (pc := 22) pcv_X11_423 (by decide) rfl (Nat.le_of_ble_eq_true rfl) (by decide) (fm_dec dtX11_worst 15 rfl) ?_
      refine c_mrk (k := wzS (fun k => riG D cs S (min k (200 - S.1.1)) D.1) (k - 1)) h17 (by omega) (fun M22 r22 g22 e22 => ?_)
      refine pv_then1 ?_
      refine pv_lcmp (pc := 25) (fm_dec dtX11_worst 16 rfl) ?_
      refine pv_if_le (pc := 26) 33 (by decide) (fm_dec dtX11_worst 17 rfl) (fun hc26 => ?_) (fun hc26 => ?_)
      · refine pv_iloadn (pc := 33) (n := 1) 1 rfl rfl (fm_dec dtX11_worst 20 rfl) ?_
        refine pv_istoren (pc := 34) (n := 1) 1 rfl (by decide) rfl (fm_dec dtX11_worst 21 rfl) ?_
        dsimp only [List.set_cons_zero, List.set_cons_succ]
        refine pv_iincc (pc := 35) 2 1 (by decide) rfl (by decide) rfl (fm_dec dtX11_worst 22 rfl) ?_
        dsimp only [List.set_cons_zero, List.set_cons_succ]
        refine pv_goto (pc := 38) 9 (by decide) (fm_dec dtX11_worst 23 rfl) ?_
        have e9 : wzS (fun k => riG D cs S (min k (200 - S.1.1)) D.1) (k - 1 + 1) = wzS (fun k => riG D cs S (min k (200 - S.1.1)) D.1) (k - 1) := ws_f (by show ¬ riG D cs S (min (wzS (fun k => riG D cs S (min k (200 - S.1.1)) D.1) (k - 1)) (200 - S.1.1)) D.1 < riG D cs S (min (k - 1 + 1) (200 - S.1.1)) D.1; rw [(show k - 1 + 1 = k by omega)]; have h9 := lc_gt.mp hc26; omega)
        rw [nI_succ1]
        exact ih (61 - (k + 1)) (by omega) (k + 1) M22 _ ⟨h17.low8 g22, (g22 0 0 (by decide) (by decide) (by decide)).trans ((g17 0 0 (by decide) (by decide) (by decide)).trans h.2)⟩ (by omega) (by omega) rfl (by rw [show k + 1 - 1 = k - 1 + 1 by omega, e9, ← ebb]; exact hb) hq
      · refine pv_iloadn (pc := 29) (n := 2) 2 rfl rfl (fm_dec dtX11_worst 18 rfl) ?_
        refine pv_goto (pc := 30) 34 (by decide) (fm_dec dtX11_worst 19 rfl) ?_
        refine pv_istoren (pc := 34) (n := 1) 1 rfl (by decide) rfl (fm_dec dtX11_worst 21 rfl) ?_
        dsimp only [List.set_cons_zero, List.set_cons_succ]
        refine pv_iincc (pc := 35) 2 1 (by decide) rfl (by decide) rfl (fm_dec dtX11_worst 22 rfl) ?_
        dsimp only [List.set_cons_zero, List.set_cons_succ]
        refine pv_goto (pc := 38) 9 (by decide) (fm_dec dtX11_worst 23 rfl) ?_
        have e9 : wzS (fun k => riG D cs S (min k (200 - S.1.1)) D.1) (k - 1 + 1) = k - 1 + 1 := ws_t (by show riG D cs S (min (wzS (fun k => riG D cs S (min k (200 - S.1.1)) D.1) (k - 1)) (200 - S.1.1)) D.1 < riG D cs S (min (k - 1 + 1) (200 - S.1.1)) D.1; rw [(show k - 1 + 1 = k by omega)]; have h9 : ¬ r17.toInt ≤ r22.toInt := (fun e => hc26 (lc_gt.mpr e)); omega)
        rw [nI_succ1]
        exact ih (61 - (k + 1)) (by omega) (k + 1) M22 _ ⟨h17.low8 g22, (g22 0 0 (by decide) (by decide) (by decide)).trans ((g17 0 0 (by decide) (by decide) (by decide)).trans h.2)⟩ (by omega) (by omega) rfl (by rw [show k + 1 - 1 = k - 1 + 1 by omega, e9, show k - 1 + 1 = k by omega]; exact hk9) hq
theorem ws_cap {R : Nat → Int} {L : Nat} : wzS (fun k => R (min k L)) 60 = wzS R (min 60 L) := by
  by_cases h : L ≤ 60
  · rw [ws_c 60 h, Nat.min_eq_right h]
  · have e : wzS (fun k => R (min k L)) 60 = wzS (fun k => R (min k 60)) 60 := by
      have h1 : ∀ n, n ≤ 60 → wzS (fun k => R (min k L)) n = wzS (fun k => R (min k 60)) n := by
        intro n
        induction n with
        | zero => intro _; rfl
        | succ n ih =>
          intro hn
          have e1 := ih (by omega)
          have b1 := (ws_b (R := fun k => R (min k 60)) n).1
          show (if R (min (wzS (fun k => R (min k L)) n) L) < R (min (n + 1) L) then n + 1 else wzS (fun k => R (min k L)) n) = if R (min (wzS (fun k => R (min k 60)) n) 60) < R (min (n + 1) 60) then n + 1 else wzS (fun k => R (min k 60)) n
          rw [e1, Nat.min_eq_left (show wzS (fun k => R (min k 60)) n ≤ L by omega), Nat.min_eq_left (show wzS (fun k => R (min k 60)) n ≤ 60 by omega), Nat.min_eq_left (show n + 1 ≤ L by omega), Nat.min_eq_left hn]
      exact h1 60 (Nat.le_refl _)
    rw [e, ws_c 60 (Nat.le_refl _), Nat.min_eq_left (by omega)]
set_option maxRecDepth 20000 in
theorem c_mworst {M : fmM} {Q : fmR → fmM → Prop} {D : dD} {cs : tC} {S : aS} (h : mAq M D cs S) (hq : ∀ (r : Int32) (M' : fmM), M'.1 0 0 = 0 → r.toInt = ((wzS (fun k => riG D cs S k D.1) (amW S) : Nat) : Int) → Q (.inl (some (.int r))) M') : pvGood Tm 61 qX11_worst [.ref 0] M Q := by
  refine pvGood_of (Nat.le_of_ble_eq_true rfl) ?_
  show pvEv Tm 61 qX11_worst 0 [some (.ref 0), none, none] [] M Q
  refine pv_aloadn (pc := 0) (n := 0) 0 rfl rfl (fm_dec dtX11_worst 0 rfl) ?_
  refine pv_iconst (pc := 1) (v := 0) (by decide) (fm_dec dtX11_worst 1 rfl) ?_
  refine pv_putI (k := 0) (j := 0) (ci := 11) (pc := 2) pfl_X11_101 (by decide) rfl (by decide) (fm_dec dtX11_worst 2 rfl) ?_
  refine pv_iconst (pc := 5) (v := 0) (by decide) (fm_dec dtX11_worst 3 rfl) ?_
  refine pv_istoren (pc := 6) (n := 1) 1 rfl (by decide) rfl (fm_dec dtX11_worst 4 rfl) ?_
  dsimp only [List.set_cons_zero, List.set_cons_succ]
  refine pv_iconst (pc := 7) (v := 1) (by decide) (fm_dec dtX11_worst 5 rfl) ?_
  refine pv_istoren (pc := 8) (n := 2) 2 rfl (by decide) rfl (fm_dec dtX11_worst 6 rfl) ?_
  dsimp only [List.set_cons_zero, List.set_cons_succ]
  exact (mws_loop (ws_cap (R := (fun k => riG D cs S k D.1))) 60 1 _ _ ⟨h.z, rfl⟩ (Nat.le_refl _) (by decide) rfl (by show (0 : Int32).toInt = ((0 : Nat) : Int); decide) hq).up (by decide)
theorem xe_worst {M : fmM} {D : dD} {cs : tC} {S : aS} (h : xAq M D cs S) : pvGood Tx 250 qX10_worst [.ref 0] M (fun r _ => r = .inl (some (.int (iZ (((wzS (fun k => riG D cs S k D.1) (amW S) : Nat) : Int)))))) := (c_xworst h (fun r M' e => by rw [iZ_is e])).up (by decide)
theorem me_worst {M : fmM} {D : dD} {cs : tC} {S : aS} (h : mAq M D cs S) : pvGood Tm 250 qX11_worst [.ref 0] M (fun r M' => r = .inl (some (.int (iZ (((wzS (fun k => riG D cs S k D.1) (amW S) : Nat) : Int)))))) := (c_mworst h (fun r M' z e => by rw [iZ_is e])).up (by decide)
