set_option maxRecDepth 20000 in
theorem c_needP {M : fmM} {Q : fmR → fmM → Prop} {x : Int32} (hq : inW x 0 1 → Q (.inl none) M) (hf : ¬ inW x 0 1 → Q (.inr fmIAE) (fmI M 0 16 (M.1 0 16 + 1))) : pvGood Tx 1 qX10_needPart [.ref 0, .int x] M Q := by
  refine pvGood_of (Nat.le_of_ble_eq_true rfl) ?_
  show pvEv Tx 1 qX10_needPart 0 [some (.ref 0), some (.int x)] [] M Q
  refine pv_aloadn (pc := 0) (n := 0) 0 rfl rfl (fm_dec dtX10_needPart 0 rfl) ?_
  refine pv_iloadn (pc := 1) (n := 1) 1 rfl rfl (fm_dec dtX10_needPart 1 rfl) ?_
  refine pv_iconst (pc := 2) (v := 0) (by decide) (fm_dec dtX10_needPart 2 rfl) ?_
  refine pv_iconst (pc := 3) (v := 1) (by decide) (fm_dec dtX10_needPart 3 rfl) ?_
  refine pv_invV3 (k := 0) (d' := 0) (pc := 4) pcv_X10_169 (by decide) rfl (Nat.le_of_ble_eq_true rfl) (by decide) (fm_dec dtX10_needPart 4 rfl) ?_
  refine c_needW (fun h4a h4b => ?_) (fun h4 => ?_)
  · refine pv_then0 ?_
    exact pv_return (pc := 7) rfl (fm_dec dtX10_needPart 5 rfl) (hq ⟨h4a, h4b⟩)
  · refine pv_thenX ?_
    exact hf h4
set_option maxRecDepth 20000 in
theorem c_noP {M : fmM} {Q : fmR → fmM → Prop} {x w : Int32} (hth : M.1 0 0 = 0) (hw : ¬ w = 0) (hq : inW x 0 1 → Q (.inl (some (.int 0))) M) (hf : ¬ inW x 0 1 → Q (.inl (some (.int 1))) (fmI (fmI M 0 0 w) 2 1 (M.1 2 1 + 1))) : pvGood Tm 1 qX11_noPart [.ref 0, .int x, .int w] M Q := by
  refine pvGood_of (Nat.le_of_ble_eq_true rfl) ?_
  show pvEv Tm 1 qX11_noPart 0 [some (.ref 0), some (.int x), some (.int w)] [] M Q
  refine pv_aloadn (pc := 0) (n := 0) 0 rfl rfl (fm_dec dtX11_noPart 0 rfl) ?_
  refine pv_iloadn (pc := 1) (n := 1) 1 rfl rfl (fm_dec dtX11_noPart 1 rfl) ?_
  refine pv_iconst (pc := 2) (v := 0) (by decide) (fm_dec dtX11_noPart 2 rfl) ?_
  refine pv_iconst (pc := 3) (v := 1) (by decide) (fm_dec dtX11_noPart 3 rfl) ?_
  refine pv_iS3 (d' := 0) (pc := 4) pcs_X11_135 (Nat.le_of_ble_eq_true rfl) (by decide) (fm_dec dtX11_noPart 4 rfl) ?_
  refine c_in (fun h4a h4b => ?_) (fun h4 => ?_)
  · refine pv_then1 ?_
    refine pv_if_ne (pc := 7) 14 (by decide) (fm_dec dtX11_noPart 5 rfl) (fun _ => ?_) (fun hc7 => by exfalso; revert hc7; decide)
    refine pv_iconst (pc := 14) (v := 0) (by decide) (fm_dec dtX11_noPart 8 rfl) ?_
    refine pv_iloadn (pc := 15) (n := 2) 2 rfl rfl (fm_dec dtX11_noPart 9 rfl) ?_
    refine pv_iconst (pc := 16) (v := 1) (by decide) (fm_dec dtX11_noPart 10 rfl) ?_
    refine pv_invV3 (k := 0) (d' := 0) (pc := 17) pcv_X11_177 (by decide) rfl (Nat.le_of_ble_eq_true rfl) (by decide) (fm_dec dtX11_noPart 11 rfl) ?_
    refine c_badF1 hth ?_
    refine pv_then1 ?_
    exact pv_zreturn (pc := 20) rfl (by first | exact Or.inr rfl | exact Or.inl rfl) (fm_dec dtX11_noPart 12 rfl) (hq ⟨h4a, h4b⟩)
  · refine pv_then1 ?_
    refine pv_if_ne (pc := 7) 14 (by decide) (fm_dec dtX11_noPart 5 rfl) (fun hc7 => by exfalso; revert hc7; decide) (fun _ => ?_)
    refine pv_iconst (pc := 10) (v := 1) (by decide) (fm_dec dtX11_noPart 6 rfl) ?_
    refine pv_goto (pc := 11) 15 (by decide) (fm_dec dtX11_noPart 7 rfl) ?_
    refine pv_iloadn (pc := 15) (n := 2) 2 rfl rfl (fm_dec dtX11_noPart 9 rfl) ?_
    refine pv_iconst (pc := 16) (v := 1) (by decide) (fm_dec dtX11_noPart 10 rfl) ?_
    refine pv_invV3 (k := 0) (d' := 0) (pc := 17) pcv_X11_177 (by decide) rfl (Nat.le_of_ble_eq_true rfl) (by decide) (fm_dec dtX11_noPart 11 rfl) ?_
    refine c_badT1 hth hw ?_
    refine pv_then1 ?_
    exact pv_zreturn (pc := 20) rfl (by first | exact Or.inr rfl | exact Or.inl rfl) (fm_dec dtX11_noPart 12 rfl) (hf h4)
theorem al_b {t : Bool} (h : bI (!t) = 0) : t = true := by
  cases t with
  | true => rfl
  | false => exact absurd h (by decide)
theorem al_n {t : Bool} (h : ¬ bI (!t) = 0) : t = false := by
  cases t with
  | false => rfl
  | true => exact absurd (by decide) h
/-- 4096ths of the risk of the first n lives in lt weeks -/
def riG (D : dD) (cs : tC) (S : aS) (lt : Nat) : Nat → Int
  | 0 => 0
  | n + 1 => if S.1.2.2.1.testBit n then riG D cs S lt n else riG D cs S lt n + D.2.1 n 1 * coA D cs S.1.2.2.1 (S.1.1 + lt) n (if S.2 n = -1 then -1 else S.2 n + lt)
theorem ri_t {D : dD} {cs : tC} {S : aS} {lt n : Nat} (h : S.1.2.2.1.testBit n = true) : riG D cs S lt (n + 1) = riG D cs S lt n := if_pos h
theorem ri_f {D : dD} {cs : tC} {S : aS} {lt n : Nat} (h : S.1.2.2.1.testBit n = false) : riG D cs S lt (n + 1) = riG D cs S lt n + D.2.1 n 1 * coA D cs S.1.2.2.1 (S.1.1 + lt) n (if S.2 n = -1 then -1 else S.2 n + lt) := if_neg (by rw [h]; decide)
theorem ri_1 {D : dD} {cs : tC} {dead w n : Nat} {ag : Int} (hD : dOk D) (hn : n < D.1) : 0 ≤ D.2.1 n 1 * coA D cs dead w n ag ∧ D.2.1 n 1 * coA D cs dead w n ag ≤ 3649536 := by
  have b1 := (hD.2.2.1 n hn).2.1
  have c1 := coA_b (cs := cs) (dead := dead) (w := w) (age := ag) hD hn
  have h1 := mul_b (a := D.2.1 n 1) (b := coA D cs dead w n ag) (m := 64) (n := 57024) (by omega) (by omega) c1.1 c1.2
  omega
theorem ri_b {D : dD} {cs : tC} {S : aS} {lt : Nat} (hD : dOk D) : ∀ n, n ≤ D.1 → 0 ≤ riG D cs S lt n ∧ riG D cs S lt n ≤ 3649536 * (n : Int) := by
  intro n
  induction n with
  | zero => intro _; exact ⟨Int.le_refl _, (by show (0 : Int) ≤ 3649536 * ((0 : Nat) : Int); decide)⟩
  | succ n ih =>
    intro hn
    have h1 := ih (by omega)
    have h2 := ri_1 (cs := cs) (dead := S.1.2.2.1) (w := S.1.1 + lt) (ag := if S.2 n = -1 then -1 else S.2 n + lt) hD (show n < D.1 by omega)
    cases ht : S.1.2.2.1.testBit n with
    | true =>
      rw [ri_t ht]
      omega
    | false =>
      rw [ri_f ht]
      omega
theorem ml_i {x : Int32} {z : Int64} {a b : Int} (hx : x.toInt = a) (hz : z.toInt = b) (h1 : -1000000000 ≤ a * b) (h2 : a * b ≤ 1000000000) : (x.toInt64 * z).toInt = a * b := by
  rw [Int64.toInt_mul, Int32.toInt_toInt64, hx, hz]
  exact Int.bmod_eq_of_le (by omega) (by omega)
theorem ad_j {x z : Int64} {a b : Int} (hx : x.toInt = a) (hz : z.toInt = b) (h1 : -4000000000000 ≤ a + b) (h2 : a + b ≤ 4000000000000) : (x + z).toInt = a + b := by
  rw [Int64.toInt_add, hx, hz]
  exact Int.bmod_eq_of_le (by omega) (by omega)
theorem nI_ad {a b : Nat} : nI a + nI b = nI (a + b) := by
  show Int32.ofNat a + Int32.ofNat b = Int32.ofNat (a + b)
  rw [Int32.ofNat_add]
set_option maxRecDepth 20000 in
theorem xri_loop {Q : fmR → fmM → Prop} {D : dD} {cs : tC} {S : aS} {lt : Nat} (hl60 : lt ≤ 60) : ∀ (m : Nat) (n : Nat) (M : fmM) (a : Int64) (v6 v7 : Option Value), xAq M D cs S → n ≤ D.1 → D.1 - n = m → a.toInt = riG D cs S lt n → (∀ (M' : fmM) (r : Int64), xAq M' D cs S → r.toInt = riG D cs S lt D.1 → Q (.inl (some (.long r))) M') → pvEv Tx 40 qX0_riskWhen 5 [some (.ref 32), some (.ref 47), some (.int (nI lt)), some (.long a), none, some (.int (nI n)), v6, v7] [] M Q := by
  intro m
  induction m using Nat.strongRecOn with
  | _ m ih =>
    intro n M a v6 v7 h hnD hm ha hq
    have h9q := h
    obtain ⟨hD, hX, hL, hs, ho⟩ := h9q
    have d8 := hD.1
    have hn9 : (nI n).toInt = (n : Int) := nI_toInt (by omega)
    have hlt9 : (nI lt).toInt = (lt : Int) := nI_toInt (by omega)
    have h39 : (M.1 3 9).toInt = (D.1 : Int) := hX.1.1
    refine pv_iload (pc := 5) (i := 5) rfl (fm_dec dtX0_riskWhen 4 rfl) ?_
    refine pv_aloadn (pc := 7) (n := 0) 0 rfl rfl (fm_dec dtX0_riskWhen 5 rfl) ?_
    refine pv_getR (k := 32) (j := 0) (ci := 0) (pc := 8) 3 rfl (by decide) pfl_X0_15 (by decide) rfl (by decide) (fm_dec dtX0_riskWhen 6 rfl) ?_
    refine pv_getI (k := 3) (j := 9) (ci := 8) (pc := 11) pfl_X0_75 (by decide) rfl (by decide) (fm_dec dtX0_riskWhen 7 rfl) ?_
    refine pv_icmp_ge (pc := 14) 82 (by decide) (fm_dec dtX0_riskWhen 8 rfl) (fun hc14 => ?_) (fun hc14 => ?_)
    · refine pv_lloadn (pc := 82) (n := 3) 3 rfl rfl (fm_dec dtX0_riskWhen 45 rfl) ?_
      exact pv_lreturn (pc := 83) rfl (fm_dec dtX0_riskWhen 46 rfl) (by have e9 : n = D.1 := (by rw [sc_le] at hc14; omega); subst e9; exact hq _ _ h ha)
    · have hn : n < D.1 := (by rw [sc_le] at hc14; omega)
      have g := ag_x hs hn
      have ab := ag_b ho hn
      have w2 := ho.1
      have g5 : (M.1 5 n).toInt = D.2.1 n 1 := hX.2.1 n hn 1 (by decide)
      have c9 := ri_1 (cs := cs) (dead := S.1.2.2.1) (w := S.1.1 + lt) (ag := if S.2 n = -1 then -1 else S.2 n + lt) hD hn
      have cb := ri_b (cs := cs) (S := S) (lt := lt) hD n (by omega)
      refine pv_aloadn (pc := 17) (n := 1) 1 rfl rfl (fm_dec dtX0_riskWhen 9 rfl) ?_
      refine pv_iload (pc := 18) (i := 5) rfl (fm_dec dtX0_riskWhen 10 rfl) ?_
      refine pv_invV1 (k := 47) (d' := 0) (pc := 20) pcv_X0_38 (by decide) rfl (Nat.le_of_ble_eq_true rfl) (by decide) (fm_dec dtX0_riskWhen 11 rfl) ?_
      refine c_xaliv hs ho (by omega) ?_
      refine pv_then1 ?_
      refine pv_if_eq (pc := 23) 76 (by decide) (fm_dec dtX0_riskWhen 12 rfl) (fun hc23 => ?_) (fun hc23 => ?_)
      · refine pv_iincc (pc := 76) 5 1 (by decide) rfl (by decide) rfl (fm_dec dtX0_riskWhen 43 rfl) ?_
        dsimp only [List.set_cons_zero, List.set_cons_succ]
        refine pv_goto (pc := 79) 5 (by decide) (fm_dec dtX0_riskWhen 44 rfl) ?_
        rw [nI_succ1]
        have e9 := ri_t (D := D) (cs := cs) (lt := lt) (al_b hc23)
        exact ih (D.1 - (n + 1)) (by omega) (n + 1) M _ _ _ h (by omega) rfl (by rw [e9]; exact ha) hq
      · refine pv_aloadn (pc := 26) (n := 1) 1 rfl rfl (fm_dec dtX0_riskWhen 13 rfl) ?_
        refine pv_getR (k := 47) (j := 0) (ci := 6) (pc := 27) 48 rfl (by decide) pfl_X0_78 (by decide) rfl (by decide) (fm_dec dtX0_riskWhen 14 rfl) ?_
        refine pv_iload (pc := 30) (i := 5) rfl (fm_dec dtX0_riskWhen 15 rfl) ?_
        refine pv_iald (k := 48) (n := 8) (pc := 32) (by decide) rfl rfl (ix_in hn9 (by omega)) (fm_dec dtX0_riskWhen 16 rfl) ?_
        rw [i32_cl hn9]
        refine pv_istore (pc := 33) (i := 6) (by decide) rfl (fm_dec dtX0_riskWhen 17 rfl) ?_
        dsimp only [List.set_cons_zero, List.set_cons_succ]
        refine pv_iload (pc := 35) (i := 6) rfl (fm_dec dtX0_riskWhen 18 rfl) ?_
        refine pv_iconst (pc := 37) (v := (-1)) (by decide) (fm_dec dtX0_riskWhen 19 rfl) ?_
        refine pv_icmp_ne (pc := 38) 45 (by decide) (fm_dec dtX0_riskWhen 20 rfl) (fun hc38 => ?_) (fun hc38 => ?_)
        · obtain ⟨exn, hne⟩ := ag_n hs ho hn hc38
          have eI : (if S.2 n = -1 then -1 else S.2 n + (lt : Int)) = (((S.2 n).toNat + lt : Nat) : Int) := (by rw [if_neg hne]; omega)
          rw [eI] at c9
          rw [exn]
          refine pv_iload (pc := 45) (i := 6) rfl (fm_dec dtX0_riskWhen 23 rfl) ?_
          refine pv_iloadn (pc := 47) (n := 2) 2 rfl rfl (fm_dec dtX0_riskWhen 24 rfl) ?_
          refine pv_iadd (pc := 48) (fm_dec dtX0_riskWhen 25 rfl) ?_
          rw [nI_ad]
          refine pv_istore (pc := 49) (i := 7) (by decide) rfl (fm_dec dtX0_riskWhen 26 rfl) ?_
          dsimp only [List.set_cons_zero, List.set_cons_succ]
          refine pv_lloadn (pc := 51) (n := 3) 3 rfl rfl (fm_dec dtX0_riskWhen 27 rfl) ?_
          refine pv_aloadn (pc := 52) (n := 0) 0 rfl rfl (fm_dec dtX0_riskWhen 28 rfl) ?_
          refine pv_getR (k := 32) (j := 0) (ci := 0) (pc := 53) 3 rfl (by decide) pfl_X0_15 (by decide) rfl (by decide) (fm_dec dtX0_riskWhen 29 rfl) ?_
          refine pv_getR (k := 3) (j := 1) (ci := 8) (pc := 56) 5 rfl (by decide) pfl_X0_81 (by decide) rfl (by decide) (fm_dec dtX0_riskWhen 30 rfl) ?_
          refine pv_iload (pc := 59) (i := 5) rfl (fm_dec dtX0_riskWhen 31 rfl) ?_
          refine pv_iald (k := 5) (n := 8) (pc := 61) (by decide) rfl rfl (ix_in hn9 (by omega)) (fm_dec dtX0_riskWhen 32 rfl) ?_
          rw [i32_cl hn9]
          refine pv_i2l (pc := 62) (fm_dec dtX0_riskWhen 33 rfl) ?_
          refine pv_aloadn (pc := 63) (n := 0) 0 rfl rfl (fm_dec dtX0_riskWhen 34 rfl) ?_
          refine pv_aloadn (pc := 64) (n := 1) 1 rfl rfl (fm_dec dtX0_riskWhen 35 rfl) ?_
          refine pv_iload (pc := 65) (i := 5) rfl (fm_dec dtX0_riskWhen 36 rfl) ?_
          refine pv_iloadn (pc := 67) (n := 2) 2 rfl rfl (fm_dec dtX0_riskWhen 37 rfl) ?_
          refine pv_iload (pc := 68) (i := 7) rfl (fm_dec dtX0_riskWhen 38 rfl) ?_
          refine pv_invV4 (k := 32) (d' := 3) (pc := 70) pcv_X0_84 (by decide) rfl (Nat.le_of_ble_eq_true rfl) (by decide) (fm_dec dtX0_riskWhen 39 rfl) ?_
          refine c_xcostG (w := S.1.1 + lt) hD hX hL hs ho hn (by rw [sc_add (by have := hs.2.1; omega) (by have := hs.2.1; omega), hs.2.1, hlt9]; omega) (by omega) (ag := (((S.2 n).toNat + lt : Nat) : Int)) (nI_toInt (by omega)) (by omega) (fun M70 r70 g70 h70 e70 => ?_)
          refine pv_then1 ?_
          refine pv_lmul (pc := 73) (fm_dec dtX0_riskWhen 40 rfl) ?_
          refine pv_ladd (pc := 74) (fm_dec dtX0_riskWhen 41 rfl) ?_
          refine pv_lstoren (pc := 75) (n := 3) 3 rfl (by decide) rfl (fm_dec dtX0_riskWhen 42 rfl) ?_
          dsimp only [List.set_cons_zero, List.set_cons_succ]
          refine pv_iincc (pc := 76) 5 1 (by decide) rfl (by decide) rfl (fm_dec dtX0_riskWhen 43 rfl) ?_
          dsimp only [List.set_cons_zero, List.set_cons_succ]
          refine pv_goto (pc := 79) 5 (by decide) (fm_dec dtX0_riskWhen 44 rfl) ?_
          have e8 := ml_i g5 e70 (by omega) (by omega)
          have e7 := ad_j ha e8 (by omega) (by omega)
          rw [nI_succ1]
          have e9 := ri_f (D := D) (cs := cs) (lt := lt) (al_n hc23)
          rw [eI] at e9
          exact ih (D.1 - (n + 1)) (by omega) (n + 1) M70 _ _ _ (h.low g70 h70) (by omega) rfl (by rw [e9]; exact e7) hq
        · have hm := ag_m hs hn hc38
          have eI : (if S.2 n = -1 then -1 else S.2 n + (lt : Int)) = -1 := if_pos hm
          rw [eI] at c9
          refine pv_iconst (pc := 41) (v := (-1)) (by decide) (fm_dec dtX0_riskWhen 21 rfl) ?_
          refine pv_goto (pc := 42) 49 (by decide) (fm_dec dtX0_riskWhen 22 rfl) ?_
          refine pv_istore (pc := 49) (i := 7) (by decide) rfl (fm_dec dtX0_riskWhen 26 rfl) ?_
          dsimp only [List.set_cons_zero, List.set_cons_succ]
          refine pv_lloadn (pc := 51) (n := 3) 3 rfl rfl (fm_dec dtX0_riskWhen 27 rfl) ?_
          refine pv_aloadn (pc := 52) (n := 0) 0 rfl rfl (fm_dec dtX0_riskWhen 28 rfl) ?_
          refine pv_getR (k := 32) (j := 0) (ci := 0) (pc := 53) 3 rfl (by decide) pfl_X0_15 (by decide) rfl (by decide) (fm_dec dtX0_riskWhen 29 rfl) ?_
          refine pv_getR (k := 3) (j := 1) (ci := 8) (pc := 56) 5 rfl (by decide) pfl_X0_81 (by decide) rfl (by decide) (fm_dec dtX0_riskWhen 30 rfl) ?_
          refine pv_iload (pc := 59) (i := 5) rfl (fm_dec dtX0_riskWhen 31 rfl) ?_
          refine pv_iald (k := 5) (n := 8) (pc := 61) (by decide) rfl rfl (ix_in hn9 (by omega)) (fm_dec dtX0_riskWhen 32 rfl) ?_
          rw [i32_cl hn9]
          refine pv_i2l (pc := 62) (fm_dec dtX0_riskWhen 33 rfl) ?_
          refine pv_aloadn (pc := 63) (n := 0) 0 rfl rfl (fm_dec dtX0_riskWhen 34 rfl) ?_
          refine pv_aloadn (pc := 64) (n := 1) 1 rfl rfl (fm_dec dtX0_riskWhen 35 rfl) ?_
          refine pv_iload (pc := 65) (i := 5) rfl (fm_dec dtX0_riskWhen 36 rfl) ?_
          refine pv_iloadn (pc := 67) (n := 2) 2 rfl rfl (fm_dec dtX0_riskWhen 37 rfl) ?_
          refine pv_iload (pc := 68) (i := 7) rfl (fm_dec dtX0_riskWhen 38 rfl) ?_
          refine pv_invV4 (k := 32) (d' := 3) (pc := 70) pcv_X0_84 (by decide) rfl (Nat.le_of_ble_eq_true rfl) (by decide) (fm_dec dtX0_riskWhen 39 rfl) ?_
          refine c_xcostG (w := S.1.1 + lt) hD hX hL hs ho hn (by rw [sc_add (by have := hs.2.1; omega) (by have := hs.2.1; omega), hs.2.1, hlt9]; omega) (by omega) (ag := -1) (by decide) (by decide) (fun M70 r70 g70 h70 e70 => ?_)
          refine pv_then1 ?_
          refine pv_lmul (pc := 73) (fm_dec dtX0_riskWhen 40 rfl) ?_
          refine pv_ladd (pc := 74) (fm_dec dtX0_riskWhen 41 rfl) ?_
          refine pv_lstoren (pc := 75) (n := 3) 3 rfl (by decide) rfl (fm_dec dtX0_riskWhen 42 rfl) ?_
          dsimp only [List.set_cons_zero, List.set_cons_succ]
          refine pv_iincc (pc := 76) 5 1 (by decide) rfl (by decide) rfl (fm_dec dtX0_riskWhen 43 rfl) ?_
          dsimp only [List.set_cons_zero, List.set_cons_succ]
          refine pv_goto (pc := 79) 5 (by decide) (fm_dec dtX0_riskWhen 44 rfl) ?_
          have e8 := ml_i g5 e70 (by omega) (by omega)
          have e7 := ad_j ha e8 (by omega) (by omega)
          rw [nI_succ1]
          have e9 := ri_f (D := D) (cs := cs) (lt := lt) (al_n hc23)
          rw [eI] at e9
          exact ih (D.1 - (n + 1)) (by omega) (n + 1) M70 _ _ _ (h.low g70 h70) (by omega) rfl (by rw [e9]; exact e7) hq
set_option maxRecDepth 20000 in
theorem c_xrisk {M : fmM} {Q : fmR → fmM → Prop} {D : dD} {cs : tC} {S : aS} {lt : Nat} (h : xAq M D cs S) (hl60 : lt ≤ 60) (hq : ∀ (M' : fmM) (r : Int64), xAq M' D cs S → r.toInt = riG D cs S lt D.1 → Q (.inl (some (.long r))) M') : pvGood Tx 41 qX0_riskWhen [.ref 32, .ref 47, .int (nI lt)] M Q := by
  refine pvGood_of (Nat.le_of_ble_eq_true rfl) ?_
  show pvEv Tx 41 qX0_riskWhen 0 [some (.ref 32), some (.ref 47), some (.int (nI lt)), none, none, none, none, none] [] M Q
  refine pv_lconst (pc := 0) (v := 0) (by decide) (fm_dec dtX0_riskWhen 0 rfl) ?_
  refine pv_lstoren (pc := 1) (n := 3) 3 rfl (by decide) rfl (fm_dec dtX0_riskWhen 1 rfl) ?_
  dsimp only [List.set_cons_zero, List.set_cons_succ]
  refine pv_iconst (pc := 2) (v := 0) (by decide) (fm_dec dtX0_riskWhen 2 rfl) ?_
  refine pv_istore (pc := 3) (i := 5) (by decide) rfl (fm_dec dtX0_riskWhen 3 rfl) ?_
  dsimp only [List.set_cons_zero, List.set_cons_succ]
  exact (xri_loop hl60 D.1 0 M 0 _ _ h (Nat.zero_le _) rfl (by show (0 : Int64).toInt = (0 : Int); decide) hq).up (by decide)
set_option maxRecDepth 20000 in
theorem c_xrisks {M : fmM} {Q : fmR → fmM → Prop} {D : dD} {cs : tC} {S : aS} {x : Int32} (h : xAq M D cs S) (hn2 : ¬ (inW x 0 1) → Q (.inr fmIAE) (fmI M 0 16 (M.1 0 16 + 1))) (hq : inW x 0 1 → ∀ M' : fmM, Q (.inl (some (.long (frV (jZ (riG D cs S 0 D.1)) 4096 x)))) M') : pvGood Tx 42 qX10_risk [.ref 0, .int x] M Q := by
  refine pvGood_of (Nat.le_of_ble_eq_true rfl) ?_
  show pvEv Tx 42 qX10_risk 0 [some (.ref 0), some (.int x)] [] M Q
  have hxq := h
  obtain ⟨hD, hX, hL, hs, ho⟩ := h
  have d8 := hD.1
  have hl9 : (M.1 3 9).toInt = (D.1 : Int) := hX.1.1
  refine pv_aloadn (pc := 0) (n := 0) 0 rfl rfl (fm_dec dtX10_risk 0 rfl) ?_
  refine pv_iloadn (pc := 1) (n := 1) 1 rfl rfl (fm_dec dtX10_risk 1 rfl) ?_
  refine pv_invV1 (k := 0) (d' := 1) (pc := 2) pcv_X10_244 (by decide) rfl (Nat.le_of_ble_eq_true rfl) (by decide) (fm_dec dtX10_risk 2 rfl) ?_
  refine c_needP (fun h2 => ?_) (fun h2 => ?_)
  · refine pv_then0 ?_
    refine pv_aloadn (pc := 5) (n := 0) 0 rfl rfl (fm_dec dtX10_risk 3 rfl) ?_
    refine pv_getR (k := 0) (j := 6) (ci := 10) (pc := 6) 32 rfl (by decide) pfl_X10_52 (by decide) rfl (by decide) (fm_dec dtX10_risk 4 rfl) ?_
    refine pv_aloadn (pc := 9) (n := 0) 0 rfl rfl (fm_dec dtX10_risk 5 rfl) ?_
    refine pv_getR (k := 0) (j := 9) (ci := 10) (pc := 10) 46 rfl (by decide) pfl_X10_75 (by decide) rfl (by decide) (fm_dec dtX10_risk 6 rfl) ?_
    refine pv_getR (k := 46) (j := 0) (ci := 5) (pc := 13) 47 rfl (by decide) pfl_X10_90 (by decide) rfl (by decide) (fm_dec dtX10_risk 7 rfl) ?_
    refine pv_iconst (pc := 16) (v := 0) (by decide) (fm_dec dtX10_risk 8 rfl) ?_
    refine pv_invV2 (k := 32) (d' := 41) (pc := 17) pcv_X10_261 (by decide) rfl (Nat.le_of_ble_eq_true rfl) (by decide) (fm_dec dtX10_risk 9 rfl) ?_
    refine c_xrisk (lt := 0) hxq (by decide) (fun M17 r17 q17 e17 => ?_)
    refine pv_then1 ?_
    refine pv_ldc2 (pc := 20) pkc_X10_265 (fm_dec dtX10_risk 10 rfl) ?_
    refine pv_iloadn (pc := 23) (n := 1) 1 rfl rfl (fm_dec dtX10_risk 11 rfl) ?_
    refine pv_iS3 (d' := 0) (pc := 24) pcs_X10_253 (Nat.le_of_ble_eq_true rfl) (by decide) (fm_dec dtX10_risk 12 rfl) ?_
    refine c_xterm (by have := ri_b (cs := cs) (S := S) (lt := 0) hD D.1 (Nat.le_refl _); omega) (by decide) ?_
    refine pv_then1 ?_
    exact pv_lreturn (pc := 27) rfl (fm_dec dtX10_risk 13 rfl) (by rw [jZ_is e17]; exact hq h2 _)
  · refine pv_thenX ?_
    exact hn2 h2
set_option maxRecDepth 20000 in
theorem c_mcofA {M : fmM} {Q : fmR → fmM → Prop} {D : dD} {cs : tC} {S : aS} {i : Nat} (h : mAq M D cs S) (hi : i < D.1) (hq : ∀ (M' : fmM) (r : Int32), (∀ k j, k ≠ 5 → k ≠ 6 → M'.1 k j = M.1 k j) → M'.2 = M.2 → r.toInt = (if S.1.2.2.1.testBit i then 0 else coS D cs S i) → Q (.inl (some (.int r))) M') : pvGood Tm 8 qX11_costOf [.ref 0, .ref 7, .int (nI i)] M Q := by
  refine pvGood_of (Nat.le_of_ble_eq_true rfl) ?_
  show pvEv Tm 8 qX11_costOf 0 [some (.ref 0), some (.ref 7), some (.int (nI i))] [] M Q
  obtain ⟨hD, hY, hM, hd, ht, ho⟩ := h
  have d8 := hD.1
  have hi9 : (nI i).toInt = (i : Int) := nI_toInt (by omega)
  have hi8 : i < 8 := (by omega)
  have h1i := one_i hi8
  have e0 : M.1 7 (Int32.toNatClampNeg 0) = nI S.1.2.2.1 := nI_is ht.1 (by have := ho.2.2.1; omega)
  refine pv_aloadn (pc := 0) (n := 1) 1 rfl rfl (fm_dec dtX11_costOf 0 rfl) ?_
  refine pv_iconst (pc := 1) (v := 0) (by decide) (fm_dec dtX11_costOf 1 rfl) ?_
  refine pv_iald (k := 7) (n := 14) (pc := 2) (by decide) rfl rfl (fm_inl (by decide)) (fm_dec dtX11_costOf 2 rfl) ?_
  refine pv_iloadn (pc := 3) (n := 2) 2 rfl rfl (fm_dec dtX11_costOf 3 rfl) ?_
  refine pv_iS2 (d' := 0) (pc := 4) pcs_X11_256 (Nat.le_of_ble_eq_true rfl) (by decide) (fm_dec dtX11_costOf 4 rfl) ?_
  refine c_has (fun h4 => ?_) (fun h4 => ?_)
  · refine pv_then1 ?_
    refine pv_if_eq (pc := 7) 14 (by decide) (fm_dec dtX11_costOf 5 rfl) (fun hc7 => by exfalso; revert hc7; decide) (fun _ => ?_)
    refine pv_iconst (pc := 10) (v := 0) (by decide) (fm_dec dtX11_costOf 6 rfl) ?_
    refine pv_goto (pc := 11) 29 (by decide) (fm_dec dtX11_costOf 7 rfl) ?_
    exact pv_ireturn (pc := 29) rfl (fm_dec dtX11_costOf 20 rfl) (hq _ _ (fun _ _ _ _ => rfl) rfl (by rw [if_pos ((has8 _ ho.2.2.1 i hi8).mp (by rw [← e0]; exact h4))]; decide))
  · refine pv_then1 ?_
    refine pv_if_eq (pc := 7) 14 (by decide) (fm_dec dtX11_costOf 5 rfl) (fun _ => ?_) (fun hc7 => by exfalso; revert hc7; decide)
    refine pv_aloadn (pc := 14) (n := 0) 0 rfl rfl (fm_dec dtX11_costOf 8 rfl) ?_
    refine pv_aloadn (pc := 15) (n := 1) 1 rfl rfl (fm_dec dtX11_costOf 9 rfl) ?_
    refine pv_iloadn (pc := 16) (n := 2) 2 rfl rfl (fm_dec dtX11_costOf 10 rfl) ?_
    refine pv_aloadn (pc := 17) (n := 1) 1 rfl rfl (fm_dec dtX11_costOf 11 rfl) ?_
    refine pv_iconst (pc := 18) (v := 1) (by decide) (fm_dec dtX11_costOf 12 rfl) ?_
    refine pv_iloadn (pc := 19) (n := 2) 2 rfl rfl (fm_dec dtX11_costOf 13 rfl) ?_
    refine pv_iadd (pc := 20) (fm_dec dtX11_costOf 14 rfl) ?_
    refine pv_iald (k := 7) (n := 14) (pc := 21) (by decide) rfl rfl (ix_in h1i (by omega)) (fm_dec dtX11_costOf 15 rfl) ?_
    rw [i32_cl h1i]
    refine pv_aloadn (pc := 22) (n := 1) 1 rfl rfl (fm_dec dtX11_costOf 16 rfl) ?_
    refine pv_bipush (pc := 23) (v := 10) (by decide) (fm_dec dtX11_costOf 17 rfl) ?_
    refine pv_iald (k := 7) (n := 14) (pc := 25) (by decide) rfl rfl (fm_inl (by decide)) (fm_dec dtX11_costOf 18 rfl) ?_
    refine pv_invV4 (k := 0) (d' := 6) (pc := 26) pcv_X11_280 (by decide) rfl (Nat.le_of_ble_eq_true rfl) (by decide) (fm_dec dtX11_costOf 19 rfl) ?_
    refine c_mco hD hY hM hd ht ho hi ht.2.1 (ht.2.2.2.2.2.2 i hi) (fun M26 r26 g26 h26 e26 => ?_)
    refine pv_then1 ?_
    exact pv_ireturn (pc := 29) rfl (fm_dec dtX11_costOf 20 rfl) (hq _ _ g26 h26 (by rw [if_neg (fun h9 => h4 (by rw [e0]; exact (has8 _ ho.2.2.1 i hi8).mpr h9))]; exact e26))
set_option maxRecDepth 20000 in
theorem mri_loop {Q : fmR → fmM → Prop} {M0 : fmM} {D : dD} {cs : tC} {S : aS} (h0 : mAq M0 D cs S) : ∀ (m : Nat) (n : Nat) (M : fmM) (a : Int64), (∀ k j, k ≠ 5 → k ≠ 6 → M.1 k j = M0.1 k j) → n ≤ D.1 → D.1 - n = m → a.toInt = riG D cs S 0 n → (∀ (M' : fmM) (r : Int64), (∀ k j, k ≠ 5 → k ≠ 6 → M'.1 k j = M0.1 k j) → r.toInt = riG D cs S 0 D.1 → Q (.inl (some (.long r))) M') → pvEv Tm 40 qX11_riskOf 5 [some (.ref 0), some (.ref 7), some (.long a), none, some (.int (nI n))] [] M Q := by
  intro m
  induction m using Nat.strongRecOn with
  | _ m ih =>
    intro n M a hfr hnD hm ha hq
    have h9q := h0.low (fun k j _ a b => hfr k j a b) (hfr 0 17 (by decide) (by decide))
    obtain ⟨hD, hY, hM, hd, ht, ho⟩ := h9q
    have d8 := hD.1
    have hn9 : (nI n).toInt = (n : Int) := nI_toInt (by omega)
    have h39 : (M.1 4 (Int32.toNatClampNeg 0)).toInt = (D.1 : Int) := hY.1
    refine pv_iload (pc := 5) (i := 4) rfl (fm_dec dtX11_riskOf 4 rfl) ?_
    refine pv_aloadn (pc := 7) (n := 0) 0 rfl rfl (fm_dec dtX11_riskOf 5 rfl) ?_
    refine pv_getR (k := 0) (j := 12) (ci := 11) (pc := 8) 4 rfl (by decide) pfl_X11_23 (by decide) rfl (by decide) (fm_dec dtX11_riskOf 6 rfl) ?_
    refine pv_iconst (pc := 11) (v := 0) (by decide) (fm_dec dtX11_riskOf 7 rfl) ?_
    refine pv_iald (k := 4) (n := 6) (pc := 12) (by decide) rfl rfl (fm_inl (by decide)) (fm_dec dtX11_riskOf 8 rfl) ?_
    refine pv_icmp_ge (pc := 13) 44 (by decide) (fm_dec dtX11_riskOf 9 rfl) (fun hc13 => ?_) (fun hc13 => ?_)
    · refine pv_lloadn (pc := 44) (n := 2) 2 rfl rfl (fm_dec dtX11_riskOf 28 rfl) ?_
      exact pv_lreturn (pc := 45) rfl (fm_dec dtX11_riskOf 29 rfl) (by have e9 : n = D.1 := (by rw [sc_le] at hc13; omega); subst e9; exact hq _ _ hfr ha)
    · have hn : n < D.1 := (by rw [sc_le] at hc13; omega)
      have hn8 : n < 8 := (by omega)
      have ab := ag_b ho hn
      have g5 : (M.1 (35 + n) (Int32.toNatClampNeg 1)).toInt = D.2.1 n 1 := hY.2.2.2.1 n hn 1 (by decide)
      have c9 := ri_1 (cs := cs) (dead := S.1.2.2.1) (w := S.1.1) (ag := S.2 n) hD hn
      have cb := ri_b (cs := cs) (S := S) (lt := 0) hD n (by omega)
      refine pv_lloadn (pc := 16) (n := 2) 2 rfl rfl (fm_dec dtX11_riskOf 10 rfl) ?_
      refine pv_aloadn (pc := 17) (n := 0) 0 rfl rfl (fm_dec dtX11_riskOf 11 rfl) ?_
      refine pv_getR (k := 0) (j := 14) (ci := 11) (pc := 18) 17 rfl (by decide) pfl_X11_31 (by decide) rfl (by decide) (fm_dec dtX11_riskOf 12 rfl) ?_
      refine pv_iload (pc := 21) (i := 4) rfl (fm_dec dtX11_riskOf 13 rfl) ?_
      refine pv_aald (k := 17) (n := 8) (r := (35 + n)) (pc := 23) (by decide) (Or.inr (Or.inr rfl)) rfl (rw_life.inb hn9 hn8) (rw_life.at hn9 hn8) (rw_life.2.2.2 _ hn8).2.1 (fm_dec dtX11_riskOf 14 rfl) ?_
      refine pv_iconst (pc := 24) (v := 1) (by decide) (fm_dec dtX11_riskOf 15 rfl) ?_
      refine pv_iald (k := (35 + n)) (n := 6) (pc := 25) (rw_life.2.2.2 _ hn8).2.2.1 (rw_life.2.2.2 _ hn8).2.2.2.1 (rw_life.2.2.2 _ hn8).2.2.2.2 (fm_inl (by decide)) (fm_dec dtX11_riskOf 16 rfl) ?_
      refine pv_i2l (pc := 26) (fm_dec dtX11_riskOf 17 rfl) ?_
      refine pv_aloadn (pc := 27) (n := 0) 0 rfl rfl (fm_dec dtX11_riskOf 18 rfl) ?_
      refine pv_aloadn (pc := 28) (n := 1) 1 rfl rfl (fm_dec dtX11_riskOf 19 rfl) ?_
      refine pv_iload (pc := 29) (i := 4) rfl (fm_dec dtX11_riskOf 20 rfl) ?_
      refine pv_invV2 (k := 0) (d' := 8) (pc := 31) pcv_X11_293 (by decide) rfl (Nat.le_of_ble_eq_true rfl) (by decide) (fm_dec dtX11_riskOf 21 rfl) ?_
      refine c_mcofA ⟨hD, hY, hM, hd, ht, ho⟩ hn (fun M31 r31 g31 h31 e31 => ?_)
      refine pv_then1 ?_
      refine pv_i2l (pc := 34) (fm_dec dtX11_riskOf 22 rfl) ?_
      refine pv_lmul (pc := 35) (fm_dec dtX11_riskOf 23 rfl) ?_
      refine pv_ladd (pc := 36) (fm_dec dtX11_riskOf 24 rfl) ?_
      refine pv_lstoren (pc := 37) (n := 2) 2 rfl (by decide) rfl (fm_dec dtX11_riskOf 25 rfl) ?_
      dsimp only [List.set_cons_zero, List.set_cons_succ]
      refine pv_iincc (pc := 38) 4 1 (by decide) rfl (by decide) rfl (fm_dec dtX11_riskOf 26 rfl) ?_
      dsimp only [List.set_cons_zero, List.set_cons_succ]
      refine pv_goto (pc := 41) 5 (by decide) (fm_dec dtX11_riskOf 27 rfl) ?_
      rw [nI_succ1]
      have z0 : D.2.1 n 1 * 0 = 0 := Int.mul_zero _
      have e6 : r31.toInt64.toInt = (if S.1.2.2.1.testBit n then 0 else coS D cs S n) := (by rw [Int32.toInt_toInt64]; exact e31)
      have e9 : riG D cs S 0 (n + 1) = riG D cs S 0 n + D.2.1 n 1 * (if S.1.2.2.1.testBit n then 0 else coS D cs S n) := (by cases ht9 : S.1.2.2.1.testBit n with | true => (rw [ri_t ht9, if_pos rfl]; omega) | false => (rw [ri_f ht9, if_neg (show ¬ (false = true) by decide), coS_A]; have e5 : (if S.2 n = -1 then -1 else S.2 n + ((0 : Nat) : Int)) = S.2 n := (by split <;> omega); rw [e5, Nat.add_zero]))
      have c8 : 0 ≤ D.2.1 n 1 * (if S.1.2.2.1.testBit n then 0 else coS D cs S n) ∧ D.2.1 n 1 * (if S.1.2.2.1.testBit n then 0 else coS D cs S n) ≤ 3649536 := (by cases S.1.2.2.1.testBit n with | true => (rw [if_pos rfl]; omega) | false => (rw [if_neg (by decide)]; exact c9))
      have e8 := ml_i g5 e6 (by omega) (by omega)
      have e7 := ad_j ha e8 (by omega) (by omega)
      exact ih (D.1 - (n + 1)) (by omega) (n + 1) M31 _ (fun k j a b => (g31 k j a b).trans (hfr k j a b)) (by omega) rfl (by rw [e9]; exact e7) hq
set_option maxRecDepth 20000 in
theorem c_mrisk {M : fmM} {Q : fmR → fmM → Prop} {D : dD} {cs : tC} {S : aS} (h : mAq M D cs S) (hq : ∀ (M' : fmM) (r : Int64), (∀ k j, k ≠ 5 → k ≠ 6 → M'.1 k j = M.1 k j) → r.toInt = riG D cs S 0 D.1 → Q (.inl (some (.long r))) M') : pvGood Tm 41 qX11_riskOf [.ref 0, .ref 7] M Q := by
  refine pvGood_of (Nat.le_of_ble_eq_true rfl) ?_
  show pvEv Tm 41 qX11_riskOf 0 [some (.ref 0), some (.ref 7), none, none, none] [] M Q
  refine pv_lconst (pc := 0) (v := 0) (by decide) (fm_dec dtX11_riskOf 0 rfl) ?_
  refine pv_lstoren (pc := 1) (n := 2) 2 rfl (by decide) rfl (fm_dec dtX11_riskOf 1 rfl) ?_
  dsimp only [List.set_cons_zero, List.set_cons_succ]
  refine pv_iconst (pc := 2) (v := 0) (by decide) (fm_dec dtX11_riskOf 2 rfl) ?_
  refine pv_istore (pc := 3) (i := 4) (by decide) rfl (fm_dec dtX11_riskOf 3 rfl) ?_
  dsimp only [List.set_cons_zero, List.set_cons_succ]
  exact (mri_loop h D.1 0 M 0 (fun _ _ _ _ => rfl) (Nat.zero_le _) rfl (by show (0 : Int64).toInt = (0 : Int); decide) hq).up (by decide)
set_option maxRecDepth 20000 in
theorem c_mrisks {M : fmM} {Q : fmR → fmM → Prop} {D : dD} {cs : tC} {S : aS} {x : Int32} (h : mAq M D cs S) (hn2 : ¬ (inW x 0 1) → ∀ (z : Int64) (M' : fmM), M'.1 0 0 = 1 → Q (.inl (some (.long z))) M') (hq : inW x 0 1 → ∀ M' : fmM, M'.1 0 0 = 0 → Q (.inl (some (.long (frV (jZ (riG D cs S 0 D.1)) 4096 x)))) M') : pvGood Tm 42 qX11_risk [.ref 0, .int x] M Q := by
  refine pvGood_of (Nat.le_of_ble_eq_true rfl) ?_
  show pvEv Tm 42 qX11_risk 0 [some (.ref 0), some (.int x)] [] M Q
  have hmq := h.z (x := 0)
  obtain ⟨hD, hY, hM, hd, ht, ho⟩ := hmq
  have d8 := hD.1
  have h4 : (M.1 4 0).toInt = (D.1 : Int) := hY.1
  have hl := hD.1
  refine pv_aloadn (pc := 0) (n := 0) 0 rfl rfl (fm_dec dtX11_risk 0 rfl) ?_
  refine pv_iconst (pc := 1) (v := 0) (by decide) (fm_dec dtX11_risk 1 rfl) ?_
  refine pv_putI (k := 0) (j := 0) (ci := 11) (pc := 2) pfl_X11_101 (by decide) rfl (by decide) (fm_dec dtX11_risk 2 rfl) ?_
  refine pv_aloadn (pc := 5) (n := 0) 0 rfl rfl (fm_dec dtX11_risk 3 rfl) ?_
  refine pv_iloadn (pc := 6) (n := 1) 1 rfl rfl (fm_dec dtX11_risk 4 rfl) ?_
  refine pv_iconst (pc := 7) (v := 1) (by decide) (fm_dec dtX11_risk 5 rfl) ?_
  refine pv_invV2 (k := 0) (d' := 1) (pc := 8) pcv_X11_340 (by decide) rfl (Nat.le_of_ble_eq_true rfl) (by decide) (fm_dec dtX11_risk 6 rfl) ?_
  refine c_noP rfl (by decide) (fun h8 => ?_) (fun h8 => ?_)
  · refine pv_then1 ?_
    refine pv_if_eq (pc := 11) 16 (by decide) (fm_dec dtX11_risk 7 rfl) (fun _ => ?_) (fun hc11 => by exfalso; revert hc11; decide)
    refine pv_aloadn (pc := 16) (n := 0) 0 rfl rfl (fm_dec dtX11_risk 10 rfl) ?_
    refine pv_aloadn (pc := 17) (n := 0) 0 rfl rfl (fm_dec dtX11_risk 11 rfl) ?_
    refine pv_getR (k := 0) (j := 27) (ci := 11) (pc := 18) 7 rfl (by decide) pfl_X11_61 (by decide) rfl (by decide) (fm_dec dtX11_risk 12 rfl) ?_
    refine pv_invV1 (k := 0) (d' := 41) (pc := 21) pcv_X11_349 (by decide) rfl (Nat.le_of_ble_eq_true rfl) (by decide) (fm_dec dtX11_risk 13 rfl) ?_
    refine c_mrisk ⟨hD, hY, hM, hd, ht, ho⟩ (fun M21 r21 q21 e21 => ?_)
    refine pv_then1 ?_
    refine pv_ldc2 (pc := 24) pkc_X11_353 (fm_dec dtX11_risk 14 rfl) ?_
    refine pv_iloadn (pc := 27) (n := 1) 1 rfl rfl (fm_dec dtX11_risk 15 rfl) ?_
    refine pv_iS3 (d' := 0) (pc := 28) pcs_X11_345 (Nat.le_of_ble_eq_true rfl) (by decide) (fm_dec dtX11_risk 16 rfl) ?_
    refine c_mterm (by have := ri_b (cs := cs) (S := S) (lt := 0) hD D.1 (Nat.le_refl _); omega) (by decide) ?_
    refine pv_then1 ?_
    exact pv_lreturn (pc := 31) rfl (fm_dec dtX11_risk 17 rfl) (by rw [jZ_is e21]; exact hq h8 _ ((q21 0 0 (by decide) (by decide)).trans rfl))
  · refine pv_then1 ?_
    refine pv_if_eq (pc := 11) 16 (by decide) (fm_dec dtX11_risk 7 rfl) (fun hc11 => by exfalso; revert hc11; decide) (fun _ => ?_)
    refine pv_lconst (pc := 14) (v := 0) (by decide) (fm_dec dtX11_risk 8 rfl) ?_
    exact pv_lreturn (pc := 15) rfl (fm_dec dtX11_risk 9 rfl) (hn2 h8 _ _ rfl)
theorem xe_risk {M : fmM} {D : dD} {cs : tC} {S : aS} {x : Int32} (h : xAq M D cs S) : pvGood Tx 250 qX10_risk [.ref 0, .int x] M (fun r _ => ((inW x 0 1) ∧ r = .inl (some (.long (frV (jZ (riG D cs S 0 D.1)) 4096 x)))) ∨ (¬ (inW x 0 1) ∧ r = .inr fmIAE)) := (c_xrisks h (fun h => Or.inr ⟨h, rfl⟩) (fun h M' => Or.inl ⟨h, rfl⟩)).up (by decide)
theorem me_risk {M : fmM} {D : dD} {cs : tC} {S : aS} {x : Int32} (h : mAq M D cs S) : pvGood Tm 250 qX11_risk [.ref 0, .int x] M (fun r M' => ((inW x 0 1) ∧ r = .inl (some (.long (frV (jZ (riG D cs S 0 D.1)) 4096 x))) ∧ M'.1 0 0 = 0) ∨ (¬ (inW x 0 1) ∧ M'.1 0 0 = 1)) := (c_mrisks h (fun h z M' e => Or.inr ⟨h, e⟩) (fun h M' z => Or.inl ⟨h, rfl, z⟩)).up (by decide)
