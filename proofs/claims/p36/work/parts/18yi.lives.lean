set_option maxRecDepth 20000 in
theorem c_needP {M : fmM} {Q : fmR → fmM → Prop} {x : Int32} (hq : inW x 0 1 → Q (.inl none) M) (hf : ¬ inW x 0 1 → Q (.inr fmIAE) (fmI M 0 16 (M.1 0 16 + 1))) : pvGood Tx 1 qX10_needPart [.ref 0, .int x] M Q := by
  refine pvGood_of (Nat.le_of_ble_eq_true rfl) ?_
  show pvEv Tx 1 qX10_needPart 0 [some (.ref 0), some (.int x)] [] M Q
  refine pv_aloadn (pc := 0) (n := 0) 0 rfl rfl (fm_dec dtX10_needPart 0 rfl) ?_
  refine pv_iloadn (pc := 1) (n := 1) 1 rfl rfl (fm_dec dtX10_needPart 1 rfl) ?_
  refine pv_iconst (pc := 2) (v := 0) (by decide) (fm_dec dtX10_needPart 2 rfl) ?_
  refine pv_iconst (pc := 3) (v := 1) (by decide) (fm_dec dtX10_needPart 3 rfl) ?_
  refine pv_invV3 (k := 0) (d' := 0) (pc := 4) pcv_X10_169 (by decide) rfl (Nat.le_of_ble_eq_true rfl) (by decide) (fm_dec dtX10_needPart 4 rfl) ?_
  refine c_needW (fun h4a h4b => ?_) (fun h4 => ?_)
  · refine pv_then0 ?_
    exact pv_return (pc := 7) rfl (fm_dec dtX10_needPart 5 rfl) (hq ⟨h4a, h4b⟩)
  · refine pv_thenX ?_
    exact hf h4
set_option maxRecDepth 20000 in
theorem c_noP {M : fmM} {Q : fmR → fmM → Prop} {x w : Int32} (hth : M.1 0 0 = 0) (hw : ¬ w = 0) (hq : inW x 0 1 → Q (.inl (some (.int 0))) M) (hf : ¬ inW x 0 1 → Q (.inl (some (.int 1))) (fmI (fmI M 0 0 w) 2 1 (M.1 2 1 + 1))) : pvGood Tm 1 qX11_noPart [.ref 0, .int x, .int w] M Q := by
  refine pvGood_of (Nat.le_of_ble_eq_true rfl) ?_
  show pvEv Tm 1 qX11_noPart 0 [some (.ref 0), some (.int x), some (.int w)] [] M Q
  refine pv_aloadn (pc := 0) (n := 0) 0 rfl rfl (fm_dec dtX11_noPart 0 rfl) ?_
  refine pv_iloadn (pc := 1) (n := 1) 1 rfl rfl (fm_dec dtX11_noPart 1 rfl) ?_
  refine pv_iconst (pc := 2) (v := 0) (by decide) (fm_dec dtX11_noPart 2 rfl) ?_
  refine pv_iconst (pc := 3) (v := 1) (by decide) (fm_dec dtX11_noPart 3 rfl) ?_
  refine pv_iS3 (d' := 0) (pc := 4) pcs_X11_135 (Nat.le_of_ble_eq_true rfl) (by decide) (fm_dec dtX11_noPart 4 rfl) ?_
  refine c_in (fun h4a h4b => ?_) (fun h4 => ?_)
  · refine pv_then1 ?_
    refine pv_if_ne (pc := 7) 14 (by decide) (fm_dec dtX11_noPart 5 rfl) (fun _ => ?_) (fun hc7 => by exfalso; revert hc7; decide)
    refine pv_iconst (pc := 14) (v := 0) (by decide) (fm_dec dtX11_noPart 8 rfl) ?_
    refine pv_iloadn (pc := 15) (n := 2) 2 rfl rfl (fm_dec dtX11_noPart 9 rfl) ?_
    refine pv_iconst (pc := 16) (v := 1) (by decide) (fm_dec dtX11_noPart 10 rfl) ?_
    refine pv_invV3 (k := 0) (d' := 0) (pc := 17) pcv_X11_177 (by decide) rfl (Nat.le_of_ble_eq_true rfl) (by decide) (fm_dec dtX11_noPart 11 rfl) ?_
    refine c_badF1 hth ?_
    refine pv_then1 ?_
    exact pv_zreturn (pc := 20) rfl (by first | exact Or.inr rfl | exact Or.inl rfl) (fm_dec dtX11_noPart 12 rfl) (hq ⟨h4a, h4b⟩)
  · refine pv_then1 ?_
    refine pv_if_ne (pc := 7) 14 (by decide) (fm_dec dtX11_noPart 5 rfl) (fun hc7 => by exfalso; revert hc7; decide) (fun _ => ?_)
    refine pv_iconst (pc := 10) (v := 1) (by decide) (fm_dec dtX11_noPart 6 rfl) ?_
    refine pv_goto (pc := 11) 15 (by decide) (fm_dec dtX11_noPart 7 rfl) ?_
    refine pv_iloadn (pc := 15) (n := 2) 2 rfl rfl (fm_dec dtX11_noPart 9 rfl) ?_
    refine pv_iconst (pc := 16) (v := 1) (by decide) (fm_dec dtX11_noPart 10 rfl) ?_
    refine pv_invV3 (k := 0) (d' := 0) (pc := 17) pcv_X11_177 (by decide) rfl (Nat.le_of_ble_eq_true rfl) (by decide) (fm_dec dtX11_noPart 11 rfl) ?_
    refine c_badT1 hth hw ?_
    refine pv_then1 ?_
    exact pv_zreturn (pc := 20) rfl (by first | exact Or.inr rfl | exact Or.inl rfl) (fm_dec dtX11_noPart 12 rfl) (hf h4)
def pwS (a : Int64) : Nat → Int64
  | 0 => 1
  | n + 1 => pwS a n * a
theorem pw_b {a : Int64} {b : Nat} (ha : a.toInt = (b : Int)) (hb : b ≤ 64) : ∀ n, n ≤ 9 → (pwS a n).toInt = ((b ^ n : Nat) : Int) := by
  intro n
  induction n with
  | zero => intro _; rfl
  | succ n ih =>
    intro hn
    have h1 : b ^ (n + 1) ≤ 64 ^ (n + 1) := Nat.pow_le_pow_left hb (n + 1)
    have h2 : 64 ^ (n + 1) ≤ 64 ^ 9 := Nat.pow_le_pow_right (by decide) hn
    have h3 : (64 : Nat) ^ 9 = 18014398509481984 := by decide
    show (pwS a n * a).toInt = _
    have h4 : b ^ n * b = b ^ (n + 1) := (Nat.pow_succ b n).symm
    rw [Int64.toInt_mul, ih (by omega), ha, ← Int.natCast_mul, h4]
    exact Int.bmod_eq_of_le (by omega) (by omega)
theorem pw_64 : ∀ n, n < 10 → (1 : Int64) <<< ((6 * nI n).toInt64 &&& 63) = pwS 64 n := by decide +kernel
theorem pw_p {n : Nat} (h : n ≤ 9) : 0 < (pwS 64 n).toInt := by
  rw [pw_b (b := 64) (by decide) (by decide) n h]
  exact Int.natCast_pos.mpr (Nat.pow_pos (by decide))
theorem fr_zn : ∀ n, n < 10 → (0 : Int64) / jZ ((Nat.gcd (0 : Int64).toInt.toNat (pwS 64 n).toInt.toNat : Nat) : Int) = 0 / jZ ((Nat.gcd (0 : Int64).toInt.toNat (64 : Int64).toInt.toNat : Nat) : Int) ∧ pwS 64 n / jZ ((Nat.gcd (0 : Int64).toInt.toNat (pwS 64 n).toInt.toNat : Nat) : Int) = 64 / jZ ((Nat.gcd (0 : Int64).toInt.toNat (64 : Int64).toInt.toNat : Nat) : Int) := by decide +kernel
theorem frV_zn {n : Nat} {p : Int32} (h : n ≤ 9) : frV 0 (pwS 64 n) p = frV 0 64 p := by
  have h9 := fr_zn n (by omega)
  unfold frV
  by_cases e : p = 0
  · rw [if_pos e, if_pos e]
    exact h9.1
  · rw [if_neg e, if_neg e]
    exact h9.2
set_option maxRecDepth 20000 in
theorem mpw_loop {Q : fmR → fmM → Prop} {M : fmM} {a : Int64} {n : Int32} {N : Nat} (hn : n.toInt = (N : Int)) (h100 : N ≤ 100) (hq : Q (.inl (some (.long (pwS a N)))) M) : ∀ (m : Nat) (k : Nat), k ≤ N → N - k = m → pvEv Tm 1 qX11_power 5 [some (.long a), none, some (.int n), some (.long (pwS a k)), none, some (.int (nI k))] [] M Q := by
  intro m
  induction m using Nat.strongRecOn with
  | _ m ih =>
    intro k hk hm
    have hk9 : (nI k).toInt = (k : Int) := nI_toInt (by omega)
    refine pv_iload (pc := 5) (i := 5) rfl (fm_dec dtX11_power 4 rfl) ?_
    refine pv_iloadn (pc := 7) (n := 2) 2 rfl rfl (fm_dec dtX11_power 5 rfl) ?_
    refine pv_icmp_ge (pc := 8) 21 (by decide) (fm_dec dtX11_power 6 rfl) (fun hc8 => ?_) (fun hc8 => ?_)
    · refine pv_lloadn (pc := 21) (n := 3) 3 rfl rfl (fm_dec dtX11_power 13 rfl) ?_
      exact pv_lreturn (pc := 22) rfl (fm_dec dtX11_power 14 rfl) (by have e9 : k = N := (by rw [sc_le] at hc8; omega); subst e9; exact hq)
    · refine pv_lloadn (pc := 11) (n := 3) 3 rfl rfl (fm_dec dtX11_power 7 rfl) ?_
      refine pv_lloadn (pc := 12) (n := 0) 0 rfl rfl (fm_dec dtX11_power 8 rfl) ?_
      refine pv_lmul (pc := 13) (fm_dec dtX11_power 9 rfl) ?_
      refine pv_lstoren (pc := 14) (n := 3) 3 rfl (by decide) rfl (fm_dec dtX11_power 10 rfl) ?_
      dsimp only [List.set_cons_zero, List.set_cons_succ]
      refine pv_iincc (pc := 15) 5 1 (by decide) rfl (by decide) rfl (fm_dec dtX11_power 11 rfl) ?_
      dsimp only [List.set_cons_zero, List.set_cons_succ]
      refine pv_goto (pc := 18) 5 (by decide) (fm_dec dtX11_power 12 rfl) ?_
      rw [nI_succ1]
      exact ih (N - (k + 1)) (by rw [sc_le] at hc8; omega) (k + 1) (by rw [sc_le] at hc8; omega) rfl
set_option maxRecDepth 20000 in
theorem c_mpow {M : fmM} {Q : fmR → fmM → Prop} {a : Int64} {n : Int32} {N : Nat} (hn : n.toInt = (N : Int)) (h100 : N ≤ 100) (hq : Q (.inl (some (.long (pwS a N)))) M) : pvGood Tm 1 qX11_power [.long a, .int n] M Q := by
  refine pvGood_of (Nat.le_of_ble_eq_true rfl) ?_
  show pvEv Tm 1 qX11_power 0 [some (.long a), none, some (.int n), none, none, none] [] M Q
  refine pv_lconst (pc := 0) (v := 1) (by decide) (fm_dec dtX11_power 0 rfl) ?_
  refine pv_lstoren (pc := 1) (n := 3) 3 rfl (by decide) rfl (fm_dec dtX11_power 1 rfl) ?_
  dsimp only [List.set_cons_zero, List.set_cons_succ]
  refine pv_iconst (pc := 2) (v := 0) (by decide) (fm_dec dtX11_power 2 rfl) ?_
  refine pv_istore (pc := 3) (i := 5) (by decide) rfl (fm_dec dtX11_power 3 rfl) ?_
  dsimp only [List.set_cons_zero, List.set_cons_succ]
  exact mpw_loop hn h100 hq N 0 (Nat.zero_le _) rfl
def lvV (D : dD) (S : aS) (i n : Nat) (p : Int32) : Int64 := if S.1.2.2.1.testBit i then frV 0 64 p else frV (pwS (jZ (64 - D.2.1 i 1)) n) (pwS 64 n) p
theorem od_x {x : Int32} {d : Int} (h : x.toInt = d) (h0 : 0 ≤ d) (h1 : d ≤ 64) : (64 : Int64) - x.toInt64 = jZ (64 - d) ∧ ((64 : Int32) - x).toInt64 = jZ (64 - d) ∧ (jZ (64 - d)).toInt = ((64 - d.toNat : Nat) : Int) := by
  have z64 : (64 : Int64).toInt = 64 := by decide
  have z32 : (64 : Int32).toInt = 64 := by decide
  have e1 : ((64 : Int64) - x.toInt64).toInt = 64 - d := by
    rw [Int64.toInt_sub, Int32.toInt_toInt64, h, z64]
    exact Int.bmod_eq_of_le (by omega) (by omega)
  have e2 : ((64 : Int32) - x).toInt64.toInt = 64 - d := by
    rw [Int32.toInt_toInt64, sc_sub (by omega) (by omega)]
    omega
  have e3 := jZ_is e1
  refine ⟨e3, jZ_is e2, ?_⟩
  rw [← e3, e1]
  omega
theorem al_b {t : Bool} (h : bI (!t) = 0) : t = true := by
  cases t with
  | true => rfl
  | false => exact absurd h (by decide)
theorem al_n {t : Bool} (h : ¬ bI (!t) = 0) : t = false := by
  cases t with
  | false => rfl
  | true => exact absurd (by decide) h
set_option maxRecDepth 20000 in
theorem xlv_loop {Q : fmR → fmM → Prop} {M : fmM} {D : dD} {cs : tC} {S : aS} {i n : Nat} {p : Int32} (h : xAq M D cs S) (hi : i < D.1) (hn8 : n ≤ 8) : ∀ (m : Nat) (k : Nat), k ≤ n → n - k = m → Q (.inl (some (.long (frV (pwS (jZ (64 - D.2.1 i 1)) n) (pwS 64 n) p)))) M → pvEv Tx 40 qX10_lives 45 [some (.ref 0), some (.int (nI i)), some (.int (nI n)), some (.int p), some (.long (pwS (jZ (64 - D.2.1 i 1)) k)), none, some (.int (nI k))] [] M Q := by
  intro m
  induction m using Nat.strongRecOn with
  | _ m ih =>
    intro k hk hm hq
    obtain ⟨hD, hX, hL, hs, ho⟩ := h
    have d8 := hD.1
    have hi9 : (nI i).toInt = (i : Int) := nI_toInt (by omega)
    have hk9 : (nI k).toInt = (k : Int) := nI_toInt (by omega)
    have hn9 : (nI n).toInt = (n : Int) := nI_toInt (by omega)
    have g : (M.1 5 i).toInt = D.2.1 i 1 := hX.2.1 i hi 1 (by decide)
    have b1 := (hD.2.2.1 i hi).2.1
    refine pv_iload (pc := 45) (i := 6) rfl (fm_dec dtX10_lives 26 rfl) ?_
    refine pv_iloadn (pc := 47) (n := 2) 2 rfl rfl (fm_dec dtX10_lives 27 rfl) ?_
    refine pv_icmp_ge (pc := 48) 76 (by decide) (fm_dec dtX10_lives 28 rfl) (fun hc48 => ?_) (fun hc48 => ?_)
    · refine pv_lload (pc := 76) (i := 4) rfl (fm_dec dtX10_lives 42 rfl) ?_
      refine pv_lconst (pc := 78) (v := 1) (by decide) (fm_dec dtX10_lives 43 rfl) ?_
      refine pv_bipush (pc := 79) (v := 6) (by decide) (fm_dec dtX10_lives 44 rfl) ?_
      refine pv_iloadn (pc := 81) (n := 2) 2 rfl rfl (fm_dec dtX10_lives 45 rfl) ?_
      refine pv_imul (pc := 82) (fm_dec dtX10_lives 46 rfl) ?_
      refine pv_lshl (pc := 83) (fm_dec dtX10_lives 47 rfl) ?_
      have e9 : k = n := (by rw [sc_le] at hc48; omega)
      subst e9
      rw [pw_64 k (by omega)]
      refine pv_iloadn (pc := 84) (n := 3) 3 rfl rfl (fm_dec dtX10_lives 48 rfl) ?_
      refine pv_iS3 (d' := 0) (pc := 85) pcs_X10_253 (Nat.le_of_ble_eq_true rfl) (by decide) (fm_dec dtX10_lives 49 rfl) ?_
      refine c_xterm (by rw [pw_b (od_x g (by omega) (by omega)).2.2 (by omega) k (by omega)]; exact Int.natCast_nonneg _) (pw_p (by omega)) ?_
      refine pv_then1 ?_
      exact pv_lreturn (pc := 88) rfl (fm_dec dtX10_lives 50 rfl) hq
    · refine pv_lload (pc := 51) (i := 4) rfl (fm_dec dtX10_lives 29 rfl) ?_
      refine pv_ldc2 (pc := 53) pkc_X10_251 (fm_dec dtX10_lives 30 rfl) ?_
      refine pv_aloadn (pc := 56) (n := 0) 0 rfl rfl (fm_dec dtX10_lives 31 rfl) ?_
      refine pv_getR (k := 0) (j := 1) (ci := 10) (pc := 57) 3 rfl (by decide) pfl_X10_19 (by decide) rfl (by decide) (fm_dec dtX10_lives 32 rfl) ?_
      refine pv_getR (k := 3) (j := 1) (ci := 8) (pc := 60) 5 rfl (by decide) pfl_X10_204 (by decide) rfl (by decide) (fm_dec dtX10_lives 33 rfl) ?_
      refine pv_iloadn (pc := 63) (n := 1) 1 rfl rfl (fm_dec dtX10_lives 34 rfl) ?_
      refine pv_iald (k := 5) (n := 8) (pc := 64) (by decide) rfl rfl (ix_in hi9 (by omega)) (fm_dec dtX10_lives 35 rfl) ?_
      rw [i32_cl hi9]
      refine pv_i2l (pc := 65) (fm_dec dtX10_lives 36 rfl) ?_
      refine pv_lsub (pc := 66) (fm_dec dtX10_lives 37 rfl) ?_
      rw [(od_x g (by omega) (by omega)).1]
      refine pv_lmul (pc := 67) (fm_dec dtX10_lives 38 rfl) ?_
      refine pv_lstore (pc := 68) (i := 4) (by decide) rfl (fm_dec dtX10_lives 39 rfl) ?_
      dsimp only [List.set_cons_zero, List.set_cons_succ]
      refine pv_iincc (pc := 70) 6 1 (by decide) rfl (by decide) rfl (fm_dec dtX10_lives 40 rfl) ?_
      dsimp only [List.set_cons_zero, List.set_cons_succ]
      refine pv_goto (pc := 73) 45 (by decide) (fm_dec dtX10_lives 41 rfl) ?_
      rw [nI_succ1]
      exact ih (n - (k + 1)) (by rw [sc_le] at hc48; omega) (k + 1) (by rw [sc_le] at hc48; omega) rfl hq
set_option maxRecDepth 20000 in
theorem c_xlives {M : fmM} {Q : fmR → fmM → Prop} {D : dD} {cs : tC} {S : aS} {x y p : Int32} (h : xAq M D cs S) (hn1 : ¬ inL D x → Q (.inr fmNSE) (fmI M 0 15 (M.1 0 15 + 1))) (hn2 : inL D x → ¬ (inW y 0 8 ∧ inW p 0 1) → Q (.inr fmIAE) (fmI M 0 16 (M.1 0 16 + 1))) (hq : inL D x → inW y 0 8 ∧ inW p 0 1 → ∀ M' : fmM, Q (.inl (some (.long (lvV D S x.toInt.toNat y.toInt.toNat p)))) M') : pvGood Tx 41 qX10_lives [.ref 0, .int x, .int y, .int p] M Q := by
  refine pvGood_of (Nat.le_of_ble_eq_true rfl) ?_
  show pvEv Tx 41 qX10_lives 0 [some (.ref 0), some (.int x), some (.int y), some (.int p), none, none, none] [] M Q
  have hxq := h
  obtain ⟨hD, hX, hL, hs, ho⟩ := h
  have d8 := hD.1
  have hl9 : (M.1 3 9).toInt = (D.1 : Int) := hX.1.1
  refine pv_aloadn (pc := 0) (n := 0) 0 rfl rfl (fm_dec dtX10_lives 0 rfl) ?_
  refine pv_iloadn (pc := 1) (n := 1) 1 rfl rfl (fm_dec dtX10_lives 1 rfl) ?_
  refine pv_invV1 (k := 0) (d' := 0) (pc := 2) pcv_X10_197 (by decide) rfl (Nat.le_of_ble_eq_true rfl) (by decide) (fm_dec dtX10_lives 2 rfl) ?_
  refine c_needL (fun h2a h2b => ?_) (fun h2 => ?_)
  · refine pv_then0 ?_
    have hn : inL D x := ⟨h2a, by omega⟩
    obtain ⟨i, hi, rfl, ei⟩ := hn.n hD
    rw [ei] at hq
    have hi9 : (nI i).toInt = (i : Int) := nI_toInt (by omega)
    have hi8 : i < 8 := (by omega)
    refine pv_aloadn (pc := 5) (n := 0) 0 rfl rfl (fm_dec dtX10_lives 3 rfl) ?_
    refine pv_iloadn (pc := 6) (n := 2) 2 rfl rfl (fm_dec dtX10_lives 4 rfl) ?_
    refine pv_iconst (pc := 7) (v := 0) (by decide) (fm_dec dtX10_lives 5 rfl) ?_
    refine pv_bipush (pc := 8) (v := 8) (by decide) (fm_dec dtX10_lives 6 rfl) ?_
    refine pv_invV3 (k := 0) (d' := 0) (pc := 10) pcv_X10_169 (by decide) rfl (Nat.le_of_ble_eq_true rfl) (by decide) (fm_dec dtX10_lives 7 rfl) ?_
    refine c_needW (fun h10a h10b => ?_) (fun h10 => ?_)
    · refine pv_then0 ?_
      refine pv_aloadn (pc := 13) (n := 0) 0 rfl rfl (fm_dec dtX10_lives 8 rfl) ?_
      refine pv_iloadn (pc := 14) (n := 3) 3 rfl rfl (fm_dec dtX10_lives 9 rfl) ?_
      refine pv_invV1 (k := 0) (d' := 1) (pc := 15) pcv_X10_244 (by decide) rfl (Nat.le_of_ble_eq_true rfl) (by decide) (fm_dec dtX10_lives 10 rfl) ?_
      refine c_needP (fun h15 => ?_) (fun h15 => ?_)
      · refine pv_then0 ?_
        have hP : inW y 0 8 ∧ inW p 0 1 := ⟨⟨h10a, h10b⟩, h15⟩
        obtain ⟨n, hn8, rfl, ey⟩ : ∃ n : Nat, n ≤ 8 ∧ y = nI n ∧ y.toInt.toNat = n := (by have z0 : (0 : Int32).toInt = 0 := (by decide); have z8 : (8 : Int32).toInt = 8 := (by decide); exact ⟨y.toInt.toNat, by omega, nI_is (by omega) (by omega), rfl⟩)
        rw [ey] at hq
        have hn9 : (nI n).toInt = (n : Int) := nI_toInt (by omega)
        refine pv_aloadn (pc := 18) (n := 0) 0 rfl rfl (fm_dec dtX10_lives 11 rfl) ?_
        refine pv_getR (k := 0) (j := 9) (ci := 10) (pc := 19) 46 rfl (by decide) pfl_X10_75 (by decide) rfl (by decide) (fm_dec dtX10_lives 12 rfl) ?_
        refine pv_getR (k := 46) (j := 0) (ci := 5) (pc := 22) 47 rfl (by decide) pfl_X10_90 (by decide) rfl (by decide) (fm_dec dtX10_lives 13 rfl) ?_
        refine pv_iloadn (pc := 25) (n := 1) 1 rfl rfl (fm_dec dtX10_lives 14 rfl) ?_
        refine pv_invV1 (k := 47) (d' := 0) (pc := 26) pcv_X10_215 (by decide) rfl (Nat.le_of_ble_eq_true rfl) (by decide) (fm_dec dtX10_lives 15 rfl) ?_
        refine c_xaliv hs ho hi8 ?_
        refine pv_then1 ?_
        refine pv_if_ne (pc := 29) 39 (by decide) (fm_dec dtX10_lives 16 rfl) (fun hc29 => ?_) (fun hc29 => ?_)
        · refine pv_lconst (pc := 39) (v := 1) (by decide) (fm_dec dtX10_lives 22 rfl) ?_
          refine pv_lstore (pc := 40) (i := 4) (by decide) rfl (fm_dec dtX10_lives 23 rfl) ?_
          dsimp only [List.set_cons_zero, List.set_cons_succ]
          refine pv_iconst (pc := 42) (v := 0) (by decide) (fm_dec dtX10_lives 24 rfl) ?_
          refine pv_istore (pc := 43) (i := 6) (by decide) rfl (fm_dec dtX10_lives 25 rfl) ?_
          dsimp only [List.set_cons_zero, List.set_cons_succ]
          refine (xlv_loop hxq hi hn8 n 0 (Nat.zero_le _) rfl ?_).up (by decide)
          have h9 := hq hn hP M
          unfold lvV at h9
          rw [if_neg (by rw [al_n hc29]; decide)] at h9
          exact h9
        · refine pv_lconst (pc := 32) (v := 0) (by decide) (fm_dec dtX10_lives 17 rfl) ?_
          refine pv_lconst (pc := 33) (v := 1) (by decide) (fm_dec dtX10_lives 18 rfl) ?_
          refine pv_iloadn (pc := 34) (n := 3) 3 rfl rfl (fm_dec dtX10_lives 19 rfl) ?_
          refine pv_iS3 (d' := 0) (pc := 35) pcs_X10_253 (Nat.le_of_ble_eq_true rfl) (by decide) (fm_dec dtX10_lives 20 rfl) ?_
          refine c_xterm (by decide) (by decide) ?_
          refine pv_then1 ?_
          exact pv_lreturn (pc := 38) rfl (fm_dec dtX10_lives 21 rfl) (by have h9 := hq hn hP M; unfold lvV at h9; rw [if_pos (al_b hc29), ← frV_z] at h9; exact h9)
      · refine pv_thenX ?_
        first | exact hn2 hn (fun h9 => h10 h9.1) | exact hn2 hn (fun h9 => h15 h9.2) | exact hn1 (fun h8 => h2 ⟨h8.1, by have := h8.2; omega⟩)
    · refine pv_thenX ?_
      first | exact hn2 hn (fun h9 => h10 h9.1) | exact hn2 hn (fun h9 => h15 h9.2) | exact hn1 (fun h8 => h2 ⟨h8.1, by have := h8.2; omega⟩)
  · refine pv_thenX ?_
    first | exact hn2 hn (fun h9 => h10 h9.1) | exact hn2 hn (fun h9 => h15 h9.2) | exact hn1 (fun h8 => h2 ⟨h8.1, by have := h8.2; omega⟩)
set_option maxRecDepth 20000 in
theorem c_mlives {M : fmM} {Q : fmR → fmM → Prop} {D : dD} {cs : tC} {S : aS} {x y p : Int32} (h : mAq M D cs S) (hn1 : ¬ inL D x → ∀ (z : Int64) (M' : fmM), M'.1 0 0 = 1 → Q (.inl (some (.long z))) M') (hn2 : inL D x → ¬ (inW y 0 8 ∧ inW p 0 1) → ∀ (z : Int64) (M' : fmM), M'.1 0 0 = 2 → Q (.inl (some (.long z))) M') (hq : inL D x → inW y 0 8 ∧ inW p 0 1 → ∀ M' : fmM, M'.1 0 0 = 0 → Q (.inl (some (.long (lvV D S x.toInt.toNat y.toInt.toNat p)))) M') : pvGood Tm 41 qX11_lives [.ref 0, .int x, .int y, .int p] M Q := by
  refine pvGood_of (Nat.le_of_ble_eq_true rfl) ?_
  show pvEv Tm 41 qX11_lives 0 [some (.ref 0), some (.int x), some (.int y), some (.int p)] [] M Q
  have hmq := h.z (x := 0)
  obtain ⟨hD, hY, hM, hd, ht, ho⟩ := hmq
  have d8 := hD.1
  have h4 : (M.1 4 0).toInt = (D.1 : Int) := hY.1
  have hl := hD.1
  refine pv_aloadn (pc := 0) (n := 0) 0 rfl rfl (fm_dec dtX11_lives 0 rfl) ?_
  refine pv_iconst (pc := 1) (v := 0) (by decide) (fm_dec dtX11_lives 1 rfl) ?_
  refine pv_putI (k := 0) (j := 0) (ci := 11) (pc := 2) pfl_X11_101 (by decide) rfl (by decide) (fm_dec dtX11_lives 2 rfl) ?_
  refine pv_aloadn (pc := 5) (n := 0) 0 rfl rfl (fm_dec dtX11_lives 3 rfl) ?_
  refine pv_aloadn (pc := 6) (n := 0) 0 rfl rfl (fm_dec dtX11_lives 4 rfl) ?_
  refine pv_iloadn (pc := 7) (n := 1) 1 rfl rfl (fm_dec dtX11_lives 5 rfl) ?_
  refine pv_invV1 (k := 0) (d' := 1) (pc := 8) pcv_X11_331 (by decide) rfl (Nat.le_of_ble_eq_true rfl) (by decide) (fm_dec dtX11_lives 6 rfl) ?_
  refine c_isLife (M := fmI M 0 0 0) h4 hl (fun k hk hkl => ?_) (fun hno => ?_)
  · refine pv_then1 ?_
    refine pv_if_ne (pc := 11) 18 (by decide) (fm_dec dtX11_lives 7 rfl) (fun _ => ?_) (fun hc11 => by exfalso; revert hc11; decide)
    refine pv_iconst (pc := 18) (v := 0) (by decide) (fm_dec dtX11_lives 10 rfl) ?_
    refine pv_iconst (pc := 19) (v := 1) (by decide) (fm_dec dtX11_lives 11 rfl) ?_
    refine pv_iconst (pc := 20) (v := 0) (by decide) (fm_dec dtX11_lives 12 rfl) ?_
    refine pv_invV3 (k := 0) (d' := 0) (pc := 21) pcv_X11_177 (by decide) rfl (Nat.le_of_ble_eq_true rfl) (by decide) (fm_dec dtX11_lives 13 rfl) ?_
    refine c_badF0 rfl ?_
    refine pv_then1 ?_
    refine pv_if_ne (pc := 24) 60 (by decide) (fm_dec dtX11_lives 14 rfl) (fun hc24 => by exfalso; revert hc24; decide) (fun _ => ?_)
    have hn : inL D x := ⟨by omega, by omega⟩
    obtain ⟨i, hi, rfl, ei⟩ := hn.n hD
    rw [ei] at hq
    have hi9 : (nI i).toInt = (i : Int) := nI_toInt (by omega)
    have hi8 : i < 8 := (by omega)
    have e0 : (fmI M 0 0 0).1 7 (Int32.toNatClampNeg 0) = nI S.1.2.2.1 := nI_is ht.1 (by have := ho.2.2.1; omega)
    have b1 := (hD.2.2.1 i hi).2.1
    have g : ((fmI M 0 0 0).1 (35 + i) (Int32.toNatClampNeg 1)).toInt = D.2.1 i 1 := hY.2.2.2.1 i hi 1 (by decide)
    refine pv_aloadn (pc := 27) (n := 0) 0 rfl rfl (fm_dec dtX11_lives 15 rfl) ?_
    refine pv_iloadn (pc := 28) (n := 2) 2 rfl rfl (fm_dec dtX11_lives 16 rfl) ?_
    refine pv_iconst (pc := 29) (v := 0) (by decide) (fm_dec dtX11_lives 17 rfl) ?_
    refine pv_bipush (pc := 30) (v := 8) (by decide) (fm_dec dtX11_lives 18 rfl) ?_
    refine pv_iS3 (d' := 0) (pc := 32) pcs_X11_135 (Nat.le_of_ble_eq_true rfl) (by decide) (fm_dec dtX11_lives 19 rfl) ?_
    refine c_in (fun h32a h32b => ?_) (fun h32 => ?_)
    · refine pv_then1 ?_
      refine pv_if_ne (pc := 35) 42 (by decide) (fm_dec dtX11_lives 20 rfl) (fun _ => ?_) (fun hc35 => by exfalso; revert hc35; decide)
      refine pv_iconst (pc := 42) (v := 0) (by decide) (fm_dec dtX11_lives 23 rfl) ?_
      refine pv_iconst (pc := 43) (v := 2) (by decide) (fm_dec dtX11_lives 24 rfl) ?_
      refine pv_iconst (pc := 44) (v := 1) (by decide) (fm_dec dtX11_lives 25 rfl) ?_
      refine pv_invV3 (k := 0) (d' := 0) (pc := 45) pcv_X11_177 (by decide) rfl (Nat.le_of_ble_eq_true rfl) (by decide) (fm_dec dtX11_lives 26 rfl) ?_
      refine c_badF1 rfl ?_
      refine pv_then1 ?_
      refine pv_if_ne (pc := 48) 60 (by decide) (fm_dec dtX11_lives 27 rfl) (fun hc48 => by exfalso; revert hc48; decide) (fun _ => ?_)
      refine pv_aloadn (pc := 51) (n := 0) 0 rfl rfl (fm_dec dtX11_lives 28 rfl) ?_
      refine pv_iloadn (pc := 52) (n := 3) 3 rfl rfl (fm_dec dtX11_lives 29 rfl) ?_
      refine pv_iconst (pc := 53) (v := 2) (by decide) (fm_dec dtX11_lives 30 rfl) ?_
      refine pv_invV2 (k := 0) (d' := 1) (pc := 54) pcv_X11_340 (by decide) rfl (Nat.le_of_ble_eq_true rfl) (by decide) (fm_dec dtX11_lives 31 rfl) ?_
      refine c_noP rfl (by decide) (fun h54 => ?_) (fun h54 => ?_)
      · refine pv_then1 ?_
        refine pv_if_eq (pc := 57) 62 (by decide) (fm_dec dtX11_lives 32 rfl) (fun _ => ?_) (fun hc57 => by exfalso; revert hc57; decide)
        have hP : inW y 0 8 ∧ inW p 0 1 := ⟨⟨h32a, h32b⟩, h54⟩
        obtain ⟨n, hn8, rfl, ey⟩ : ∃ n : Nat, n ≤ 8 ∧ y = nI n ∧ y.toInt.toNat = n := (by have z0 : (0 : Int32).toInt = 0 := (by decide); have z8 : (8 : Int32).toInt = 8 := (by decide); exact ⟨y.toInt.toNat, by omega, nI_is (by omega) (by omega), rfl⟩)
        rw [ey] at hq
        have hn9 : (nI n).toInt = (n : Int) := nI_toInt (by omega)
        refine pv_aloadn (pc := 62) (n := 0) 0 rfl rfl (fm_dec dtX11_lives 35 rfl) ?_
        refine pv_getR (k := 0) (j := 27) (ci := 11) (pc := 63) 7 rfl (by decide) pfl_X11_61 (by decide) rfl (by decide) (fm_dec dtX11_lives 36 rfl) ?_
        refine pv_iconst (pc := 66) (v := 0) (by decide) (fm_dec dtX11_lives 37 rfl) ?_
        refine pv_iald (k := 7) (n := 14) (pc := 67) (by decide) rfl rfl (fm_inl (by decide)) (fm_dec dtX11_lives 38 rfl) ?_
        refine pv_iloadn (pc := 68) (n := 1) 1 rfl rfl (fm_dec dtX11_lives 39 rfl) ?_
        refine pv_iS2 (d' := 0) (pc := 69) pcs_X11_256 (Nat.le_of_ble_eq_true rfl) (by decide) (fm_dec dtX11_lives 40 rfl) ?_
        refine c_has (fun h69 => ?_) (fun h69 => ?_)
        · refine pv_then1 ?_
          refine pv_if_eq (pc := 72) 79 (by decide) (fm_dec dtX11_lives 41 rfl) (fun hc72 => by exfalso; revert hc72; decide) (fun _ => ?_)
          refine pv_lconst (pc := 75) (v := 0) (by decide) (fm_dec dtX11_lives 42 rfl) ?_
          refine pv_goto (pc := 76) 95 (by decide) (fm_dec dtX11_lives 43 rfl) ?_
          refine pv_ldc2 (pc := 95) pkc_X11_343 (fm_dec dtX11_lives 55 rfl) ?_
          refine pv_iloadn (pc := 98) (n := 2) 2 rfl rfl (fm_dec dtX11_lives 56 rfl) ?_
          refine pv_iS2 (d' := 1) (pc := 99) pcs_X11_365 (Nat.le_of_ble_eq_true rfl) (by decide) (fm_dec dtX11_lives 57 rfl) ?_
          refine c_mpow (N := n) hn9 (by omega) ?_
          refine pv_then1 ?_
          refine pv_iloadn (pc := 102) (n := 3) 3 rfl rfl (fm_dec dtX11_lives 58 rfl) ?_
          refine pv_iS3 (d' := 0) (pc := 103) pcs_X11_345 (Nat.le_of_ble_eq_true rfl) (by decide) (fm_dec dtX11_lives 59 rfl) ?_
          refine c_mterm (by decide) (pw_p (by omega)) ?_
          refine pv_then1 ?_
          exact pv_lreturn (pc := 106) rfl (fm_dec dtX11_lives 60 rfl) (by have h9 := hq hn hP (fmI M 0 0 0) rfl; unfold lvV at h9; rw [if_pos ((has8 _ ho.2.2.1 i hi8).mp (by rw [← e0]; exact h69)), ← frV_zn (n := n) (by omega)] at h9; exact h9)
        · refine pv_then1 ?_
          refine pv_if_eq (pc := 72) 79 (by decide) (fm_dec dtX11_lives 41 rfl) (fun _ => ?_) (fun hc72 => by exfalso; revert hc72; decide)
          refine pv_bipush (pc := 79) (v := 64) (by decide) (fm_dec dtX11_lives 44 rfl) ?_
          refine pv_aloadn (pc := 81) (n := 0) 0 rfl rfl (fm_dec dtX11_lives 45 rfl) ?_
          refine pv_getR (k := 0) (j := 14) (ci := 11) (pc := 82) 17 rfl (by decide) pfl_X11_31 (by decide) rfl (by decide) (fm_dec dtX11_lives 46 rfl) ?_
          refine pv_iloadn (pc := 85) (n := 1) 1 rfl rfl (fm_dec dtX11_lives 47 rfl) ?_
          refine pv_aald (k := 17) (n := 8) (r := (35 + i)) (pc := 86) (by decide) (Or.inr (Or.inr rfl)) rfl (rw_life.inb hi9 hi8) (rw_life.at hi9 hi8) (rw_life.2.2.2 _ hi8).2.1 (fm_dec dtX11_lives 48 rfl) ?_
          refine pv_iconst (pc := 87) (v := 1) (by decide) (fm_dec dtX11_lives 49 rfl) ?_
          refine pv_iald (k := (35 + i)) (n := 6) (pc := 88) (rw_life.2.2.2 _ hi8).2.2.1 (rw_life.2.2.2 _ hi8).2.2.2.1 (rw_life.2.2.2 _ hi8).2.2.2.2 (fm_inl (by decide)) (fm_dec dtX11_lives 50 rfl) ?_
          refine pv_isub (pc := 89) (fm_dec dtX11_lives 51 rfl) ?_
          refine pv_i2l (pc := 90) (fm_dec dtX11_lives 52 rfl) ?_
          rw [(od_x g (by omega) (by omega)).2.1]
          refine pv_iloadn (pc := 91) (n := 2) 2 rfl rfl (fm_dec dtX11_lives 53 rfl) ?_
          refine pv_iS2 (d' := 1) (pc := 92) pcs_X11_365 (Nat.le_of_ble_eq_true rfl) (by decide) (fm_dec dtX11_lives 54 rfl) ?_
          refine c_mpow (N := n) hn9 (by omega) ?_
          refine pv_then1 ?_
          refine pv_ldc2 (pc := 95) pkc_X11_343 (fm_dec dtX11_lives 55 rfl) ?_
          refine pv_iloadn (pc := 98) (n := 2) 2 rfl rfl (fm_dec dtX11_lives 56 rfl) ?_
          refine pv_iS2 (d' := 1) (pc := 99) pcs_X11_365 (Nat.le_of_ble_eq_true rfl) (by decide) (fm_dec dtX11_lives 57 rfl) ?_
          refine c_mpow (N := n) hn9 (by omega) ?_
          refine pv_then1 ?_
          refine pv_iloadn (pc := 102) (n := 3) 3 rfl rfl (fm_dec dtX11_lives 58 rfl) ?_
          refine pv_iS3 (d' := 0) (pc := 103) pcs_X11_345 (Nat.le_of_ble_eq_true rfl) (by decide) (fm_dec dtX11_lives 59 rfl) ?_
          refine c_mterm (by rw [pw_b (od_x g (by omega) (by omega)).2.2 (by omega) n (by omega)]; exact Int.natCast_nonneg _) (pw_p (by omega)) ?_
          refine pv_then1 ?_
          exact pv_lreturn (pc := 106) rfl (fm_dec dtX11_lives 60 rfl) (by have h9 := hq hn hP (fmI M 0 0 0) rfl; unfold lvV at h9; rw [if_neg (fun h8 => h69 (by rw [e0]; exact (has8 _ ho.2.2.1 i hi8).mpr h8))] at h9; exact h9)
      · refine pv_then1 ?_
        refine pv_if_eq (pc := 57) 62 (by decide) (fm_dec dtX11_lives 32 rfl) (fun hc57 => by exfalso; revert hc57; decide) (fun _ => ?_)
        refine pv_lconst (pc := 60) (v := 0) (by decide) (fm_dec dtX11_lives 33 rfl) ?_
        exact pv_lreturn (pc := 61) rfl (fm_dec dtX11_lives 34 rfl) (hn2 hn (fun h9 => h54 h9.2) _ _ rfl)
    · refine pv_then1 ?_
      refine pv_if_ne (pc := 35) 42 (by decide) (fm_dec dtX11_lives 20 rfl) (fun hc35 => by exfalso; revert hc35; decide) (fun _ => ?_)
      refine pv_iconst (pc := 38) (v := 1) (by decide) (fm_dec dtX11_lives 21 rfl) ?_
      refine pv_goto (pc := 39) 43 (by decide) (fm_dec dtX11_lives 22 rfl) ?_
      refine pv_iconst (pc := 43) (v := 2) (by decide) (fm_dec dtX11_lives 24 rfl) ?_
      refine pv_iconst (pc := 44) (v := 1) (by decide) (fm_dec dtX11_lives 25 rfl) ?_
      refine pv_invV3 (k := 0) (d' := 0) (pc := 45) pcv_X11_177 (by decide) rfl (Nat.le_of_ble_eq_true rfl) (by decide) (fm_dec dtX11_lives 26 rfl) ?_
      refine c_badT1 rfl (by decide) ?_
      refine pv_then1 ?_
      refine pv_if_ne (pc := 48) 60 (by decide) (fm_dec dtX11_lives 27 rfl) (fun _ => ?_) (fun hc48 => by exfalso; revert hc48; decide)
      refine pv_lconst (pc := 60) (v := 0) (by decide) (fm_dec dtX11_lives 33 rfl) ?_
      exact pv_lreturn (pc := 61) rfl (fm_dec dtX11_lives 34 rfl) (hn2 hn (fun h9 => h32 h9.1) _ _ rfl)
  · refine pv_then1 ?_
    refine pv_if_ne (pc := 11) 18 (by decide) (fm_dec dtX11_lives 7 rfl) (fun hc11 => by exfalso; revert hc11; decide) (fun _ => ?_)
    refine pv_iconst (pc := 14) (v := 1) (by decide) (fm_dec dtX11_lives 8 rfl) ?_
    refine pv_goto (pc := 15) 19 (by decide) (fm_dec dtX11_lives 9 rfl) ?_
    refine pv_iconst (pc := 19) (v := 1) (by decide) (fm_dec dtX11_lives 11 rfl) ?_
    refine pv_iconst (pc := 20) (v := 0) (by decide) (fm_dec dtX11_lives 12 rfl) ?_
    refine pv_invV3 (k := 0) (d' := 0) (pc := 21) pcv_X11_177 (by decide) rfl (Nat.le_of_ble_eq_true rfl) (by decide) (fm_dec dtX11_lives 13 rfl) ?_
    refine c_badT0 rfl (by decide) ?_
    refine pv_then1 ?_
    refine pv_if_ne (pc := 24) 60 (by decide) (fm_dec dtX11_lives 14 rfl) (fun _ => ?_) (fun hc24 => by exfalso; revert hc24; decide)
    refine pv_lconst (pc := 60) (v := 0) (by decide) (fm_dec dtX11_lives 33 rfl) ?_
    exact pv_lreturn (pc := 61) rfl (fm_dec dtX11_lives 34 rfl) (hn1 hno _ _ rfl)
theorem xe_lives {M : fmM} {D : dD} {cs : tC} {S : aS} {x y p : Int32} (h : xAq M D cs S) : pvGood Tx 250 qX10_lives [.ref 0, .int x, .int y, .int p] M (fun r _ => (inL D x ∧ (inW y 0 8 ∧ inW p 0 1) ∧ r = .inl (some (.long (lvV D S x.toInt.toNat y.toInt.toNat p)))) ∨ (¬ inL D x ∧ r = .inr fmNSE) ∨ (inL D x ∧ ¬ (inW y 0 8 ∧ inW p 0 1) ∧ r = .inr fmIAE)) := (c_xlives h (fun h => Or.inr (Or.inl ⟨h, rfl⟩)) (fun h h' => Or.inr (Or.inr ⟨h, h', rfl⟩)) (fun h h' M' => Or.inl ⟨h, h', rfl⟩)).up (by decide)
theorem me_lives {M : fmM} {D : dD} {cs : tC} {S : aS} {x y p : Int32} (h : mAq M D cs S) : pvGood Tm 250 qX11_lives [.ref 0, .int x, .int y, .int p] M (fun r M' => (inL D x ∧ (inW y 0 8 ∧ inW p 0 1) ∧ r = .inl (some (.long (lvV D S x.toInt.toNat y.toInt.toNat p))) ∧ M'.1 0 0 = 0) ∨ (¬ inL D x ∧ M'.1 0 0 = 1) ∨ (inL D x ∧ ¬ (inW y 0 8 ∧ inW p 0 1) ∧ M'.1 0 0 = 2)) := (c_mlives h (fun h z M' e => Or.inr (Or.inl ⟨h, e⟩)) (fun h h' z M' e => Or.inr (Or.inr ⟨h, h', e⟩)) (fun h h' M' z => Or.inl ⟨h, h', rfl, z⟩)).up (by decide)
