set_option maxRecDepth 20000 in
theorem c_needP {M : fmM} {Q : fmR → fmM → Prop} {x : Int32} (hq : inW x 0 1 → Q (.inl none) M) (hf : ¬ inW x 0 1 → Q (.inr fmIAE) (fmI M 0 16 (M.1 0 16 + 1))) : pvGood Tx 1 qX10_needPart [.ref 0, .int x] M Q := by
  refine pvGood_of (Nat.le_of_ble_eq_true rfl) ?_
  show pvEv Tx 1 qX10_needPart 0 [some (.ref 0), some (.int x)] [] M Q
  refine pv_aloadn (pc := 0) (n := 0) 0 rfl rfl (fm_dec dtX10_needPart 0 rfl) ?_
  refine pv_iloadn (pc := 1) (n := 1) 1 rfl rfl (fm_dec dtX10_needPart 1 rfl) ?_
  refine pv_iconst (pc := 2) (v := 0) (by decide) (fm_dec dtX10_needPart 2 rfl) ?_
  refine pv_iconst (pc := 3) (v := 1) (by decide) (fm_dec dtX10_needPart 3 rfl) ?_
  refine pv_invV3 (k := 0) (d' := 0) (pc := 4) pcv_X10_169 (by decide) rfl (Nat.le_of_ble_eq_true rfl) (by decide) (fm_dec dtX10_needPart 4 rfl) ?_
  refine c_needW (fun h4a h4b => ?_) (fun h4 => ?_)
  · refine pv_then0 ?_
    exact pv_return (pc := 7) rfl (fm_dec dtX10_needPart 5 rfl) (hq ⟨h4a, h4b⟩)
  · refine pv_thenX ?_
    exact hf h4
set_option maxRecDepth 20000 in
theorem c_noP {M : fmM} {Q : fmR → fmM → Prop} {x w : Int32} (hth : M.1 0 0 = 0) (hw : ¬ w = 0) (hq : inW x 0 1 → Q (.inl (some (.int 0))) M) (hf : ¬ inW x 0 1 → Q (.inl (some (.int 1))) (fmI (fmI M 0 0 w) 2 1 (M.1 2 1 + 1))) : pvGood Tm 1 qX11_noPart [.ref 0, .int x, .int w] M Q := by
  refine pvGood_of (Nat.le_of_ble_eq_true rfl) ?_
  show pvEv Tm 1 qX11_noPart 0 [some (.ref 0), some (.int x), some (.int w)] [] M Q
  refine pv_aloadn (pc := 0) (n := 0) 0 rfl rfl (fm_dec dtX11_noPart 0 rfl) ?_
  refine pv_iloadn (pc := 1) (n := 1) 1 rfl rfl (fm_dec dtX11_noPart 1 rfl) ?_
  refine pv_iconst (pc := 2) (v := 0) (by decide) (fm_dec dtX11_noPart 2 rfl) ?_
  refine pv_iconst (pc := 3) (v := 1) (by decide) (fm_dec dtX11_noPart 3 rfl) ?_
  refine pv_iS3 (d' := 0) (pc := 4) pcs_X11_135 (Nat.le_of_ble_eq_true rfl) (by decide) (fm_dec dtX11_noPart 4 rfl) ?_
  refine c_in (fun h4a h4b => ?_) (fun h4 => ?_)
  · refine pv_then1 ?_
    refine pv_if_ne (pc := 7) 14 (by decide) (fm_dec dtX11_noPart 5 rfl) (fun _ => ?_) (fun hc7 => by exfalso; revert hc7; decide)
    refine pv_iconst (pc := 14) (v := 0) (by decide) (fm_dec dtX11_noPart 8 rfl) ?_
    refine pv_iloadn (pc := 15) (n := 2) 2 rfl rfl (fm_dec dtX11_noPart 9 rfl) ?_
    refine pv_iconst (pc := 16) (v := 1) (by decide) (fm_dec dtX11_noPart 10 rfl) ?_
    refine pv_invV3 (k := 0) (d' := 0) (pc := 17) pcv_X11_177 (by decide) rfl (Nat.le_of_ble_eq_true rfl) (by decide) (fm_dec dtX11_noPart 11 rfl) ?_
    refine c_badF1 hth ?_
    refine pv_then1 ?_
    exact pv_zreturn (pc := 20) rfl (by first | exact Or.inr rfl | exact Or.inl rfl) (fm_dec dtX11_noPart 12 rfl) (hq ⟨h4a, h4b⟩)
  · refine pv_then1 ?_
    refine pv_if_ne (pc := 7) 14 (by decide) (fm_dec dtX11_noPart 5 rfl) (fun hc7 => by exfalso; revert hc7; decide) (fun _ => ?_)
    refine pv_iconst (pc := 10) (v := 1) (by decide) (fm_dec dtX11_noPart 6 rfl) ?_
    refine pv_goto (pc := 11) 15 (by decide) (fm_dec dtX11_noPart 7 rfl) ?_
    refine pv_iloadn (pc := 15) (n := 2) 2 rfl rfl (fm_dec dtX11_noPart 9 rfl) ?_
    refine pv_iconst (pc := 16) (v := 1) (by decide) (fm_dec dtX11_noPart 10 rfl) ?_
    refine pv_invV3 (k := 0) (d' := 0) (pc := 17) pcv_X11_177 (by decide) rfl (Nat.le_of_ble_eq_true rfl) (by decide) (fm_dec dtX11_noPart 11 rfl) ?_
    refine c_badT1 hth hw ?_
    refine pv_then1 ?_
    exact pv_zreturn (pc := 20) rfl (by first | exact Or.inr rfl | exact Or.inl rfl) (fm_dec dtX11_noPart 12 rfl) (hf h4)
def pwS (a : Int64) : Nat → Int64
  | 0 => 1
  | n + 1 => pwS a n * a
theorem pw_b {a : Int64} {b : Nat} (ha : a.toInt = (b : Int)) (hb : b ≤ 64) : ∀ n, n ≤ 9 → (pwS a n).toInt = ((b ^ n : Nat) : Int) := by
  intro n
  induction n with
  | zero => intro _; rfl
  | succ n ih =>
    intro hn
    have h1 : b ^ (n + 1) ≤ 64 ^ (n + 1) := Nat.pow_le_pow_left hb (n + 1)
    have h2 : 64 ^ (n + 1) ≤ 64 ^ 9 := Nat.pow_le_pow_right (by decide) hn
    have h3 : (64 : Nat) ^ 9 = 18014398509481984 := by decide
    show (pwS a n * a).toInt = _
    have h4 : b ^ n * b = b ^ (n + 1) := (Nat.pow_succ b n).symm
    rw [Int64.toInt_mul, ih (by omega), ha, ← Int.natCast_mul, h4]
    exact Int.bmod_eq_of_le (by omega) (by omega)
theorem pw_64 : ∀ n, n < 10 → (1 : Int64) <<< ((6 * nI n).toInt64 &&& 63) = pwS 64 n := by decide +kernel
theorem pw_p {n : Nat} (h : n ≤ 9) : 0 < (pwS 64 n).toInt := by
  rw [pw_b (b := 64) (by decide) (by decide) n h]
  exact Int.natCast_pos.mpr (Nat.pow_pos (by decide))
theorem fr_zn : ∀ n, n < 10 → (0 : Int64) / jZ ((Nat.gcd (0 : Int64).toInt.toNat (pwS 64 n).toInt.toNat : Nat) : Int) = 0 / jZ ((Nat.gcd (0 : Int64).toInt.toNat (64 : Int64).toInt.toNat : Nat) : Int) ∧ pwS 64 n / jZ ((Nat.gcd (0 : Int64).toInt.toNat (pwS 64 n).toInt.toNat : Nat) : Int) = 64 / jZ ((Nat.gcd (0 : Int64).toInt.toNat (64 : Int64).toInt.toNat : Nat) : Int) := by decide +kernel
theorem frV_zn {n : Nat} {p : Int32} (h : n ≤ 9) : frV 0 (pwS 64 n) p = frV 0 64 p := by
  have h9 := fr_zn n (by omega)
  unfold frV
  by_cases e : p = 0
  · rw [if_pos e, if_pos e]
    exact h9.1
  · rw [if_neg e, if_neg e]
    exact h9.2
set_option maxRecDepth 20000 in
theorem mpw_loop {Q : fmR → fmM → Prop} {M : fmM} {a : Int64} {n : Int32} {N : Nat} (hn : n.toInt = (N : Int)) (h100 : N ≤ 100) (hq : Q (.inl (some (.long (pwS a N)))) M) : ∀ (m : Nat) (k : Nat), k ≤ N → N - k = m → pvEv Tm 1 qX11_power 5 [some (.long a), none, some (.int n), some (.long (pwS a k)), none, some (.int (nI k))] [] M Q := by
  intro m
  induction m using Nat.strongRecOn with
  | _ m ih =>
    intro k hk hm
    have hk9 : (nI k).toInt = (k : Int) := nI_toInt (by omega)
    refine pv_iload (pc := 5) (i := 5) rfl (fm_dec dtX11_power 4 rfl) ?_
    refine pv_iloadn (pc := 7) (n := 2) 2 rfl rfl (fm_dec dtX11_power 5 rfl) ?_
    refine pv_icmp_ge (pc := 8) 21 (by decide) (fm_dec dtX11_power 6 rfl) (fun hc8 => ?_) (fun hc8 => ?_)
    · refine pv_lloadn (pc := 21) (n := 3) 3 rfl rfl (fm_dec dtX11_power 13 rfl) ?_
      exact pv_lreturn (pc := 22) rfl (fm_dec dtX11_power 14 rfl) (by have e9 : k = N := (by rw [sc_le] at hc8; omega); subst e9; exact hq)
    · refine pv_lloadn (pc := 11) (n := 3) 3 rfl rfl (fm_dec dtX11_power 7 rfl) ?_
      refine pv_lloadn (pc := 12) (n := 0) 0 rfl rfl (fm_dec dtX11_power 8 rfl) ?_
      refine pv_lmul (pc := 13) (fm_dec dtX11_power 9 rfl) ?_
      refine pv_lstoren (pc := 14) (n := 3) 3 rfl (by decide) rfl (fm_dec dtX11_power 10 rfl) ?_
      dsimp only [List.set_cons_zero, List.set_cons_succ]
      refine pv_iincc (pc := 15) 5 1 (by decide) rfl (by decide) rfl (fm_dec dtX11_power 11 rfl) ?_
      dsimp only [List.set_cons_zero, List.set_cons_succ]
      refine pv_goto (pc := 18) 5 (by decide) (fm_dec dtX11_power 12 rfl) ?_
      rw [nI_succ1]
      exact ih (N - (k + 1)) (by rw [sc_le] at hc8; omega) (k + 1) (by rw [sc_le] at hc8; omega) rfl
set_option maxRecDepth 20000 in
theorem c_mpow {M : fmM} {Q : fmR → fmM → Prop} {a : Int64} {n : Int32} {N : Nat} (hn : n.toInt = (N : Int)) (h100 : N ≤ 100) (hq : Q (.inl (some (.long (pwS a N)))) M) : pvGood Tm 1 qX11_power [.long a, .int n] M Q := by
  refine pvGood_of (Nat.le_of_ble_eq_true rfl) ?_
  show pvEv Tm 1 qX11_power 0 [some (.long a), none, some (.int n), none, none, none] [] M Q
  refine pv_lconst (pc := 0) (v := 1) (by decide) (fm_dec dtX11_power 0 rfl) ?_
  refine pv_lstoren (pc := 1) (n := 3) 3 rfl (by decide) rfl (fm_dec dtX11_power 1 rfl) ?_
  dsimp only [List.set_cons_zero, List.set_cons_succ]
  refine pv_iconst (pc := 2) (v := 0) (by decide) (fm_dec dtX11_power 2 rfl) ?_
  refine pv_istore (pc := 3) (i := 5) (by decide) rfl (fm_dec dtX11_power 3 rfl) ?_
  dsimp only [List.set_cons_zero, List.set_cons_succ]
  exact mpw_loop hn h100 hq N 0 (Nat.zero_le _) rfl
theorem al_b {t : Bool} (h : bI (!t) = 0) : t = true := by
  cases t with
  | true => rfl
  | false => exact absurd h (by decide)
theorem al_n {t : Bool} (h : ¬ bI (!t) = 0) : t = false := by
  cases t with
  | false => rfl
  | true => exact absurd (by decide) h
/-- how old the piece is in k weeks, ahead of what is written then; wk: the weeks of writing -/
def agW (S : aS) (i wk : Nat) : Nat → Int
  | 0 => S.2 i
  | k + 1 => if wk.testBit k = true then 1 else if agW S i wk k = -1 then -1 else agW S i wk k + 1
/-- and behind it -/
def agP (S : aS) (i wk k : Nat) : Int := if wk.testBit k = true then 0 else agW S i wk k
theorem agW_s {S : aS} {i wk k : Nat} : agW S i wk (k + 1) = if agP S i wk k = -1 then -1 else agP S i wk k + 1 := by
  show (if wk.testBit k = true then (1 : Int) else if agW S i wk k = -1 then -1 else agW S i wk k + 1) = _
  unfold agP
  by_cases e : wk.testBit k = true
  · rw [if_pos e, if_pos e, if_neg (by decide)]
    decide
  · rw [if_neg e, if_neg e]
theorem agW_b {D : dD} {S : aS} {i wk : Nat} (ho : stO D S) (hi : i < D.1) : ∀ k, -1 ≤ agW S i wk k ∧ agW S i wk k ≤ 240 + (k : Int) := by
  intro k
  induction k with
  | zero =>
    have h := ag_b ho hi
    exact ⟨h.1, by show S.2 i ≤ 240 + ((0 : Nat) : Int); omega⟩
  | succ k ih =>
    show -1 ≤ (if wk.testBit k = true then (1 : Int) else if agW S i wk k = -1 then -1 else agW S i wk k + 1) ∧ (if wk.testBit k = true then (1 : Int) else if agW S i wk k = -1 then -1 else agW S i wk k + 1) ≤ _
    split
    · omega
    · split <;> omega
theorem agP_b {D : dD} {S : aS} {i wk k : Nat} (ho : stO D S) (hi : i < D.1) : -1 ≤ agP S i wk k ∧ agP S i wk k ≤ 240 + (k : Int) := by
  have h := agW_b (wk := wk) ho hi k
  unfold agP
  split <;> omega
theorem agP_0 {S : aS} {i k : Nat} : agP S i 0 k = agW S i 0 k := if_neg (by rw [Nat.zero_testBit]; decide)
theorem agW_0 {D : dD} {S : aS} {i : Nat} (ho : stO D S) (hi : i < D.1) : ∀ k, agW S i 0 k = if S.2 i = -1 then -1 else S.2 i + (k : Int) := by
  have hb := ag_b ho hi
  intro k
  induction k with
  | zero =>
    show S.2 i = _
    split <;> omega
  | succ k ih =>
    rw [agW_s, agP_0, ih]
    by_cases e : S.2 i = -1
    · rw [if_pos e, if_pos rfl, if_pos e]
    · rw [if_neg e, if_neg (by omega), if_neg e]
      omega
/-- what a death in k weeks would lose -/
def ccN (D : dD) (cs : tC) (S : aS) (i wk k : Nat) : Nat := (coA D cs S.1.2.2.1 (S.1.1 + k) i (agP S i wk k)).toNat
def tcN (D : dD) (cs : tC) (S : aS) (i wk k : Nat) : Nat := (64 - (D.2.1 i 1).toNat) ^ k * (D.2.1 i 1).toNat * ccN D cs S i wk k
/-- the loss on the mean in the first k weeks, by 64 to the k -/
def hnN (D : dD) (cs : tC) (S : aS) (i wk : Nat) : Nat → Nat
  | 0 => 0
  | k + 1 => hnN D cs S i wk k * 64 + tcN D cs S i wk k
theorem cc_b {D : dD} {cs : tC} {S : aS} {i wk k : Nat} (hD : dOk D) (hi : i < D.1) : (coA D cs S.1.2.2.1 (S.1.1 + k) i (agP S i wk k)) = ((ccN D cs S i wk k : Nat) : Int) ∧ ccN D cs S i wk k ≤ 57024 := by
  have h := coA_b (cs := cs) (dead := S.1.2.2.1) (w := S.1.1 + k) (age := agP S i wk k) hD hi
  unfold ccN
  omega
theorem hn_b {D : dD} {cs : tC} {S : aS} {i wk : Nat} (hD : dOk D) (hi : i < D.1) : ∀ k, hnN D cs S i wk k + 57024 * (64 - (D.2.1 i 1).toNat) ^ k ≤ 57024 * 64 ^ k := by
  have b1 := (hD.2.2.1 i hi).2.1
  intro k
  induction k with
  | zero => exact Nat.le_of_eq (by show 0 + 57024 * 1 = 57024 * 1; rfl)
  | succ k ih =>
    have hc := (cc_b (cs := cs) (S := S) (wk := wk) (k := k) hD hi).2
    have ht : tcN D cs S i wk k ≤ (64 - (D.2.1 i 1).toNat) ^ k * (D.2.1 i 1).toNat * 57024 := Nat.mul_le_mul_left _ hc
    have hx : (64 - (D.2.1 i 1).toNat) ^ k * (D.2.1 i 1).toNat + (64 - (D.2.1 i 1).toNat) ^ k * (64 - (D.2.1 i 1).toNat) = (64 - (D.2.1 i 1).toNat) ^ k * 64 := by
      rw [← Nat.mul_add, show (D.2.1 i 1).toNat + (64 - (D.2.1 i 1).toNat) = 64 by omega]
    have e1 : (64 - (D.2.1 i 1).toNat) ^ (k + 1) = (64 - (D.2.1 i 1).toNat) ^ k * (64 - (D.2.1 i 1).toNat) := Nat.pow_succ _ _
    have e2 : (64 : Nat) ^ (k + 1) = 64 ^ k * 64 := Nat.pow_succ _ _
    show hnN D cs S i wk k * 64 + tcN D cs S i wk k + 57024 * (64 - (D.2.1 i 1).toNat) ^ (k + 1) ≤ 57024 * 64 ^ (k + 1)
    rw [e1, e2]
    omega
theorem p64_7 {k : Nat} (h : k ≤ 7) : (64 : Nat) ^ k ≤ 4398046511104 := by
  have h1 : (64 : Nat) ^ k ≤ 64 ^ 7 := Nat.pow_le_pow_right (by decide) h
  have h2 : (64 : Nat) ^ 7 = 4398046511104 := by decide
  omega
theorem pe_7 {d k : Nat} (h : k ≤ 7) : (64 - d) ^ k ≤ 4398046511104 := Nat.le_trans (Nat.pow_le_pow_left (Nat.sub_le 64 d) k) (p64_7 h)
theorem jb_n {x y : Int64} {a b : Nat} (hx : x.toInt = (a : Int)) (hy : y.toInt = (b : Int)) (h : a * b ≤ 4000000000000000000) : (x * y).toInt = ((a * b : Nat) : Int) := by
  rw [Int64.toInt_mul, hx, hy, ← Int.natCast_mul]
  exact Int.bmod_eq_of_le (by omega) (by omega)
theorem ja_n {x y : Int64} {a b : Nat} (hx : x.toInt = (a : Int)) (hy : y.toInt = (b : Int)) (h : a + b ≤ 4000000000000000000) : (x + y).toInt = ((a + b : Nat) : Int) := by
  rw [Int64.toInt_add, hx, hy]
  exact (Int.bmod_eq_of_le (by omega) (by omega)).trans (by omega)
set_option maxRecDepth 20000 in
theorem xla_loop {Q : fmR → fmM → Prop} {M0 : fmM} {D : dD} {cs : tC} {S : aS} {i n wk : Nat} {dd : Int64} (hi : i < D.1) (hn7n : n ≤ 7) (hwk : wk < 256) (hdd : dd.toInt = (((D.2.1 i 1).toNat : Nat) : Int)) : ∀ (m : Nat) (k : Nat) (M : fmM) (st lo : Int64) (ag : Int32), xAq M D cs S → k ≤ n → n - k = m → st.toInt = (((64 - (D.2.1 i 1).toNat) ^ k : Nat) : Int) → lo.toInt = ((hnN D cs S i wk k : Nat) : Int) → ag.toInt = agW S i wk k → (∀ k j, k ≠ 26 → M.1 k j = M0.1 k j) → M.2 = M0.2 → (∀ (M' : fmM) (r : Int64), (∀ k j, k ≠ 26 → M'.1 k j = M0.1 k j) → M'.2 = M0.2 → xAq M' D cs S → r.toInt = ((hnN D cs S i wk n : Nat) : Int) → Q (.inl (some (.long r))) M') → pvEv Tx 20 qX0_lossAhead 29 [some (.ref 32), some (.ref 47), some (.int (nI i)), some (.int (nI n)), some (.int (nI wk)), some (.long dd), none, some (.long st), none, some (.long lo), none, some (.int ag), some (.int (nI k))] [] M Q := by
  intro m
  induction m using Nat.strongRecOn with
  | _ m ih =>
    intro k M st lo ag h hkn hm hst hlo hag f1 f2 hq
    have h9q := h
    obtain ⟨hD, hX, hL, hs, ho⟩ := h9q
    have d8 := hD.1
    have b1 := (hD.2.2.1 i hi).2.1
    have hi9 : (nI i).toInt = (i : Int) := nI_toInt (by omega)
    have hk9 : (nI k).toInt = (k : Int) := nI_toInt (by omega)
    have hn9 : (nI n).toInt = (n : Int) := nI_toInt (by omega)
    refine pv_iload (pc := 29) (i := 12) rfl (fm_dec dtX0_lossAhead 18 rfl) ?_
    refine pv_iloadn (pc := 31) (n := 3) 3 rfl rfl (fm_dec dtX0_lossAhead 19 rfl) ?_
    refine pv_icmp_ge (pc := 32) 106 (by decide) (fm_dec dtX0_lossAhead 20 rfl) (fun hc32 => ?_) (fun hc32 => ?_)
    · refine pv_lload (pc := 106) (i := 9) rfl (fm_dec dtX0_lossAhead 61 rfl) ?_
      exact pv_lreturn (pc := 108) rfl (fm_dec dtX0_lossAhead 62 rfl) (by have e9 : k = n := (by rw [sc_le] at hc32; omega); subst e9; exact hq _ _ f1 f2 h hlo)
    · have hn7 : k < n := (by rw [sc_le] at hc32; omega)
      have cb := cc_b (cs := cs) (S := S) (wk := wk) (k := k) h.1 hi
      have hb := hn_b (cs := cs) (S := S) (wk := wk) h.1 hi k
      have hb2 := hn_b (cs := cs) (S := S) (wk := wk) h.1 hi (k + 1)
      have p7 := p64_7 (k := k) (by omega)
      have p8 := p64_7 (k := k + 1) (by omega)
      have q7 := pe_7 (d := (D.2.1 i 1).toNat) (k := k) (by omega)
      have pb := agP_b (wk := wk) (k := k) ho hi
      have wb := agW_b (wk := wk) ho hi k
      have w2 := ho.1
      have ehn : hnN D cs S i wk (k + 1) = hnN D cs S i wk k * 64 + tcN D cs S i wk k := rfl
      have t1 : (64 - (D.2.1 i 1).toNat) ^ k * (D.2.1 i 1).toNat ≤ 4398046511104 * 64 := Nat.mul_le_mul q7 (by omega)
      refine pv_iload (pc := 35) (i := 4) rfl (fm_dec dtX0_lossAhead 21 rfl) ?_
      refine pv_iload (pc := 37) (i := 12) rfl (fm_dec dtX0_lossAhead 22 rfl) ?_
      refine pv_ishr (pc := 39) (fm_dec dtX0_lossAhead 23 rfl) ?_
      refine pv_iconst (pc := 40) (v := 1) (by decide) (fm_dec dtX0_lossAhead 24 rfl) ?_
      refine pv_iand (pc := 41) (fm_dec dtX0_lossAhead 25 rfl) ?_
      refine pv_if_eq (pc := 42) 48 (by decide) (fm_dec dtX0_lossAhead 26 rfl) (fun hc42 => ?_) (fun hc42 => ?_)
      · have hbit : wk.testBit k = false := (has8z wk hwk k (by omega)).mp hc42
        have hagP : ag.toInt = agP S i wk k := (by unfold agP; rw [if_neg (by rw [hbit]; decide)]; exact hag)
        refine pv_lload (pc := 48) (i := 9) rfl (fm_dec dtX0_lossAhead 29 rfl) ?_
        refine pv_ldc2 (pc := 50) pkc_X0_63 (fm_dec dtX0_lossAhead 30 rfl) ?_
        refine pv_lmul (pc := 53) (fm_dec dtX0_lossAhead 31 rfl) ?_
        refine pv_lload (pc := 54) (i := 7) rfl (fm_dec dtX0_lossAhead 32 rfl) ?_
        refine pv_lload (pc := 56) (i := 5) rfl (fm_dec dtX0_lossAhead 33 rfl) ?_
        refine pv_lmul (pc := 58) (fm_dec dtX0_lossAhead 34 rfl) ?_
        refine pv_aloadn (pc := 59) (n := 0) 0 rfl rfl (fm_dec dtX0_lossAhead 35 rfl) ?_
        refine pv_aloadn (pc := 60) (n := 1) 1 rfl rfl (fm_dec dtX0_lossAhead 36 rfl) ?_
        refine pv_iloadn (pc := 61) (n := 2) 2 rfl rfl (fm_dec dtX0_lossAhead 37 rfl) ?_
        refine pv_iload (pc := 62) (i := 12) rfl (fm_dec dtX0_lossAhead 38 rfl) ?_
        refine pv_iload (pc := 64) (i := 11) rfl (fm_dec dtX0_lossAhead 39 rfl) ?_
        refine pv_invV4 (k := 32) (d' := 3) (pc := 66) pcv_X0_84 (by decide) rfl (Nat.le_of_ble_eq_true rfl) (by decide) (fm_dec dtX0_lossAhead 40 rfl) ?_
        refine c_xcostG (w := S.1.1 + k) (ag := agP S i wk k) hD hX hL hs ho hi (by rw [sc_add (by have := hs.2.1; omega) (by have := hs.2.1; omega), hs.2.1, hk9]; omega) (by omega) hagP (by omega) (fun M66 r66 g66 h66 e66 => ?_)
        refine pv_then1 ?_
        refine pv_lmul (pc := 69) (fm_dec dtX0_lossAhead 41 rfl) ?_
        refine pv_ladd (pc := 70) (fm_dec dtX0_lossAhead 42 rfl) ?_
        refine pv_lstore (pc := 71) (i := 9) (by decide) rfl (fm_dec dtX0_lossAhead 43 rfl) ?_
        dsimp only [List.set_cons_zero, List.set_cons_succ]
        refine pv_lload (pc := 73) (i := 7) rfl (fm_dec dtX0_lossAhead 44 rfl) ?_
        refine pv_ldc2 (pc := 75) pkc_X0_63 (fm_dec dtX0_lossAhead 45 rfl) ?_
        refine pv_lload (pc := 78) (i := 5) rfl (fm_dec dtX0_lossAhead 46 rfl) ?_
        refine pv_lsub (pc := 80) (fm_dec dtX0_lossAhead 47 rfl) ?_
        refine pv_lmul (pc := 81) (fm_dec dtX0_lossAhead 48 rfl) ?_
        refine pv_lstore (pc := 82) (i := 7) (by decide) rfl (fm_dec dtX0_lossAhead 49 rfl) ?_
        dsimp only [List.set_cons_zero, List.set_cons_succ]
        refine pv_iload (pc := 84) (i := 11) rfl (fm_dec dtX0_lossAhead 50 rfl) ?_
        refine pv_iconst (pc := 86) (v := (-1)) (by decide) (fm_dec dtX0_lossAhead 51 rfl) ?_
        refine pv_icmp_ne (pc := 87) 94 (by decide) (fm_dec dtX0_lossAhead 52 rfl) (fun hc87 => ?_) (fun hc87 => ?_)
        · have hne9 : ¬ agP S i wk k = -1 := (fun e => hc87 (i32_ext (hagP.trans (by rw [e]; decide))))
          refine pv_iload (pc := 94) (i := 11) rfl (fm_dec dtX0_lossAhead 55 rfl) ?_
          refine pv_iconst (pc := 96) (v := 1) (by decide) (fm_dec dtX0_lossAhead 56 rfl) ?_
          refine pv_iadd (pc := 97) (fm_dec dtX0_lossAhead 57 rfl) ?_
          refine pv_istore (pc := 98) (i := 11) (by decide) rfl (fm_dec dtX0_lossAhead 58 rfl) ?_
          dsimp only [List.set_cons_zero, List.set_cons_succ]
          refine pv_iincc (pc := 100) 12 1 (by decide) rfl (by decide) rfl (fm_dec dtX0_lossAhead 59 rfl) ?_
          dsimp only [List.set_cons_zero, List.set_cons_succ]
          refine pv_goto (pc := 103) 29 (by decide) (fm_dec dtX0_lossAhead 60 rfl) ?_
          have s1 := jb_n hst hdd (by omega)
          have s2 := jb_n s1 (show r66.toInt = ((ccN D cs S i wk k : Nat) : Int) by rw [e66]; exact cb.1) (by show tcN D cs S i wk k ≤ _; omega)
          have s3 := jb_n (b := 64) (y := 64) hlo (by decide) (by omega)
          have s4 := ja_n s3 s2 (by show hnN D cs S i wk k * 64 + tcN D cs S i wk k ≤ _; omega)
          have s5 : ((64 : Int64) - dd).toInt = (((64 - (D.2.1 i 1).toNat) : Nat) : Int) := (by have z : (64 : Int64).toInt = 64 := (by decide); rw [Int64.toInt_sub, z, hdd]; exact (Int.bmod_eq_of_le (by omega) (by omega)).trans (by omega))
          have q8 := pe_7 (d := (D.2.1 i 1).toNat) (k := k + 1) (by omega)
          have e2 : (64 - (D.2.1 i 1).toNat) ^ (k + 1) = (64 - (D.2.1 i 1).toNat) ^ k * (64 - (D.2.1 i 1).toNat) := Nat.pow_succ _ _
          have s6 := jb_n hst s5 (by rw [← e2]; omega)
          rw [← e2] at s6
          rw [nI_succ1]
          exact ih (n - (k + 1)) (by omega) (k + 1) M66 _ _ _ (h.low g66 h66) (by omega) rfl s6 s4 (by rw [agW_s]; rw [if_neg hne9, sc_add (by have z1 : (1 : Int32).toInt = 1 := (by decide); omega) (by have z1 : (1 : Int32).toInt = 1 := (by decide); omega), hagP]; rfl) (fun kk j a => (g66 kk j a).trans (f1 kk j a)) (h66.trans f2) hq
        · have hm9 : agP S i wk k = -1 := (by rw [← hagP, hc87]; decide)
          refine pv_iconst (pc := 90) (v := (-1)) (by decide) (fm_dec dtX0_lossAhead 53 rfl) ?_
          refine pv_goto (pc := 91) 98 (by decide) (fm_dec dtX0_lossAhead 54 rfl) ?_
          refine pv_istore (pc := 98) (i := 11) (by decide) rfl (fm_dec dtX0_lossAhead 58 rfl) ?_
          dsimp only [List.set_cons_zero, List.set_cons_succ]
          refine pv_iincc (pc := 100) 12 1 (by decide) rfl (by decide) rfl (fm_dec dtX0_lossAhead 59 rfl) ?_
          dsimp only [List.set_cons_zero, List.set_cons_succ]
          refine pv_goto (pc := 103) 29 (by decide) (fm_dec dtX0_lossAhead 60 rfl) ?_
          have s1 := jb_n hst hdd (by omega)
          have s2 := jb_n s1 (show r66.toInt = ((ccN D cs S i wk k : Nat) : Int) by rw [e66]; exact cb.1) (by show tcN D cs S i wk k ≤ _; omega)
          have s3 := jb_n (b := 64) (y := 64) hlo (by decide) (by omega)
          have s4 := ja_n s3 s2 (by show hnN D cs S i wk k * 64 + tcN D cs S i wk k ≤ _; omega)
          have s5 : ((64 : Int64) - dd).toInt = (((64 - (D.2.1 i 1).toNat) : Nat) : Int) := (by have z : (64 : Int64).toInt = 64 := (by decide); rw [Int64.toInt_sub, z, hdd]; exact (Int.bmod_eq_of_le (by omega) (by omega)).trans (by omega))
          have q8 := pe_7 (d := (D.2.1 i 1).toNat) (k := k + 1) (by omega)
          have e2 : (64 - (D.2.1 i 1).toNat) ^ (k + 1) = (64 - (D.2.1 i 1).toNat) ^ k * (64 - (D.2.1 i 1).toNat) := Nat.pow_succ _ _
          have s6 := jb_n hst s5 (by rw [← e2]; omega)
          rw [← e2] at s6
          rw [nI_succ1]
          exact ih (n - (k + 1)) (by omega) (k + 1) M66 _ _ _ (h.low g66 h66) (by omega) rfl s6 s4 (by rw [agW_s]; rw [if_pos hm9]; decide) (fun kk j a => (g66 kk j a).trans (f1 kk j a)) (h66.trans f2) hq
      · refine pv_iconst (pc := 45) (v := 0) (by decide) (fm_dec dtX0_lossAhead 27 rfl) ?_
        refine pv_istore (pc := 46) (i := 11) (by decide) rfl (fm_dec dtX0_lossAhead 28 rfl) ?_
        dsimp only [List.set_cons_zero, List.set_cons_succ]
        have hbit : wk.testBit k = true := (by cases h9 : wk.testBit k with | true => rfl | false => exact absurd ((has8z wk hwk k (by omega)).mpr h9) hc42)
        have hagP : (0 : Int32).toInt = agP S i wk k := (by unfold agP; rw [if_pos hbit]; decide)
        refine pv_lload (pc := 48) (i := 9) rfl (fm_dec dtX0_lossAhead 29 rfl) ?_
        refine pv_ldc2 (pc := 50) pkc_X0_63 (fm_dec dtX0_lossAhead 30 rfl) ?_
        refine pv_lmul (pc := 53) (fm_dec dtX0_lossAhead 31 rfl) ?_
        refine pv_lload (pc := 54) (i := 7) rfl (fm_dec dtX0_lossAhead 32 rfl) ?_
        refine pv_lload (pc := 56) (i := 5) rfl (fm_dec dtX0_lossAhead 33 rfl) ?_
        refine pv_lmul (pc := 58) (fm_dec dtX0_lossAhead 34 rfl) ?_
        refine pv_aloadn (pc := 59) (n := 0) 0 rfl rfl (fm_dec dtX0_lossAhead 35 rfl) ?_
        refine pv_aloadn (pc := 60) (n := 1) 1 rfl rfl (fm_dec dtX0_lossAhead 36 rfl) ?_
        refine pv_iloadn (pc := 61) (n := 2) 2 rfl rfl (fm_dec dtX0_lossAhead 37 rfl) ?_
        refine pv_iload (pc := 62) (i := 12) rfl (fm_dec dtX0_lossAhead 38 rfl) ?_
        refine pv_iload (pc := 64) (i := 11) rfl (fm_dec dtX0_lossAhead 39 rfl) ?_
        refine pv_invV4 (k := 32) (d' := 3) (pc := 66) pcv_X0_84 (by decide) rfl (Nat.le_of_ble_eq_true rfl) (by decide) (fm_dec dtX0_lossAhead 40 rfl) ?_
        refine c_xcostG (w := S.1.1 + k) (ag := agP S i wk k) hD hX hL hs ho hi (by rw [sc_add (by have := hs.2.1; omega) (by have := hs.2.1; omega), hs.2.1, hk9]; omega) (by omega) hagP (by omega) (fun M66 r66 g66 h66 e66 => ?_)
        refine pv_then1 ?_
        refine pv_lmul (pc := 69) (fm_dec dtX0_lossAhead 41 rfl) ?_
        refine pv_ladd (pc := 70) (fm_dec dtX0_lossAhead 42 rfl) ?_
        refine pv_lstore (pc := 71) (i := 9) (by decide) rfl (fm_dec dtX0_lossAhead 43 rfl) ?_
        dsimp only [List.set_cons_zero, List.set_cons_succ]
        refine pv_lload (pc := 73) (i := 7) rfl (fm_dec dtX0_lossAhead 44 rfl) ?_
        refine pv_ldc2 (pc := 75) pkc_X0_63 (fm_dec dtX0_lossAhead 45 rfl) ?_
        refine pv_lload (pc := 78) (i := 5) rfl (fm_dec dtX0_lossAhead 46 rfl) ?_
        refine pv_lsub (pc := 80) (fm_dec dtX0_lossAhead 47 rfl) ?_
        refine pv_lmul (pc := 81) (fm_dec dtX0_lossAhead 48 rfl) ?_
        refine pv_lstore (pc := 82) (i := 7) (by decide) rfl (fm_dec dtX0_lossAhead 49 rfl) ?_
        dsimp only [List.set_cons_zero, List.set_cons_succ]
        refine pv_iload (pc := 84) (i := 11) rfl (fm_dec dtX0_lossAhead 50 rfl) ?_
        refine pv_iconst (pc := 86) (v := (-1)) (by decide) (fm_dec dtX0_lossAhead 51 rfl) ?_
        refine pv_icmp_ne (pc := 87) 94 (by decide) (fm_dec dtX0_lossAhead 52 rfl) (fun _ => ?_) (fun hc87 => by exfalso; revert hc87; decide)
        have hne9 : ¬ agP S i wk k = -1 := (by rw [← hagP]; decide)
        refine pv_iload (pc := 94) (i := 11) rfl (fm_dec dtX0_lossAhead 55 rfl) ?_
        refine pv_iconst (pc := 96) (v := 1) (by decide) (fm_dec dtX0_lossAhead 56 rfl) ?_
        refine pv_iadd (pc := 97) (fm_dec dtX0_lossAhead 57 rfl) ?_
        refine pv_istore (pc := 98) (i := 11) (by decide) rfl (fm_dec dtX0_lossAhead 58 rfl) ?_
        dsimp only [List.set_cons_zero, List.set_cons_succ]
        refine pv_iincc (pc := 100) 12 1 (by decide) rfl (by decide) rfl (fm_dec dtX0_lossAhead 59 rfl) ?_
        dsimp only [List.set_cons_zero, List.set_cons_succ]
        refine pv_goto (pc := 103) 29 (by decide) (fm_dec dtX0_lossAhead 60 rfl) ?_
        have s1 := jb_n hst hdd (by omega)
        have s2 := jb_n s1 (show r66.toInt = ((ccN D cs S i wk k : Nat) : Int) by rw [e66]; exact cb.1) (by show tcN D cs S i wk k ≤ _; omega)
        have s3 := jb_n (b := 64) (y := 64) hlo (by decide) (by omega)
        have s4 := ja_n s3 s2 (by show hnN D cs S i wk k * 64 + tcN D cs S i wk k ≤ _; omega)
        have s5 : ((64 : Int64) - dd).toInt = (((64 - (D.2.1 i 1).toNat) : Nat) : Int) := (by have z : (64 : Int64).toInt = 64 := (by decide); rw [Int64.toInt_sub, z, hdd]; exact (Int.bmod_eq_of_le (by omega) (by omega)).trans (by omega))
        have q8 := pe_7 (d := (D.2.1 i 1).toNat) (k := k + 1) (by omega)
        have e2 : (64 - (D.2.1 i 1).toNat) ^ (k + 1) = (64 - (D.2.1 i 1).toNat) ^ k * (64 - (D.2.1 i 1).toNat) := Nat.pow_succ _ _
        have s6 := jb_n hst s5 (by rw [← e2]; omega)
        rw [← e2] at s6
        rw [nI_succ1]
        exact ih (n - (k + 1)) (by omega) (k + 1) M66 _ _ _ (h.low g66 h66) (by omega) rfl s6 s4 (by rw [agW_s]; rw [if_neg hne9, ← hagP]; decide) (fun kk j a => (g66 kk j a).trans (f1 kk j a)) (h66.trans f2) hq
set_option maxRecDepth 20000 in
theorem c_xla {M : fmM} {Q : fmR → fmM → Prop} {D : dD} {cs : tC} {S : aS} {i n wk : Nat} (h : xAq M D cs S) (hi : i < D.1) (hn7n : n ≤ 7) (hwk : wk < 256) (hq : ∀ (M' : fmM) (r : Int64), (∀ k j, k ≠ 26 → M'.1 k j = M.1 k j) → M'.2 = M.2 → xAq M' D cs S → r.toInt = ((hnN D cs S i wk n : Nat) : Int) → Q (.inl (some (.long r))) M') : pvGood Tx 21 qX0_lossAhead [.ref 32, .ref 47, .int (nI i), .int (nI n), .int (nI wk)] M Q := by
  refine pvGood_of (Nat.le_of_ble_eq_true rfl) ?_
  show pvEv Tx 21 qX0_lossAhead 0 [some (.ref 32), some (.ref 47), some (.int (nI i)), some (.int (nI n)), some (.int (nI wk)), none, none, none, none, none, none, none, none] [] M Q
  have h9q := h
  obtain ⟨hD, hX, hL, hs, ho⟩ := h9q
  have d8 := hD.1
  have b1 := (hD.2.2.1 i hi).2.1
  have hi9 : (nI i).toInt = (i : Int) := nI_toInt (by omega)
  have g := ag_x hs hi
  have g5 : (M.1 5 i).toInt = D.2.1 i 1 := hX.2.1 i hi 1 (by decide)
  refine pv_aloadn (pc := 0) (n := 0) 0 rfl rfl (fm_dec dtX0_lossAhead 0 rfl) ?_
  refine pv_getR (k := 32) (j := 0) (ci := 0) (pc := 1) 3 rfl (by decide) pfl_X0_15 (by decide) rfl (by decide) (fm_dec dtX0_lossAhead 1 rfl) ?_
  refine pv_getR (k := 3) (j := 1) (ci := 8) (pc := 4) 5 rfl (by decide) pfl_X0_81 (by decide) rfl (by decide) (fm_dec dtX0_lossAhead 2 rfl) ?_
  refine pv_iloadn (pc := 7) (n := 2) 2 rfl rfl (fm_dec dtX0_lossAhead 3 rfl) ?_
  refine pv_iald (k := 5) (n := 8) (pc := 8) (by decide) rfl rfl (ix_in hi9 (by omega)) (fm_dec dtX0_lossAhead 4 rfl) ?_
  rw [i32_cl hi9]
  refine pv_i2l (pc := 9) (fm_dec dtX0_lossAhead 5 rfl) ?_
  refine pv_lstore (pc := 10) (i := 5) (by decide) rfl (fm_dec dtX0_lossAhead 6 rfl) ?_
  dsimp only [List.set_cons_zero, List.set_cons_succ]
  refine pv_lconst (pc := 12) (v := 1) (by decide) (fm_dec dtX0_lossAhead 7 rfl) ?_
  refine pv_lstore (pc := 13) (i := 7) (by decide) rfl (fm_dec dtX0_lossAhead 8 rfl) ?_
  dsimp only [List.set_cons_zero, List.set_cons_succ]
  refine pv_lconst (pc := 15) (v := 0) (by decide) (fm_dec dtX0_lossAhead 9 rfl) ?_
  refine pv_lstore (pc := 16) (i := 9) (by decide) rfl (fm_dec dtX0_lossAhead 10 rfl) ?_
  dsimp only [List.set_cons_zero, List.set_cons_succ]
  refine pv_aloadn (pc := 18) (n := 1) 1 rfl rfl (fm_dec dtX0_lossAhead 11 rfl) ?_
  refine pv_getR (k := 47) (j := 0) (ci := 6) (pc := 19) 48 rfl (by decide) pfl_X0_78 (by decide) rfl (by decide) (fm_dec dtX0_lossAhead 12 rfl) ?_
  refine pv_iloadn (pc := 22) (n := 2) 2 rfl rfl (fm_dec dtX0_lossAhead 13 rfl) ?_
  refine pv_iald (k := 48) (n := 8) (pc := 23) (by decide) rfl rfl (ix_in hi9 (by omega)) (fm_dec dtX0_lossAhead 14 rfl) ?_
  rw [i32_cl hi9]
  refine pv_istore (pc := 24) (i := 11) (by decide) rfl (fm_dec dtX0_lossAhead 15 rfl) ?_
  dsimp only [List.set_cons_zero, List.set_cons_succ]
  refine pv_iconst (pc := 26) (v := 0) (by decide) (fm_dec dtX0_lossAhead 16 rfl) ?_
  refine pv_istore (pc := 27) (i := 12) (by decide) rfl (fm_dec dtX0_lossAhead 17 rfl) ?_
  dsimp only [List.set_cons_zero, List.set_cons_succ]
  exact (xla_loop hi hn7n hwk (by rw [Int32.toInt_toInt64, g5]; omega) n 0 M _ _ _ h (Nat.zero_le _) rfl (by show (1 : Int64).toInt = ((1 : Nat) : Int); decide) (by show (0 : Int64).toInt = ((0 : Nat) : Int); decide) g (fun _ _ _ => rfl) rfl hq).up (by decide)
-- THE BEST WEEKS, as they should be
/-- hours that way wk takes in week k (bits: the weeks in which he is put); 99: he can't be put then -/
def ndS (D : dD) (S : aS) (i wk k : Nat) : Nat := if wk.testBit k = true then (if agW S i wk k = 0 then 99 else if agW S i wk k = -1 then (D.2.1 i 3).toNat else max 1 ((D.2.1 i 3).toNat / (D.2.2.2.2 5).toNat)) else 0
/-- who is put, as a key: week by week, of the first k -/
def kyN (i wk : Nat) : Nat → Nat
  | 0 => 0
  | k + 1 => kyN i wk k + if wk.testBit k = true then 2 ^ (8 * (2 - k) + i) else 0
def vwS (D : dD) (cs : tC) (S : aS) (n i wk : Nat) : Nat := hnN D cs S i wk n * 16777216 + kyN i wk 3
/-- the least of f and a way, of ways 0 to w, for hours a, b, c -/
def bmS (f : Nat → Nat → Nat → Nat) (nd : Nat → Nat → Nat) (v : Nat → Nat) (a b c : Nat) : Nat → Nat
  | 0 => f a b c + v 0
  | w + 1 => if nd (w + 1) 0 ≤ a ∧ nd (w + 1) 1 ≤ b ∧ nd (w + 1) 2 ≤ c then min (bmS f nd v a b c w) (f (a - nd (w + 1) 0) (b - nd (w + 1) 1) (c - nd (w + 1) 2) + v (w + 1)) else bmS f nd v a b c w
def bfS (D : dD) (cs : tC) (S : aS) (n : Nat) : Nat → Nat → Nat → Nat → Nat
  | 0 => fun _ _ _ => 0
  | l + 1 => if S.1.2.2.1.testBit l = true ∨ D.2.1 l 1 = 0 then bfS D cs S n l else fun a b c => bmS (bfS D cs S n l) (ndS D S l) (vwS D cs S n l) a b c (2 ^ n - 1)
def plV (D : dD) (cs : tC) (S : aS) (n : Nat) : Nat := bfS D cs S n D.1 S.1.2.1 (if 1 < n then (D.2.2.2.2 2).toNat else 0) (if 2 < n then (D.2.2.2.2 2).toNat else 0)
theorem bf_t {D : dD} {cs : tC} {S : aS} {n l : Nat} (h : S.1.2.2.1.testBit l = true ∨ D.2.1 l 1 = 0) : bfS D cs S n (l + 1) = bfS D cs S n l := if_pos h
theorem bf_f {D : dD} {cs : tC} {S : aS} {n l : Nat} (h : ¬ (S.1.2.2.1.testBit l = true ∨ D.2.1 l 1 = 0)) : bfS D cs S n (l + 1) = fun a b c => bmS (bfS D cs S n l) (ndS D S l) (vwS D cs S n l) a b c (2 ^ n - 1) := if_neg h
theorem bm_t {f : Nat → Nat → Nat → Nat} {nd : Nat → Nat → Nat} {v : Nat → Nat} {a b c w : Nat} (h : nd (w + 1) 0 ≤ a ∧ nd (w + 1) 1 ≤ b ∧ nd (w + 1) 2 ≤ c) : bmS f nd v a b c (w + 1) = min (bmS f nd v a b c w) (f (a - nd (w + 1) 0) (b - nd (w + 1) 1) (c - nd (w + 1) 2) + v (w + 1)) := if_pos h
theorem bm_f {f : Nat → Nat → Nat → Nat} {nd : Nat → Nat → Nat} {v : Nat → Nat} {a b c w : Nat} (h : ¬ (nd (w + 1) 0 ≤ a ∧ nd (w + 1) 1 ≤ b ∧ nd (w + 1) 2 ≤ c)) : bmS f nd v a b c (w + 1) = bmS f nd v a b c w := if_neg h
theorem bm_le {f : Nat → Nat → Nat → Nat} {nd : Nat → Nat → Nat} {v : Nat → Nat} {a b c : Nat} : ∀ w, bmS f nd v a b c w ≤ f a b c + v 0 := by
  intro w
  induction w with
  | zero => exact Nat.le_refl _
  | succ w ih =>
    by_cases h : nd (w + 1) 0 ≤ a ∧ nd (w + 1) 1 ≤ b ∧ nd (w + 1) 2 ≤ c
    · rw [bm_t h]
      omega
    · rw [bm_f h]
      exact ih
theorem bm_P {f : Nat → Nat → Nat → Nat} {nd : Nat → Nat → Nat} {v : Nat → Nat} {a b c : Nat} (P : Nat → Prop) : ∀ w, (∀ w', w' ≤ w → ∀ x y z, P (f x y z + v w')) → P (bmS f nd v a b c w) := by
  intro w
  induction w with
  | zero => intro h; exact h 0 (Nat.le_refl _) a b c
  | succ w ih =>
    intro h
    have h1 := ih (fun w' hw' => h w' (by omega))
    by_cases e : nd (w + 1) 0 ≤ a ∧ nd (w + 1) 1 ≤ b ∧ nd (w + 1) 2 ≤ c
    · rw [bm_t e]
      have h2 := h (w + 1) (Nat.le_refl _) (a - nd (w + 1) 0) (b - nd (w + 1) 1) (c - nd (w + 1) 2)
      rcases Nat.le_total (bmS f nd v a b c w) (f (a - nd (w + 1) 0) (b - nd (w + 1) 1) (c - nd (w + 1) 2) + v (w + 1)) with e9 | e9
      · rw [Nat.min_eq_left e9]
        exact h1
      · rw [Nat.min_eq_right e9]
        exact h2
    · rw [bm_f e]
      exact h1
theorem bm_m {f : Nat → Nat → Nat → Nat} {nd : Nat → Nat → Nat} {v : Nat → Nat} (hf : ∀ a b c a' b' c', a ≤ a' → b ≤ b' → c ≤ c' → f a' b' c' ≤ f a b c) {a b c a' b' c' : Nat} (ha : a ≤ a') (hb : b ≤ b') (hc : c ≤ c') : ∀ w, bmS f nd v a' b' c' w ≤ bmS f nd v a b c w := by
  intro w
  induction w with
  | zero =>
    have h := hf a b c a' b' c' ha hb hc
    show f a' b' c' + v 0 ≤ f a b c + v 0
    omega
  | succ w ih =>
    by_cases e : nd (w + 1) 0 ≤ a ∧ nd (w + 1) 1 ≤ b ∧ nd (w + 1) 2 ≤ c
    · have e' : nd (w + 1) 0 ≤ a' ∧ nd (w + 1) 1 ≤ b' ∧ nd (w + 1) 2 ≤ c' := by omega
      rw [bm_t e, bm_t e']
      have h := hf (a - nd (w + 1) 0) (b - nd (w + 1) 1) (c - nd (w + 1) 2) (a' - nd (w + 1) 0) (b' - nd (w + 1) 1) (c' - nd (w + 1) 2) (by omega) (by omega) (by omega)
      omega
    · rw [bm_f e]
      by_cases e' : nd (w + 1) 0 ≤ a' ∧ nd (w + 1) 1 ≤ b' ∧ nd (w + 1) 2 ≤ c'
      · rw [bm_t e']
        omega
      · rw [bm_f e']
        exact ih
theorem bf_m {D : dD} {cs : tC} {S : aS} {n : Nat} : ∀ (l a b c a' b' c' : Nat), a ≤ a' → b ≤ b' → c ≤ c' → bfS D cs S n l a' b' c' ≤ bfS D cs S n l a b c := by
  intro l
  induction l with
  | zero => intro a b c a' b' c' _ _ _; exact Nat.le_refl _
  | succ l ih =>
    intro a b c a' b' c' ha hb hc
    by_cases e : S.1.2.2.1.testBit l = true ∨ D.2.1 l 1 = 0
    · rw [bf_t e]
      exact ih a b c a' b' c' ha hb hc
    · rw [bf_f e]
      exact bm_m ih ha hb hc _
/-- nothing is put for one who can't die -/
theorem bm_0 {f : Nat → Nat → Nat → Nat} {nd : Nat → Nat → Nat} {v : Nat → Nat} (hf : ∀ a b c a' b' c', a ≤ a' → b ≤ b' → c ≤ c' → f a' b' c' ≤ f a b c) (hv : v 0 = 0) {a b c : Nat} : ∀ w, bmS f nd v a b c w = f a b c := by
  intro w
  induction w with
  | zero => show f a b c + v 0 = f a b c; omega
  | succ w ih =>
    by_cases e : nd (w + 1) 0 ≤ a ∧ nd (w + 1) 1 ≤ b ∧ nd (w + 1) 2 ≤ c
    · rw [bm_t e, ih]
      have h := hf (a - nd (w + 1) 0) (b - nd (w + 1) 1) (c - nd (w + 1) 2) a b c (Nat.sub_le _ _) (Nat.sub_le _ _) (Nat.sub_le _ _)
      omega
    · rw [bm_f e]
      exact ih
/-- what can't be put counts for nothing -/
theorem bm_no {f : Nat → Nat → Nat → Nat} {nd : Nat → Nat → Nat} {v : Nat → Nat} {a b c w : Nat} (ha : a ≤ 12) (hb : b ≤ 12) (hc : c ≤ 12) (h : ∃ k, k < 3 ∧ 12 < nd (w + 1) k) : bmS f nd v a b c (w + 1) = bmS f nd v a b c w := by
  obtain ⟨k, hk, h⟩ := h
  refine bm_f (fun h9 => ?_)
  rcases (show k = 0 ∨ k = 1 ∨ k = 2 by omega) with rfl | rfl | rfl <;> omega
theorem nd_b {D : dD} {S : aS} {i wk k : Nat} (hD : dOk D) (hi : i < D.1) : ndS D S i wk k ≤ 99 ∧ (ndS D S i wk k = 99 ∨ ndS D S i wk k ≤ 9) := by
  have b3 := (hD.2.2.1 i hi).2.2.2.1
  have h1 : (D.2.1 i 3).toNat / (D.2.2.2.2 5).toNat ≤ (D.2.1 i 3).toNat := Nat.div_le_self _ _
  unfold ndS
  split
  · split
    · omega
    · split <;> omega
  · omega
theorem nd_z {D : dD} {S : aS} {i wk k n : Nat} (hw : wk < 2 ^ n) (hk : n ≤ k) : ndS D S i wk k = 0 := if_neg (by
  rw [Nat.testBit_lt_two_pow (Nat.lt_of_lt_of_le hw (Nat.pow_le_pow_right (by decide) hk))]
  decide)
theorem ky_b : ∀ i, i < 8 → ∀ wk, wk < 8 → kyN i wk 3 ≤ 65793 * 2 ^ i := by decide +kernel
theorem ky_0 {i : Nat} : kyN i 0 3 = 0 := rfl
theorem p2_n {n : Nat} (h : 1 ≤ n) (h3 : n ≤ 3) : 2 ≤ 2 ^ n ∧ 2 ^ n ≤ 8 := by
  rcases (show n = 1 ∨ n = 2 ∨ n = 3 by omega) with rfl | rfl | rfl <;> decide
theorem p64_3 {n : Nat} (h : n ≤ 3) : (64 : Nat) ^ n ≤ 262144 := by
  have h1 : (64 : Nat) ^ n ≤ 64 ^ 3 := Nat.pow_le_pow_right (by decide) h
  have h2 : (64 : Nat) ^ 3 = 262144 := by decide
  omega
theorem hn_3 {D : dD} {cs : tC} {S : aS} {i wk n : Nat} (hD : dOk D) (hi : i < D.1) (h3 : n ≤ 3) : hnN D cs S i wk n ≤ 14948499456 := by
  have h1 := hn_b (cs := cs) (S := S) (wk := wk) hD hi n
  have h2 := p64_3 h3
  omega
theorem p2i : ∀ i, i < 8 → 2 ^ i ≤ 128 := by decide
theorem vw_b {D : dD} {cs : tC} {S : aS} {i wk n : Nat} (hD : dOk D) (hi : i < D.1) (h3 : n ≤ 3) (hw : wk < 8) : vwS D cs S n i wk ≤ 250794204910845952 := by
  have d8 := hD.1
  have h1 := hn_3 (cs := cs) (S := S) (wk := wk) hD hi h3
  have h2 := ky_b i (by omega) wk hw
  have h4 := p2i i (by omega)
  unfold vwS
  omega
theorem vw_0 {D : dD} {cs : tC} {S : aS} {i n : Nat} (hD : dOk D) (hi : i < D.1) (h3 : n ≤ 3) : vwS D cs S n i 0 ≤ 250794204902424576 := by
  have h1 := hn_3 (cs := cs) (S := S) (wk := 0) hD hi h3
  unfold vwS
  rw [ky_0]
  omega
theorem bf_b {D : dD} {cs : tC} {S : aS} {n : Nat} (hD : dOk D) (h3 : n ≤ 3) : ∀ l, l ≤ D.1 → ∀ a b c, bfS D cs S n l a b c ≤ l * 250794204902424576 := by
  intro l
  induction l with
  | zero => intro _ a b c; exact Nat.zero_le _
  | succ l ih =>
    intro hl a b c
    have h1 := ih (by omega) a b c
    by_cases e : S.1.2.2.1.testBit l = true ∨ D.2.1 l 1 = 0
    · rw [bf_t e]
      exact Nat.le_trans h1 (Nat.mul_le_mul_right _ (Nat.le_succ l))
    · rw [bf_f e, Nat.succ_mul]
      show bmS (bfS D cs S n l) (ndS D S l) (vwS D cs S n l) a b c (2 ^ n - 1) ≤ _
      have h2 := bm_le (f := bfS D cs S n l) (nd := ndS D S l) (v := vwS D cs S n l) (a := a) (b := b) (c := c) (2 ^ n - 1)
      have h4 := vw_0 (cs := cs) (S := S) (i := l) hD (by omega) h3
      omega
/-- the keys of l lives -/
theorem bf_k {D : dD} {cs : tC} {S : aS} {n : Nat} (h1n : 1 ≤ n) (h3 : n ≤ 3) : ∀ l, l ≤ 8 → ∀ a b c, bfS D cs S n l a b c % 16777216 + 65793 ≤ 65793 * 2 ^ l := by
  intro l
  induction l with
  | zero => intro _ a b c; exact Nat.le_refl _
  | succ l ih =>
    intro hl a b c
    have p1 : 2 ^ (l + 1) = 2 ^ l * 2 := Nat.pow_succ 2 l
    have h4 := p2i l (by omega)
    by_cases e : S.1.2.2.1.testBit l = true ∨ D.2.1 l 1 = 0
    · rw [bf_t e]
      have h1 := ih (by omega) a b c
      omega
    · rw [bf_f e]
      show bmS (bfS D cs S n l) (ndS D S l) (vwS D cs S n l) a b c (2 ^ n - 1) % 16777216 + 65793 ≤ _
      have hp := (p2_n h1n h3).2
      refine bm_P (fun x => x % 16777216 + 65793 ≤ 65793 * 2 ^ (l + 1)) _ (fun w' hw' x y z => ?_)
      have h1 := ih (by omega) x y z
      have h2 := ky_b l (by omega) w' (by omega)
      show (bfS D cs S n l x y z + (hnN D cs S l w' n * 16777216 + kyN l w' 3)) % 16777216 + 65793 ≤ _
      omega
/-- a way that takes no hours in the last week is as good with any of that week -/
theorem bm_c {f : Nat → Nat → Nat → Nat} {nd : Nat → Nat → Nat} {v : Nat → Nat} {a b c c' : Nat} (hf : ∀ a b c c', f a b c = f a b c') : ∀ w, (∀ w', w' ≤ w → nd w' 2 = 0) → bmS f nd v a b c w = bmS f nd v a b c' w := by
  intro w
  induction w with
  | zero => intro _; show f a b c + v 0 = f a b c' + v 0; rw [hf a b c c']
  | succ w ih =>
    intro h
    have h1 := ih (fun w' hw' => h w' (by omega))
    have h2 := h (w + 1) (Nat.le_refl _)
    by_cases e : nd (w + 1) 0 ≤ a ∧ nd (w + 1) 1 ≤ b
    · rw [bm_t ⟨e.1, e.2, by omega⟩, bm_t ⟨e.1, e.2, by omega⟩, h1, hf (a - nd (w + 1) 0) (b - nd (w + 1) 1) (c - nd (w + 1) 2) (c' - nd (w + 1) 2)]
    · rw [bm_f (fun h9 => e ⟨h9.1, h9.2.1⟩), bm_f (fun h9 => e ⟨h9.1, h9.2.1⟩), h1]
theorem bf_c {D : dD} {cs : tC} {S : aS} {n : Nat} (h2 : n ≤ 2) : ∀ (l a b c c' : Nat), bfS D cs S n l a b c = bfS D cs S n l a b c' := by
  intro l
  induction l with
  | zero => intro a b c c'; rfl
  | succ l ih =>
    intro a b c c'
    by_cases e : S.1.2.2.1.testBit l = true ∨ D.2.1 l 1 = 0
    · rw [bf_t e]
      exact ih a b c c'
    · rw [bf_f e]
      exact bm_c ih _ (fun w' hw' => nd_z (n := n) (by have := Nat.pow_pos (n := n) (show 0 < 2 by decide); omega) h2)
theorem bm_b {f : Nat → Nat → Nat → Nat} {nd : Nat → Nat → Nat} {v : Nat → Nat} {a b c b' : Nat} (hf : ∀ a b c b', f a b c = f a b' c) : ∀ w, (∀ w', w' ≤ w → nd w' 1 = 0) → bmS f nd v a b c w = bmS f nd v a b' c w := by
  intro w
  induction w with
  | zero => intro _; show f a b c + v 0 = f a b' c + v 0; rw [hf a b c b']
  | succ w ih =>
    intro h
    have h1 := ih (fun w' hw' => h w' (by omega))
    have h2 := h (w + 1) (Nat.le_refl _)
    by_cases e : nd (w + 1) 0 ≤ a ∧ nd (w + 1) 2 ≤ c
    · rw [bm_t ⟨e.1, by omega, e.2⟩, bm_t ⟨e.1, by omega, e.2⟩, h1, hf (a - nd (w + 1) 0) (b - nd (w + 1) 1) (c - nd (w + 1) 2) (b' - nd (w + 1) 1)]
    · rw [bm_f (fun h9 => e ⟨h9.1, h9.2.2⟩), bm_f (fun h9 => e ⟨h9.1, h9.2.2⟩), h1]
theorem bf_bb {D : dD} {cs : tC} {S : aS} {n : Nat} (h2 : n ≤ 1) : ∀ (l a b c b' : Nat), bfS D cs S n l a b c = bfS D cs S n l a b' c := by
  intro l
  induction l with
  | zero => intro a b c b'; rfl
  | succ l ih =>
    intro a b c b'
    by_cases e : S.1.2.2.1.testBit l = true ∨ D.2.1 l 1 = 0
    · rw [bf_t e]
      exact ih a b c b'
    · rw [bf_f e]
      exact bm_b ih _ (fun w' hw' => nd_z (n := n) (by have := Nat.pow_pos (n := n) (show 0 < 2 by decide); omega) h2)
theorem pl_e {D : dD} {cs : tC} {S : aS} {n : Nat} (h3 : n ≤ 3) : bfS D cs S n D.1 S.1.2.1 (D.2.2.2.2 2).toNat (D.2.2.2.2 2).toNat = plV D cs S n := by
  unfold plV
  by_cases e2 : 2 < n
  · rw [if_pos e2, if_pos (show 1 < n by omega)]
  · rw [if_neg e2, bf_c (n := n) (by omega) _ _ _ (D.2.2.2.2 2).toNat 0]
    by_cases e1 : 1 < n
    · rw [if_pos e1]
    · rw [if_neg e1, bf_bb (n := n) (by omega) _ _ (D.2.2.2.2 2).toNat 0 0]
theorem pl_b {D : dD} {cs : tC} {S : aS} {n : Nat} (hD : dOk D) (h3 : n ≤ 3) : plV D cs S n ≤ 2006353639219396608 := by
  have d8 := hD.1
  have h1 := bf_b (cs := cs) (S := S) hD h3 D.1 (Nat.le_refl _) S.1.2.1 (if 1 < n then (D.2.2.2.2 2).toNat else 0) (if 2 < n then (D.2.2.2.2 2).toNat else 0)
  show bfS D cs S n D.1 S.1.2.1 (if 1 < n then (D.2.2.2.2 2).toNat else 0) (if 2 < n then (D.2.2.2.2 2).toNat else 0) ≤ _
  omega
-- cells by hours
theorem ci_b {x y z : Nat} (hx : x ≤ 12) (hy : y ≤ 12) (hz : z ≤ 12) : (13 * x + y) * 13 + z < 2197 := by omega
theorem ci_j {x y z x' y' z' : Nat} (hy : y ≤ 12) (hz : z ≤ 12) (hy' : y' ≤ 12) (hz' : z' ≤ 12) (h : (13 * x + y) * 13 + z = (13 * x' + y') * 13 + z') : x = x' ∧ y = y' ∧ z = z' := by
  have h1 : 13 * x + y = 13 * x' + y' := by omega
  omega
theorem ro_xi {a b c : Int32} {x y z : Nat} (ha : a.toInt = x) (hb : b.toInt = y) (hc : c.toInt = z) (hx : x ≤ 12) (hy : y ≤ 12) (hz : z ≤ 12) : ((a * 13 + b) * 13 + c).toInt = (((13 * x + y) * 13 + z : Nat) : Int) := by
  rw [Int32.mul_comm a 13]
  exact ro_in ha hb hc hx hy hz
-- sums and shifts of long ones
theorem jN {x : Int64} {a : Nat} (hx : x.toInt = (a : Int)) : x.toBitVec.toNat = a ∧ a < 2 ^ 63 := by
  have h1 : x.toBitVec.toInt = (a : Int) := hx
  rw [BitVec.toInt_eq_toNat_cond] at h1
  have h2 := x.toBitVec.isLt
  split at h1 <;> omega
theorem jI {x : Int64} {a : Nat} (hx : x.toBitVec.toNat = a) (h : a < 2 ^ 63) : x.toInt = (a : Int) := by
  show x.toBitVec.toInt = _
  rw [BitVec.toInt_eq_toNat_of_lt (by omega), hx]
theorem shl24 {x : Int64} {a : Nat} (hx : x.toInt = (a : Int)) (h : a ≤ 14948499456) : (x <<< ((24 : Int32).toInt64 &&& 63)).toInt = ((a * 16777216 : Nat) : Int) := by
  refine jI ?_ (by omega)
  show (x.toBitVec <<< BitVec.smod ((24 : Int32).toInt64 &&& 63).toBitVec 64#64).toNat = _
  rw [show BitVec.smod ((24 : Int32).toInt64 &&& 63).toBitVec 64#64 = 24#64 by decide]
  show (x.toBitVec <<< 24).toNat = _
  rw [BitVec.toNat_shiftLeft, (jN hx).1, Nat.shiftLeft_eq]
  exact Nat.mod_eq_of_lt (by omega)
theorem sar24 (x : Int64) : (x >>> ((24 : Int32).toInt64 &&& 63)).toInt = x.toInt / 16777216 := by
  show (BitVec.sshiftRight' x.toBitVec (BitVec.smod ((24 : Int32).toInt64 &&& 63).toBitVec 64#64)).toInt = _
  rw [show BitVec.smod ((24 : Int32).toInt64 &&& 63).toBitVec 64#64 = 24#64 by decide]
  show (BitVec.sshiftRight x.toBitVec 24).toInt = _
  rw [BitVec.toInt_sshiftRight, Int.shiftRight_eq_div_pow]
  rfl
def kyP (k : Nat) : Nat := 2 ^ (8 * (2 - k))
theorem sarK (x : Int64) : ∀ k, k < 3 → (x >>> ((8 * (2 - nI k)).toInt64 &&& 63)).toInt = x.toInt / ((kyP k : Nat) : Int) := by
  intro k hk
  have e : ∀ k, k < 3 → (BitVec.smod ((8 * (2 - nI k)).toInt64 &&& 63).toBitVec 64#64).toNat = 8 * (2 - k) := by decide +kernel
  show (BitVec.sshiftRight x.toBitVec (BitVec.smod ((8 * (2 - nI k)).toInt64 &&& 63).toBitVec 64#64).toNat).toInt = _
  rw [e k hk, BitVec.toInt_sshiftRight, Int.shiftRight_eq_div_pow]
  unfold kyP
  norm_cast
theorem and255J (x : Int64) : (x &&& 255).toInt = x.toInt % 256 := by
  have e : (x &&& 255).toBitVec.toNat = x.toBitVec.toNat % 256 := by
    rw [Int64.toBitVec_and, BitVec.toNat_and]
    exact Nat.and_two_pow_sub_one_eq_mod _ 8
  have e3 : (x &&& 255).toInt = ((x &&& 255).toBitVec.toNat : Int) := by
    show (x &&& 255).toBitVec.toInt = _
    rw [BitVec.toInt_eq_toNat_of_lt (by omega)]
  have e4 : x.toInt = if 2 * x.toBitVec.toNat < 2 ^ 64 then (x.toBitVec.toNat : Int) else (x.toBitVec.toNat : Int) - ((2 ^ 64 : Nat) : Int) := by
    show x.toBitVec.toInt = _
    rw [BitVec.toInt_eq_toNat_cond]
  rw [e3, e, e4]
  split <;> omega
theorem l2i255 (x : Int64) : (x.toInt32 &&& 255).toInt = x.toInt % 256 := by
  rw [and255, Int64.toInt_toInt32, Int.bmod_def]
  split <;> omega
theorem l2iS {x : Int64} {a : Int} (h : x.toInt = a) (h0 : 0 ≤ a) (h1 : a < 256) : x.toInt32.toInt = a := by
  rw [Int64.toInt_toInt32, h]
  exact Int.bmod_eq_of_le (by omega) (by omega)
theorem bi_g {p k : Nat} (hk : k < 3) : p / kyP k % 256 = p % 16777216 / kyP k % 256 := by
  rcases (show k = 0 ∨ k = 1 ∨ k = 2 by omega) with rfl | rfl | rfl
  all_goals simp only [kyP, Nat.reduceSub, Nat.reduceMul, Nat.reducePow]
  all_goals omega
theorem kyX : ∀ i, i < 8 → ∀ wk, wk < 8 → ∀ k, k < 3 → wk.testBit k = true → jZ ((kyN i wk k : Nat) : Int) ||| (1 : Int64) <<< ((8 * (2 - nI k) + nI i).toInt64 &&& 63) = jZ ((kyN i wk (k + 1) : Nat) : Int) := by decide +kernel
theorem kyM : ∀ i, i < 8 → ∀ wk, wk < 8 → ∀ k, k < 3 → wk.testBit k = true → jZ ((kyN i wk k : Nat) : Int) + (1 : Int64) <<< ((8 * (2 - nI k) + nI i).toInt64 &&& 63) = jZ ((kyN i wk (k + 1) : Nat) : Int) := by decide +kernel
theorem kyZ : ∀ i, i < 8 → ∀ wk, wk < 8 → (jZ ((kyN i wk 3 : Nat) : Int)).toInt = ((kyN i wk 3 : Nat) : Int) := by decide +kernel
theorem ky_n {i wk k : Nat} (h : wk.testBit k = false) : kyN i wk (k + 1) = kyN i wk k := by
  show kyN i wk k + (if wk.testBit k = true then 2 ^ (8 * (2 - k) + i) else 0) = _
  rw [if_neg (by rw [h]; decide)]
  rfl
theorem mxl_f {x z : Int64} : (pvMxl false x z).toInt = min x.toInt z.toInt := by
  show (if z < x then z else x).toInt = _
  split
  · rename_i h
    have h8 := Int64.lt_iff_toInt_lt.mp h
    omega
  · rename_i h
    have h8 : ¬ z.toInt < x.toInt := fun e => h (Int64.lt_iff_toInt_lt.mpr e)
    omega
theorem ix3 {w : Nat} (hw : w ≤ 8) : (nI w * 3).toInt = ((3 * w : Nat) : Int) := by
  have h1 : (nI w).toInt = (w : Int) := nI_toInt (by omega)
  have z3 : (3 : Int32).toInt = 3 := by decide
  rw [sc_mul (by rw [h1, z3]; omega) (by rw [h1, z3]; omega), h1, z3]
  omega
theorem ix3k {w k : Nat} {c : Int32} (hw : w ≤ 8) (hc : c.toInt = (k : Int)) (hk : k ≤ 3) : (nI w * 3 + c).toInt = ((3 * w + k : Nat) : Int) := by
  have h1 := ix3 hw
  rw [sc_add (by omega) (by omega)]
  omega
theorem mn_c (a b : Nat) : min (a : Int) (b : Int) = ((min a b : Nat) : Int) := by
  rcases Nat.le_total a b with h | h
  · rw [Nat.min_eq_left h]
    omega
  · rw [Nat.min_eq_right h]
    omega
theorem p2n : ∀ n, n < 4 → (1 : Int32) <<< (nI n &&& 31) = nI (2 ^ n) := by decide +kernel
/-- cells by hours, up to m0, m1, m2 -/
def ceP (M : fmM) (g : Nat → Nat → Nat → Nat) (m0 m1 m2 : Nat) : Prop := ∀ x y z, x ≤ m0 → y ≤ m1 → z ≤ m2 → (M.2 35 ((13 * x + y) * 13 + z)).toInt = ((g x y z : Nat) : Int)
/-- those from A, B, C on are done -/
def miS (f g : Nat → Nat → Nat → Nat) (a b c x y z : Nat) : Nat := if a ≤ x ∨ (a = x + 1 ∧ (b ≤ y ∨ (b = y + 1 ∧ c ≤ z))) then g x y z else f x y z
theorem ceP.of {M M' : fmM} {g g' : Nat → Nat → Nat → Nat} {m0 m1 m2 : Nat} (h : ceP M g m0 m1 m2) (e : M'.2 35 = M.2 35) (eg : ∀ x y z, x ≤ m0 → y ≤ m1 → z ≤ m2 → g' x y z = g x y z) : ceP M' g' m0 m1 m2 := fun x y z hx hy hz => by
  rw [e, eg x y z hx hy hz]
  exact h x y z hx hy hz
theorem mi_f {f g : Nat → Nat → Nat → Nat} {a b c x y z : Nat} (h : ¬ (a ≤ x ∨ (a = x + 1 ∧ (b ≤ y ∨ (b = y + 1 ∧ c ≤ z))))) : miS f g a b c x y z = f x y z := if_neg h
theorem mi_g {f g : Nat → Nat → Nat → Nat} {a b c x y z : Nat} (h : a ≤ x ∨ (a = x + 1 ∧ (b ≤ y ∨ (b = y + 1 ∧ c ≤ z)))) : miS f g a b c x y z = g x y z := if_pos h
theorem mi_e {f g : Nat → Nat → Nat → Nat} {a b c a' b' c' x y z : Nat} (h : (a ≤ x ∨ (a = x + 1 ∧ (b ≤ y ∨ (b = y + 1 ∧ c ≤ z)))) ↔ (a' ≤ x ∨ (a' = x + 1 ∧ (b' ≤ y ∨ (b' = y + 1 ∧ c' ≤ z))))) : miS f g a b c x y z = miS f g a' b' c' x y z := by
  by_cases e : a ≤ x ∨ (a = x + 1 ∧ (b ≤ y ∨ (b = y + 1 ∧ c ≤ z)))
  · rw [mi_g e, mi_g (h.mp e)]
  · rw [mi_f e, mi_f (fun h9 => e (h.mpr h9))]
/-- one cell more is done -/
theorem ceP.put {M : fmM} {f g : Nat → Nat → Nat → Nat} {m0 m1 m2 x y c : Nat} {r : Int64} (h : ceP M (miS f g (x + 1) (y + 1) (c + 1)) m0 m1 m2) (hx : x ≤ m0) (hy : y ≤ m1) (hc : c ≤ m2) (b0 : m0 ≤ 12) (b1 : m1 ≤ 12) (b2 : m2 ≤ 12) (hr : r.toInt = ((g x y c : Nat) : Int)) : ceP (fmJ M 35 ((13 * x + y) * 13 + c) r) (miS f g (x + 1) (y + 1) c) m0 m1 m2 := fun x' y' z' hx' hy' hz' => by
  by_cases e : x' = x ∧ y' = y ∧ z' = c
  · obtain ⟨rfl, rfl, rfl⟩ := e
    rw [fmJ_s2, mi_g (Or.inr ⟨rfl, Or.inr ⟨rfl, Nat.le_refl _⟩⟩)]
    exact hr
  · rw [fmJ_j _ _ (fun h9 => e (ci_j (by omega) (by omega) (by omega) (by omega) h9)), mi_e (a' := x + 1) (b' := y + 1) (c' := c + 1) (by omega)]
    exact h x' y' z' hx' hy' hz'
theorem xAq.pk {M M' : fmM} {D : dD} {cs : tC} {S : aS} (h : xAq M D cs S) (hk : ∀ k j, k ≤ 24 ∨ k = 47 ∨ k = 48 → M'.1 k j = M.1 k j) (h2 : M'.2 47 6 = M.2 47 6) : xAq M' D cs S := ⟨h.1, h.2.1.of (fun k j a b => hk k j (by omega)), h.2.2.1.f (hk 23 3 (by decide)) (fun i => hk 24 i (by decide)), h.2.2.2.1.of (fun k j a => hk k j (by omega)) h2, h.2.2.2.2⟩
/-- hours of each week, of n -/
def moS (D : dD) (S : aS) (n k : Nat) : Nat := if k < n then (if k = 0 then S.1.2.1 else (D.2.2.2.2 2).toNat) else 0
theorem mo_b {D : dD} {S : aS} {n k : Nat} (hD : dOk D) (ho : stO D S) : moS D S n k ≤ 12 := by
  have h1 := ho.2.1
  have h2 := hD.2.2.2.2.1
  unfold moS
  split
  · split <;> omega
  · omega
theorem mAq.pk {M M' : fmM} {D : dD} {cs : tC} {S : aS} (h : mAq M D cs S) (hk : ∀ k j, k ≠ 0 → k ≠ 5 → k ≠ 6 → k ≠ 13 → M'.1 k j = M.1 k j) (h0 : M'.1 0 17 = M.1 0 17) : mAq M' D cs S := ⟨h.1, h.2.1.k h.1 (fun k j a => hk k j (by omega) (by omega) (by omega) (by omega)), h.2.2.1.f2 h0 (fun k j a b => hk k j (by omega) (by omega) (by omega) (by omega)), h.2.2.2.1, h.2.2.2.2.1.of (fun j => hk 7 j (by decide) (by decide) (by decide) (by decide)), h.2.2.2.2.2⟩
theorem mAq.p13 {M : fmM} {D : dD} {cs : tC} {S : aS} {j : Nat} {v : Int32} (h : mAq M D cs S) : mAq (fmI M 13 j v) D cs S := h.pk (fun k j' _ _ _ a => by rw [fmI_k _ _ a]) (by rw [fmI_k _ _ (by decide)])
/-- what a look at a way begins with -/
def isM (M : fmM) : fmM := fmI (fmI (fmI (fmJ M 0 43 0) 13 0 0) 13 1 0) 13 2 0
theorem isM_k {M : fmM} {k j : Nat} (h : k ≠ 13) : (isM M).1 k j = M.1 k j := by
  unfold isM
  rw [fmI_k _ _ h, fmI_k _ _ h, fmI_k _ _ h]
  rfl
theorem isM_s {M : fmM} {j : Nat} (h : j < 3) : (isM M).1 13 j = 0 := by
  unfold isM
  rcases (show j = 0 ∨ j = 1 ∨ j = 2 by omega) with rfl | rfl | rfl
  · rw [fmI_j _ _ (by decide), fmI_j _ _ (by decide), fmI_s]
  · rw [fmI_j _ _ (by decide), fmI_s]
  · rw [fmI_s]
theorem isM_l {M : fmM} : (isM M).2 0 43 = 0 := by
  show (fmJ M 0 43 0).2 0 43 = 0
  exact fmJ_s2
theorem isM_2 {M : fmM} {k j : Nat} (h : ¬ (k = 0 ∧ j = 43)) : (isM M).2 k j = M.2 k j := by
  show (fmJ M 0 43 0).2 k j = _
  by_cases e : k = 0
  · subst e
    rw [fmJ_j _ _ (fun h9 => h ⟨rfl, h9⟩)]
  · rw [fmJ_k2 e]
/-- a look at a way, of the other side -/
def isFr (M0 M : fmM) : Prop := (∀ k j, k ≠ 5 → k ≠ 6 → k ≠ 13 → M.1 k j = M0.1 k j) ∧ ∀ k j, ¬ (k = 0 ∧ j = 43) → M.2 k j = M0.2 k j
theorem pw_i' {a : Int64} {b n : Nat} (ha : a.toInt = (b : Int)) (hb : b ≤ 64) (hn : n ≤ 9) : (pwS a n).toInt = ((b ^ n : Nat) : Int) := pw_b ha hb n hn
theorem od_x' {x : Int32} {d : Int} (h : x.toInt = d) (h0 : 0 ≤ d) (h1 : d ≤ 64) : ((64 : Int32) - x).toInt64 = jZ (64 - d) ∧ (jZ (64 - d)).toInt = ((64 - d.toNat : Nat) : Int) := by
  have z32 : (64 : Int32).toInt = 64 := by decide
  have e2 : ((64 : Int32) - x).toInt64.toInt = 64 - d := by
    rw [Int32.toInt_toInt64, sc_sub (by omega) (by omega)]
    omega
  have e3 := jZ_is e2
  refine ⟨e3, ?_⟩
  rw [← e3, e2]
  omega
/-- of option cells: none, or what is least so far -/
def nxO (p q : Int64) (o : Option Nat) : Prop := match o with
  | none => p = -1
  | some v => p.toInt = ((v / 16777216 : Nat) : Int) ∧ q.toInt = ((v % 16777216 : Nat) : Int)
def nxP (M : fmM) (g : Nat → Nat → Nat → Option Nat) : Prop := ∀ x y z, x ≤ 12 → y ≤ 12 → z ≤ 12 → nxO (M.2 11 ((13 * x + y) * 13 + z)) (M.2 12 ((13 * x + y) * 13 + z)) (g x y z)
def leP (M : fmM) (g : Nat → Nat → Nat → Nat) : Prop := ∀ x y z, x ≤ 12 → y ≤ 12 → z ≤ 12 → (M.2 9 ((13 * x + y) * 13 + z)).toInt = ((g x y z / 16777216 : Nat) : Int) ∧ (M.2 10 ((13 * x + y) * 13 + z)).toInt = ((g x y z % 16777216 : Nat) : Int)
/-- a way more -/
def upO (f : Nat → Nat → Nat → Nat) (s : Nat → Nat) (v : Nat) (g : Nat → Nat → Nat → Option Nat) (x y z : Nat) : Option Nat := if s 0 ≤ x ∧ s 1 ≤ y ∧ s 2 ≤ z then some (match g x y z with
  | none => f (x - s 0) (y - s 1) (z - s 2) + v
  | some w => min w (f (x - s 0) (y - s 1) (z - s 2) + v)) else g x y z
theorem up_0 {f : Nat → Nat → Nat → Nat} {s : Nat → Nat} {v : Nat} {g : Nat → Nat → Nat → Option Nat} {x y z : Nat} (h : s 0 ≤ x ∧ s 1 ≤ y ∧ s 2 ≤ z) (hn : g x y z = none) : upO f s v g x y z = some (f (x - s 0) (y - s 1) (z - s 2) + v) := by
  unfold upO
  first
    | (rw [if_pos h, hn]; done)
    | (rw [if_pos h, hn]; rfl)
    | simp [h, hn]
theorem up_1 {f : Nat → Nat → Nat → Nat} {s : Nat → Nat} {v w : Nat} {g : Nat → Nat → Nat → Option Nat} {x y z : Nat} (h : s 0 ≤ x ∧ s 1 ≤ y ∧ s 2 ≤ z) (hw : g x y z = some w) : upO f s v g x y z = some (min w (f (x - s 0) (y - s 1) (z - s 2) + v)) := by
  unfold upO
  first
    | (rw [if_pos h, hw]; done)
    | (rw [if_pos h, hw]; rfl)
    | simp [h, hw]
theorem up_n {f : Nat → Nat → Nat → Nat} {s : Nat → Nat} {v : Nat} {g : Nat → Nat → Nat → Option Nat} {x y z : Nat} (h : ¬ (s 0 ≤ x ∧ s 1 ≤ y ∧ s 2 ≤ z)) : upO f s v g x y z = g x y z := if_neg h
/-- those ahead of a, b, c are done -/
def mxO (g g' : Nat → Nat → Nat → Option Nat) (a b c x y z : Nat) : Option Nat := if x < a ∨ (x = a ∧ (y < b ∨ (y = b ∧ z < c))) then g' x y z else g x y z
theorem mw_g {g g' : Nat → Nat → Nat → Option Nat} {a b c x y z : Nat} (h : x < a ∨ (x = a ∧ (y < b ∨ (y = b ∧ z < c)))) : mxO g g' a b c x y z = g' x y z := if_pos h
theorem mw_f {g g' : Nat → Nat → Nat → Option Nat} {a b c x y z : Nat} (h : ¬ (x < a ∨ (x = a ∧ (y < b ∨ (y = b ∧ z < c))))) : mxO g g' a b c x y z = g x y z := if_neg h
theorem mw_e {g g' : Nat → Nat → Nat → Option Nat} {a b c a' b' c' x y z : Nat} (h : (x < a ∨ (x = a ∧ (y < b ∨ (y = b ∧ z < c)))) ↔ (x < a' ∨ (x = a' ∧ (y < b' ∨ (y = b' ∧ z < c'))))) : mxO g g' a b c x y z = mxO g g' a' b' c' x y z := by
  by_cases e : x < a ∨ (x = a ∧ (y < b ∨ (y = b ∧ z < c)))
  · rw [mw_g e, mw_g (h.mp e)]
  · rw [mw_f e, mw_f (fun h9 => e (h.mpr h9))]
/-- where both say the same, it is no matter -/
theorem mw_s {g g' : Nat → Nat → Nat → Option Nat} {a b c a' b' c' x y z : Nat} (h : ((x < a ∨ (x = a ∧ (y < b ∨ (y = b ∧ z < c)))) ↔ (x < a' ∨ (x = a' ∧ (y < b' ∨ (y = b' ∧ z < c'))))) ∨ g' x y z = g x y z) : mxO g g' a b c x y z = mxO g g' a' b' c' x y z := by
  rcases h with h | h
  · exact mw_e h
  · unfold mxO
    rw [h]
    split <;> split <;> rfl
theorem nxP.of {M M' : fmM} {g g' : Nat → Nat → Nat → Option Nat} (h : nxP M g) (e : M'.2 11 = M.2 11) (e2 : M'.2 12 = M.2 12) (eg : ∀ x y z, x ≤ 12 → y ≤ 12 → z ≤ 12 → g' x y z = g x y z) : nxP M' g' := fun x y z hx hy hz => by
  rw [e, e2, eg x y z hx hy hz]
  exact h x y z hx hy hz
theorem nxP.put {M : fmM} {g g' : Nat → Nat → Nat → Option Nat} {x y z v : Nat} {p q : Int64} (h : nxP M (mxO g g' x y z)) (hx : x ≤ 12) (hy : y ≤ 12) (hz : z ≤ 12) (hv : g' x y z = some v) (hp : p.toInt = ((v / 16777216 : Nat) : Int)) (hq : q.toInt = ((v % 16777216 : Nat) : Int)) : nxP (fmJ (fmJ M 11 ((13 * x + y) * 13 + z) p) 12 ((13 * x + y) * 13 + z) q) (mxO g g' x y (z + 1)) := fun x' y' z' hx' hy' hz' => by
  by_cases e : x' = x ∧ y' = y ∧ z' = z
  · obtain ⟨rfl, rfl, rfl⟩ := e
    have e11 : (fmJ (fmJ M 11 ((13 * x' + y') * 13 + z') p) 12 ((13 * x' + y') * 13 + z') q).2 11 ((13 * x' + y') * 13 + z') = p := by rw [fmJ_k2 (show (11 : Nat) ≠ 12 by decide), fmJ_s2]
    have e12 : (fmJ (fmJ M 11 ((13 * x' + y') * 13 + z') p) 12 ((13 * x' + y') * 13 + z') q).2 12 ((13 * x' + y') * 13 + z') = q := fmJ_s2
    rw [e11, e12, mw_g (Or.inr ⟨rfl, Or.inr ⟨rfl, Nat.lt_succ_self _⟩⟩), hv]
    exact ⟨hp, hq⟩
  · have hne : (13 * x' + y') * 13 + z' ≠ (13 * x + y) * 13 + z := fun h9 => e (ci_j (by omega) (by omega) (by omega) (by omega) h9)
    have e11 : (fmJ (fmJ M 11 ((13 * x + y) * 13 + z) p) 12 ((13 * x + y) * 13 + z) q).2 11 ((13 * x' + y') * 13 + z') = M.2 11 ((13 * x' + y') * 13 + z') := by rw [fmJ_k2 (show (11 : Nat) ≠ 12 by decide), fmJ_j _ _ hne]
    have e12 : (fmJ (fmJ M 11 ((13 * x + y) * 13 + z) p) 12 ((13 * x + y) * 13 + z) q).2 12 ((13 * x' + y') * 13 + z') = M.2 12 ((13 * x' + y') * 13 + z') := by rw [fmJ_j _ _ hne, fmJ_k2 (show (12 : Nat) ≠ 11 by decide)]
    rw [e11, e12, mw_e (a' := x) (b' := y) (c' := z) (by omega)]
    exact h x' y' z' hx' hy' hz'
theorem nxP.no {M : fmM} {g g' : Nat → Nat → Nat → Option Nat} {x y z : Nat} (h : nxP M (mxO g g' x y z)) (hv : g' x y z = g x y z) : nxP M (mxO g g' x y (z + 1)) := h.of rfl rfl (fun x' y' z' _ _ _ => mw_s (by
  by_cases e : x' = x ∧ y' = y ∧ z' = z
  · obtain ⟨rfl, rfl, rfl⟩ := e
    exact Or.inr hv
  · exact Or.inl (by omega)))
theorem lc_eq {x z : Int64} : lg_cmp x z = 0 ↔ x.toInt = z.toInt := by
  unfold lg_cmp
  split
  · rename_i h
    have h8 : z.toInt < x.toInt := Int64.lt_iff_toInt_lt.mp h
    exact ⟨fun h9 => absurd h9 (by decide), fun h9 => absurd h9 (by omega)⟩
  · rename_i h
    split
    · rename_i h2
      exact ⟨fun _ => by rw [h2], fun _ => rfl⟩
    · rename_i h2
      exact ⟨fun h9 => absurd h9 (by decide), fun h9 => absurd (j64_ext h9) h2⟩
theorem lc_pos {x z : Int64} : 0 < lg_cmp x z ↔ z.toInt < x.toInt := by
  unfold lg_cmp
  split
  · rename_i h
    have h8 : z.toInt < x.toInt := Int64.lt_iff_toInt_lt.mp h
    exact ⟨fun _ => h8, fun _ => by decide⟩
  · rename_i h
    have h8 : ¬ z.toInt < x.toInt := fun e => h (Int64.lt_iff_toInt_lt.mpr e)
    split
    · exact ⟨fun h9 => absurd h9 (by decide), fun h9 => absurd h9 h8⟩
    · exact ⟨fun h9 => absurd h9 (by decide), fun h9 => absurd h9 h8⟩
theorem lc_neg {x z : Int64} : lg_cmp x z < 0 ↔ x.toInt < z.toInt := by
  unfold lg_cmp
  split
  · rename_i h
    have h8 : z.toInt < x.toInt := Int64.lt_iff_toInt_lt.mp h
    exact ⟨fun h9 => absurd h9 (by decide), fun h9 => absurd h9 (by omega)⟩
  · rename_i h
    have h8 : ¬ z.toInt < x.toInt := fun e => h (Int64.lt_iff_toInt_lt.mpr e)
    split
    · rename_i h2
      exact ⟨fun h9 => absurd h9 (by decide), fun h9 => absurd h9 (by rw [h2]; omega)⟩
    · rename_i h2
      have h3 : ¬ x.toInt = z.toInt := fun e => h2 (j64_ext e)
      exact ⟨fun _ => by omega, fun _ => by decide⟩
/-- option cells of life l when ways below w were looked at -/
def gsO (D : dD) (cs : tC) (S : aS) (n l : Nat) : Nat → Nat → Nat → Nat → Option Nat
  | 0 => fun _ _ _ => none
  | w + 1 => fun x y z => some (if S.1.2.2.1.testBit l = true then bfS D cs S n l x y z else bmS (bfS D cs S n l) (ndS D S l) (vwS D cs S n l) x y z w)
theorem nd_0 {D : dD} {S : aS} {i k : Nat} : ndS D S i 0 k = 0 := if_neg (by rw [Nat.zero_testBit]; decide)
theorem gs_y {D : dD} {cs : tC} {S : aS} {n l w x y z : Nat} (hd : S.1.2.2.1.testBit l = true → w = 0) : gsO D cs S n l (w + 1) x y z = upO (bfS D cs S n l) (fun k => ndS D S l w k) ((if S.1.2.2.1.testBit l = true then 0 else hnN D cs S l w n) * 16777216 + kyN l w 3) (gsO D cs S n l w) x y z := by
  cases w with
  | zero =>
    rw [up_0 (s := fun k => ndS D S l 0 k) ⟨by show ndS D S l 0 0 ≤ x; rw [nd_0]; exact Nat.zero_le _, by show ndS D S l 0 1 ≤ y; rw [nd_0]; exact Nat.zero_le _, by show ndS D S l 0 2 ≤ z; rw [nd_0]; exact Nat.zero_le _⟩ rfl]
    show some _ = some (bfS D cs S n l (x - ndS D S l 0 0) (y - ndS D S l 0 1) (z - ndS D S l 0 2) + _)
    rw [nd_0, nd_0, nd_0, ky_0, Nat.sub_zero, Nat.sub_zero, Nat.sub_zero]
    congr 1
    by_cases e : S.1.2.2.1.testBit l = true
    · rw [if_pos e, if_pos e, Nat.zero_mul]
      rfl
    · rw [if_neg e, if_neg e]
      rfl
  | succ w =>
    have hal : ¬ S.1.2.2.1.testBit l = true := fun e => absurd (hd e) (by omega)
    by_cases e : ndS D S l (w + 1) 0 ≤ x ∧ ndS D S l (w + 1) 1 ≤ y ∧ ndS D S l (w + 1) 2 ≤ z
    · rw [up_1 (s := fun k => ndS D S l (w + 1) k) (w := bmS (bfS D cs S n l) (ndS D S l) (vwS D cs S n l) x y z w) e (by show some _ = _; rw [if_neg hal])]
      show some _ = some _
      rw [if_neg hal, if_neg hal, bm_t e]
      rfl
    · rw [up_n (s := fun k => ndS D S l (w + 1) k) e]
      show some _ = some _
      rw [if_neg hal, if_neg hal, bm_f e]
theorem gs_n {D : dD} {cs : tC} {S : aS} {n l w x y z : Nat} (hx : x ≤ 12) (hy : y ≤ 12) (hz : z ≤ 12) (h : (S.1.2.2.1.testBit l = true ∧ w ≠ 0) ∨ ∃ k, k < 3 ∧ 12 < ndS D S l w k) : gsO D cs S n l (w + 1) x y z = gsO D cs S n l w x y z := by
  cases w with
  | zero =>
    rcases h with h | ⟨k, _, h⟩
    · exact absurd rfl h.2
    · rw [nd_0] at h
      omega
  | succ w =>
    show some _ = some _
    by_cases e : S.1.2.2.1.testBit l = true
    · rw [if_pos e, if_pos e]
    · rw [if_neg e, if_neg e, bm_no hx hy hz (by
        rcases h with h | h
        · exact absurd h.1 e
        · exact h)]
theorem gs_e {D : dD} {cs : tC} {S : aS} {n l x y z : Nat} : gsO D cs S n l (2 ^ n) x y z = some (bfS D cs S n (l + 1) x y z) := by
  have hp := Nat.pow_pos (n := n) (show 0 < 2 by decide)
  have e1 : 2 ^ n = (2 ^ n - 1) + 1 := by omega
  rw [e1]
  show some (if S.1.2.2.1.testBit l = true then bfS D cs S n l x y z else bmS (bfS D cs S n l) (ndS D S l) (vwS D cs S n l) x y z (2 ^ n - 1)) = some ((if S.1.2.2.1.testBit l = true ∨ D.2.1 l 1 = 0 then bfS D cs S n l else fun a b c => bmS (bfS D cs S n l) (ndS D S l) (vwS D cs S n l) a b c (2 ^ n - 1)) x y z)
  by_cases e : S.1.2.2.1.testBit l = true
  · rw [if_pos e, if_pos (Or.inl e)]
  · rw [if_neg e]
    by_cases e2 : D.2.1 l 1 = 0
    · rw [if_pos (Or.inr e2), bm_0 (bf_m l)]
      show hnN D cs S l 0 n * 16777216 + kyN l 0 3 = 0
      have h0 : ∀ m, hnN D cs S l 0 m = 0 := by
        intro m
        induction m with
        | zero => rfl
        | succ m ih =>
          show hnN D cs S l 0 m * 64 + (64 - (D.2.1 l 1).toNat) ^ m * (D.2.1 l 1).toNat * ccN D cs S l 0 m = 0
          rw [ih, e2]
          simp
      rw [h0, ky_0]
    · rw [if_neg (fun h => by
        rcases h with h | h
        · exact e h
        · exact e2 h)]
theorem gs_b {D : dD} {cs : tC} {S : aS} {n l w x y z v : Nat} (hD : dOk D) (hl : l < D.1) (h3 : n ≤ 3) (h : gsO D cs S n l w x y z = some v) : v ≤ 2400000000000000000 := by
  have d8 := hD.1
  have h1 := bf_b (cs := cs) (S := S) hD h3 l (by omega) x y z
  have h2 := vw_0 (cs := cs) (S := S) hD hl h3
  cases w with
  | zero => cases h
  | succ w =>
    have h3 : (if S.1.2.2.1.testBit l = true then bfS D cs S n l x y z else bmS (bfS D cs S n l) (ndS D S l) (vwS D cs S n l) x y z w) = v := Option.some.inj h
    by_cases e : S.1.2.2.1.testBit l = true
    · rw [if_pos e] at h3
      omega
    · rw [if_neg e] at h3
      have h4 := bm_le (f := bfS D cs S n l) (nd := ndS D S l) (v := vwS D cs S n l) (a := x) (b := y) (c := z) w
      omega
theorem jl_j {D : dD} {cs : tC} {S : aS} {n : Nat} (hD : dOk D) (h : n ≤ 3) : (jZ ((plV D cs S n / 16777216 : Nat) : Int)).toInt = ((plV D cs S n / 16777216 : Nat) : Int) := by
  have hb := pl_b (cs := cs) (S := S) hD h
  unfold jZ
  rw [Int64.toInt_ofInt, show Int64.size = 18446744073709551616 from rfl]
  exact Int.bmod_eq_of_le (by omega) (by omega)
set_option maxRecDepth 20000 in
theorem c_xcell {M : fmM} {Q : fmR → fmM → Prop} {a b c : Int32} {x y z : Nat} (ha : a.toInt = (x : Int)) (hb : b.toInt = (y : Int)) (hc : c.toInt = (z : Int)) (hx : x ≤ 12) (hy : y ≤ 12) (hz : z ≤ 12) (hq : ∀ r : Int32, r.toInt = (((13 * x + y) * 13 + z : Nat) : Int) → Q (.inl (some (.int r))) M) : pvGood Tx 0 qX3_cellOf [.int a, .int b, .int c] M Q := by
  refine pvGood_of (Nat.le_of_ble_eq_true rfl) ?_
  show pvEv Tx 0 qX3_cellOf 0 [some (.int a), some (.int b), some (.int c)] [] M Q
  refine pv_iloadn (pc := 0) (n := 0) 0 rfl rfl (fm_dec dtX3_cellOf 0 rfl) ?_
  refine pv_bipush (pc := 1) (v := 13) (by decide) (fm_dec dtX3_cellOf 1 rfl) ?_
  refine pv_imul (pc := 3) (fm_dec dtX3_cellOf 2 rfl) ?_
  refine pv_iloadn (pc := 4) (n := 1) 1 rfl rfl (fm_dec dtX3_cellOf 3 rfl) ?_
  refine pv_iadd (pc := 5) (fm_dec dtX3_cellOf 4 rfl) ?_
  refine pv_bipush (pc := 6) (v := 13) (by decide) (fm_dec dtX3_cellOf 5 rfl) ?_
  refine pv_imul (pc := 8) (fm_dec dtX3_cellOf 6 rfl) ?_
  refine pv_iloadn (pc := 9) (n := 2) 2 rfl rfl (fm_dec dtX3_cellOf 7 rfl) ?_
  refine pv_iadd (pc := 10) (fm_dec dtX3_cellOf 8 rfl) ?_
  exact pv_ireturn (pc := 11) rfl (fm_dec dtX3_cellOf 9 rfl) (hq _ (ro_xi ha hb hc hx hy hz))
set_option maxRecDepth 20000 in
theorem xlo_loop {Q : fmR → fmM → Prop} {M : fmM} {f : Nat → Nat → Nat → Nat} {nd : Nat → Nat → Nat} {v : Nat → Nat} {W : Nat} {x y z : Nat} {a b c : Int32} (hW : 1 ≤ W ∧ W ≤ 8) (hfb : ∀ x y z, f x y z ≤ 2100000000000000000) (hv : ∀ w, w < W → (M.2 36 w).toInt = ((v w : Nat) : Int) ∧ v w ≤ 300000000000000000) (hn : ∀ w k, w < W → k < 3 → (M.1 37 (3 * w + k)).toInt = ((nd w k : Nat) : Int) ∧ nd w k ≤ 99) (ha : a.toInt = (x : Int)) (hb : b.toInt = (y : Int)) (hc : c.toInt = (z : Int)) (hx : x ≤ 12) (hy : y ≤ 12) (hz : z ≤ 12) (hf : ∀ x' y' z', x' ≤ x → y' ≤ y → z' ≤ z → (M.2 35 ((13 * x' + y') * 13 + z')).toInt = ((f x' y' z' : Nat) : Int)) (hq : ∀ r : Int64, r.toInt = ((bmS f nd v x y z (W - 1) : Nat) : Int) → Q (.inl (some (.long r))) M) : ∀ (m : Nat) (w : Nat) (le : Int64) (v8 v9 v10 : Option Value), w < W → W - (w + 1) = m → le.toInt = ((bmS f nd v x y z w : Nat) : Int) → pvEv Tx 1 qX3_leastOf 24 [some (.ref 34), some (.int (nI W)), some (.int a), some (.int b), some (.int c), some (.long le), none, some (.int (nI (w + 1))), v8, v9, v10] [] M Q := by
  intro m
  induction m using Nat.strongRecOn with
  | _ m ih =>
    intro w le v8 v9 v10 hwW hm hle
    have hw9 : (nI (w + 1)).toInt = ((w + 1 : Nat) : Int) := nI_toInt (by omega)
    have hW9 : (nI W).toInt = (W : Int) := nI_toInt (by omega)
    refine pv_iload (pc := 24) (i := 7) rfl (fm_dec dtX3_leastOf 15 rfl) ?_
    refine pv_iloadn (pc := 26) (n := 1) 1 rfl rfl (fm_dec dtX3_leastOf 16 rfl) ?_
    refine pv_icmp_ge (pc := 27) 131 (by decide) (fm_dec dtX3_leastOf 17 rfl) (fun hc27 => ?_) (fun hc27 => ?_)
    · refine pv_lload (pc := 131) (i := 5) rfl (fm_dec dtX3_leastOf 75 rfl) ?_
      exact pv_lreturn (pc := 133) rfl (fm_dec dtX3_leastOf 76 rfl) (hq _ (by rw [show W - 1 = w by rw [sc_le] at hc27; omega]; exact hle))
    · have hlt : w + 1 < W := (by rw [sc_le] at hc27; omega)
      have i0 := ix3 (w := w + 1) (by omega)
      have i1 := ix3k (w := w + 1) (k := 1) (c := 1) (by omega) (by decide) (by decide)
      have i2 := ix3k (w := w + 1) (k := 2) (c := 2) (by omega) (by decide) (by decide)
      have n0 : (M.1 37 (3 * (w + 1))).toInt = ((nd (w + 1) 0 : Nat) : Int) := (hn (w + 1) 0 hlt (by decide)).1
      have n1 : (M.1 37 (3 * (w + 1) + 1)).toInt = ((nd (w + 1) 1 : Nat) : Int) := (hn (w + 1) 1 hlt (by decide)).1
      have n2 : (M.1 37 (3 * (w + 1) + 2)).toInt = ((nd (w + 1) 2 : Nat) : Int) := (hn (w + 1) 2 hlt (by decide)).1
      have k0 := (hn (w + 1) 0 hlt (by decide)).2
      have k1 := (hn (w + 1) 1 hlt (by decide)).2
      have k2 := (hn (w + 1) 2 hlt (by decide)).2
      have e0 : (a - M.1 37 (3 * (w + 1))).toInt = (x : Int) - (nd (w + 1) 0 : Nat) := (by rw [sc_sub (by omega) (by omega)]; omega)
      have e1 : (b - M.1 37 (3 * (w + 1) + 1)).toInt = (y : Int) - (nd (w + 1) 1 : Nat) := (by rw [sc_sub (by omega) (by omega)]; omega)
      have e2 : (c - M.1 37 (3 * (w + 1) + 2)).toInt = (z : Int) - (nd (w + 1) 2 : Nat) := (by rw [sc_sub (by omega) (by omega)]; omega)
      have z0 : (0 : Int32).toInt = 0 := (by decide)
      refine pv_iload (pc := 30) (i := 7) rfl (fm_dec dtX3_leastOf 18 rfl) ?_
      refine pv_bipush (pc := 32) (v := 8) (by decide) (fm_dec dtX3_leastOf 19 rfl) ?_
      refine pv_icmp_ge (pc := 34) 131 (by decide) (fm_dec dtX3_leastOf 20 rfl) (fun hc34 => by exfalso; rw [sc_le] at hc34; have z8 : (8 : Int32).toInt = 8 := (by decide); omega) (fun _ => ?_)
      refine pv_iloadn (pc := 37) (n := 2) 2 rfl rfl (fm_dec dtX3_leastOf 21 rfl) ?_
      refine pv_aloadn (pc := 38) (n := 0) 0 rfl rfl (fm_dec dtX3_leastOf 22 rfl) ?_
      refine pv_getR (k := 34) (j := 3) (ci := 3) (pc := 39) 37 rfl (by decide) pfl_X3_18 (by decide) rfl (by decide) (fm_dec dtX3_leastOf 23 rfl) ?_
      refine pv_iload (pc := 42) (i := 7) rfl (fm_dec dtX3_leastOf 24 rfl) ?_
      refine pv_iconst (pc := 44) (v := 3) (by decide) (fm_dec dtX3_leastOf 25 rfl) ?_
      refine pv_imul (pc := 45) (fm_dec dtX3_leastOf 26 rfl) ?_
      refine pv_iald (k := 37) (n := 24) (pc := 46) (by decide) rfl rfl (ix_in i0 (by omega)) (fm_dec dtX3_leastOf 27 rfl) ?_
      rw [i32_cl i0]
      refine pv_isub (pc := 47) (fm_dec dtX3_leastOf 28 rfl) ?_
      refine pv_istore (pc := 48) (i := 8) (by decide) rfl (fm_dec dtX3_leastOf 29 rfl) ?_
      dsimp only [List.set_cons_zero, List.set_cons_succ]
      refine pv_iloadn (pc := 50) (n := 3) 3 rfl rfl (fm_dec dtX3_leastOf 30 rfl) ?_
      refine pv_aloadn (pc := 51) (n := 0) 0 rfl rfl (fm_dec dtX3_leastOf 31 rfl) ?_
      refine pv_getR (k := 34) (j := 3) (ci := 3) (pc := 52) 37 rfl (by decide) pfl_X3_18 (by decide) rfl (by decide) (fm_dec dtX3_leastOf 32 rfl) ?_
      refine pv_iload (pc := 55) (i := 7) rfl (fm_dec dtX3_leastOf 33 rfl) ?_
      refine pv_iconst (pc := 57) (v := 3) (by decide) (fm_dec dtX3_leastOf 34 rfl) ?_
      refine pv_imul (pc := 58) (fm_dec dtX3_leastOf 35 rfl) ?_
      refine pv_iconst (pc := 59) (v := 1) (by decide) (fm_dec dtX3_leastOf 36 rfl) ?_
      refine pv_iadd (pc := 60) (fm_dec dtX3_leastOf 37 rfl) ?_
      refine pv_iald (k := 37) (n := 24) (pc := 61) (by decide) rfl rfl (ix_in i1 (by omega)) (fm_dec dtX3_leastOf 38 rfl) ?_
      rw [i32_cl i1]
      refine pv_isub (pc := 62) (fm_dec dtX3_leastOf 39 rfl) ?_
      refine pv_istore (pc := 63) (i := 9) (by decide) rfl (fm_dec dtX3_leastOf 40 rfl) ?_
      dsimp only [List.set_cons_zero, List.set_cons_succ]
      refine pv_iload (pc := 65) (i := 4) rfl (fm_dec dtX3_leastOf 41 rfl) ?_
      refine pv_aloadn (pc := 67) (n := 0) 0 rfl rfl (fm_dec dtX3_leastOf 42 rfl) ?_
      refine pv_getR (k := 34) (j := 3) (ci := 3) (pc := 68) 37 rfl (by decide) pfl_X3_18 (by decide) rfl (by decide) (fm_dec dtX3_leastOf 43 rfl) ?_
      refine pv_iload (pc := 71) (i := 7) rfl (fm_dec dtX3_leastOf 44 rfl) ?_
      refine pv_iconst (pc := 73) (v := 3) (by decide) (fm_dec dtX3_leastOf 45 rfl) ?_
      refine pv_imul (pc := 74) (fm_dec dtX3_leastOf 46 rfl) ?_
      refine pv_iconst (pc := 75) (v := 2) (by decide) (fm_dec dtX3_leastOf 47 rfl) ?_
      refine pv_iadd (pc := 76) (fm_dec dtX3_leastOf 48 rfl) ?_
      refine pv_iald (k := 37) (n := 24) (pc := 77) (by decide) rfl rfl (ix_in i2 (by omega)) (fm_dec dtX3_leastOf 49 rfl) ?_
      rw [i32_cl i2]
      refine pv_isub (pc := 78) (fm_dec dtX3_leastOf 50 rfl) ?_
      refine pv_istore (pc := 79) (i := 10) (by decide) rfl (fm_dec dtX3_leastOf 51 rfl) ?_
      dsimp only [List.set_cons_zero, List.set_cons_succ]
      refine pv_iload (pc := 81) (i := 8) rfl (fm_dec dtX3_leastOf 52 rfl) ?_
      refine pv_if_lt (pc := 83) 125 (by decide) (fm_dec dtX3_leastOf 53 rfl) (fun hc83 => ?_) (fun hc83 => ?_)
      · refine pv_iincc (pc := 125) 7 1 (by decide) rfl (by decide) rfl (fm_dec dtX3_leastOf 73 rfl) ?_
        dsimp only [List.set_cons_zero, List.set_cons_succ]
        refine pv_goto (pc := 128) 24 (by decide) (fm_dec dtX3_leastOf 74 rfl) ?_
        rw [nI_succ1]
        exact ih (W - (w + 1 + 1)) (by omega) (w + 1) _ _ _ _ hlt rfl (by rw [bm_f (fun h9 => by rw [sc_lt, e0] at hc83; omega)]; exact hle)
      · refine pv_iload (pc := 86) (i := 9) rfl (fm_dec dtX3_leastOf 54 rfl) ?_
        refine pv_if_lt (pc := 88) 125 (by decide) (fm_dec dtX3_leastOf 55 rfl) (fun hc88 => ?_) (fun hc88 => ?_)
        · refine pv_iincc (pc := 125) 7 1 (by decide) rfl (by decide) rfl (fm_dec dtX3_leastOf 73 rfl) ?_
          dsimp only [List.set_cons_zero, List.set_cons_succ]
          refine pv_goto (pc := 128) 24 (by decide) (fm_dec dtX3_leastOf 74 rfl) ?_
          rw [nI_succ1]
          exact ih (W - (w + 1 + 1)) (by omega) (w + 1) _ _ _ _ hlt rfl (by rw [bm_f (fun h9 => by rw [sc_lt, e1] at hc88; omega)]; exact hle)
        · refine pv_iload (pc := 91) (i := 10) rfl (fm_dec dtX3_leastOf 56 rfl) ?_
          refine pv_if_lt (pc := 93) 125 (by decide) (fm_dec dtX3_leastOf 57 rfl) (fun hc93 => ?_) (fun hc93 => ?_)
          · refine pv_iincc (pc := 125) 7 1 (by decide) rfl (by decide) rfl (fm_dec dtX3_leastOf 73 rfl) ?_
            dsimp only [List.set_cons_zero, List.set_cons_succ]
            refine pv_goto (pc := 128) 24 (by decide) (fm_dec dtX3_leastOf 74 rfl) ?_
            rw [nI_succ1]
            exact ih (W - (w + 1 + 1)) (by omega) (w + 1) _ _ _ _ hlt rfl (by rw [bm_f (fun h9 => by rw [sc_lt, e2] at hc93; omega)]; exact hle)
          · have f0 : nd (w + 1) 0 ≤ x := (by rw [sc_lt, e0] at hc83; omega)
            have f1 : nd (w + 1) 1 ≤ y := (by rw [sc_lt, e1] at hc88; omega)
            have f2 : nd (w + 1) 2 ≤ z := (by rw [sc_lt, e2] at hc93; omega)
            refine pv_lload (pc := 96) (i := 5) rfl (fm_dec dtX3_leastOf 58 rfl) ?_
            refine pv_aloadn (pc := 98) (n := 0) 0 rfl rfl (fm_dec dtX3_leastOf 59 rfl) ?_
            refine pv_getR (k := 34) (j := 1) (ci := 3) (pc := 99) 35 rfl (by decide) pfl_X3_11 (by decide) rfl (by decide) (fm_dec dtX3_leastOf 60 rfl) ?_
            refine pv_iload (pc := 102) (i := 8) rfl (fm_dec dtX3_leastOf 61 rfl) ?_
            refine pv_iload (pc := 104) (i := 9) rfl (fm_dec dtX3_leastOf 62 rfl) ?_
            refine pv_iload (pc := 106) (i := 10) rfl (fm_dec dtX3_leastOf 63 rfl) ?_
            refine pv_iS3 (d' := 0) (pc := 108) pcs_X3_90 (Nat.le_of_ble_eq_true rfl) (by decide) (fm_dec dtX3_leastOf 64 rfl) ?_
            refine c_xcell (x := x - nd (w + 1) 0) (y := y - nd (w + 1) 1) (z := z - nd (w + 1) 2) (by rw [e0]; omega) (by rw [e1]; omega) (by rw [e2]; omega) (by omega) (by omega) (by omega) (fun r108 h108 => ?_)
            refine pv_then1 ?_
            refine pv_lald (k := 35) (n := 2197) (pc := 111) (by decide) rfl rfl (ix_in h108 (ci_b (by omega) (by omega) (by omega))) (fm_dec dtX3_leastOf 65 rfl) ?_
            rw [i32_cl h108]
            refine pv_aloadn (pc := 112) (n := 0) 0 rfl rfl (fm_dec dtX3_leastOf 66 rfl) ?_
            refine pv_getR (k := 34) (j := 2) (ci := 3) (pc := 113) 36 rfl (by decide) pfl_X3_15 (by decide) rfl (by decide) (fm_dec dtX3_leastOf 67 rfl) ?_
            refine pv_iload (pc := 116) (i := 7) rfl (fm_dec dtX3_leastOf 68 rfl) ?_
            refine pv_lald (k := 36) (n := 8) (pc := 118) (by decide) rfl rfl (ix_in hw9 (by omega)) (fm_dec dtX3_leastOf 69 rfl) ?_
            rw [i32_cl hw9]
            refine pv_ladd (pc := 119) (fm_dec dtX3_leastOf 70 rfl) ?_
            refine pv_ml (pc := 120) pln_X3_113 plc_X3_113 pml_X3_113 (by decide) (Nat.le_of_ble_eq_true rfl) (fm_dec dtX3_leastOf 71 rfl) ?_
            refine pv_lstore (pc := 123) (i := 5) (by decide) rfl (fm_dec dtX3_leastOf 72 rfl) ?_
            dsimp only [List.set_cons_zero, List.set_cons_succ]
            refine pv_iincc (pc := 125) 7 1 (by decide) rfl (by decide) rfl (fm_dec dtX3_leastOf 73 rfl) ?_
            dsimp only [List.set_cons_zero, List.set_cons_succ]
            refine pv_goto (pc := 128) 24 (by decide) (fm_dec dtX3_leastOf 74 rfl) ?_
            rw [nI_succ1]
            have hcell := hf (x - nd (w + 1) 0) (y - nd (w + 1) 1) (z - nd (w + 1) 2) (Nat.sub_le _ _) (Nat.sub_le _ _) (Nat.sub_le _ _)
            have hval := hv (w + 1) hlt
            have hb9 := hfb (x - nd (w + 1) 0) (y - nd (w + 1) 1) (z - nd (w + 1) 2)
            exact ih (W - (w + 1 + 1)) (by omega) (w + 1) _ _ _ _ hlt rfl (by rw [mxl_f, hle, ja_n hcell hval.1 (by omega), mn_c, bm_t ⟨f0, f1, f2⟩])
set_option maxRecDepth 20000 in
theorem c_xleast {M : fmM} {Q : fmR → fmM → Prop} {f : Nat → Nat → Nat → Nat} {nd : Nat → Nat → Nat} {v : Nat → Nat} {W : Nat} {x y z : Nat} {a b c : Int32} (hW : 1 ≤ W ∧ W ≤ 8) (hfb : ∀ x y z, f x y z ≤ 2100000000000000000) (hv : ∀ w, w < W → (M.2 36 w).toInt = ((v w : Nat) : Int) ∧ v w ≤ 300000000000000000) (hn : ∀ w k, w < W → k < 3 → (M.1 37 (3 * w + k)).toInt = ((nd w k : Nat) : Int) ∧ nd w k ≤ 99) (ha : a.toInt = (x : Int)) (hb : b.toInt = (y : Int)) (hc : c.toInt = (z : Int)) (hx : x ≤ 12) (hy : y ≤ 12) (hz : z ≤ 12) (hf : ∀ x' y' z', x' ≤ x → y' ≤ y → z' ≤ z → (M.2 35 ((13 * x' + y') * 13 + z')).toInt = ((f x' y' z' : Nat) : Int)) (hq : ∀ r : Int64, r.toInt = ((bmS f nd v x y z (W - 1) : Nat) : Int) → Q (.inl (some (.long r))) M) : pvGood Tx 1 qX3_leastOf [.ref 34, .int (nI W), .int a, .int b, .int c] M Q := by
  refine pvGood_of (Nat.le_of_ble_eq_true rfl) ?_
  show pvEv Tx 1 qX3_leastOf 0 [some (.ref 34), some (.int (nI W)), some (.int a), some (.int b), some (.int c), none, none, none, none, none, none] [] M Q
  refine pv_aloadn (pc := 0) (n := 0) 0 rfl rfl (fm_dec dtX3_leastOf 0 rfl) ?_
  refine pv_getR (k := 34) (j := 1) (ci := 3) (pc := 1) 35 rfl (by decide) pfl_X3_11 (by decide) rfl (by decide) (fm_dec dtX3_leastOf 1 rfl) ?_
  refine pv_iloadn (pc := 4) (n := 2) 2 rfl rfl (fm_dec dtX3_leastOf 2 rfl) ?_
  refine pv_iloadn (pc := 5) (n := 3) 3 rfl rfl (fm_dec dtX3_leastOf 3 rfl) ?_
  refine pv_iload (pc := 6) (i := 4) rfl (fm_dec dtX3_leastOf 4 rfl) ?_
  refine pv_iS3 (d' := 0) (pc := 8) pcs_X3_90 (Nat.le_of_ble_eq_true rfl) (by decide) (fm_dec dtX3_leastOf 5 rfl) ?_
  refine c_xcell ha hb hc hx hy hz (fun r8 h8 => ?_)
  refine pv_then1 ?_
  refine pv_lald (k := 35) (n := 2197) (pc := 11) (by decide) rfl rfl (ix_in h8 (ci_b hx hy hz)) (fm_dec dtX3_leastOf 6 rfl) ?_
  rw [i32_cl h8]
  refine pv_aloadn (pc := 12) (n := 0) 0 rfl rfl (fm_dec dtX3_leastOf 7 rfl) ?_
  refine pv_getR (k := 34) (j := 2) (ci := 3) (pc := 13) 36 rfl (by decide) pfl_X3_15 (by decide) rfl (by decide) (fm_dec dtX3_leastOf 8 rfl) ?_
  refine pv_iconst (pc := 16) (v := 0) (by decide) (fm_dec dtX3_leastOf 9 rfl) ?_
  refine pv_lald (k := 36) (n := 8) (pc := 17) (by decide) rfl rfl (ix_in (show (0 : Int32).toInt = ((0 : Nat) : Int) by decide) (by decide)) (fm_dec dtX3_leastOf 10 rfl) ?_
  refine pv_ladd (pc := 18) (fm_dec dtX3_leastOf 11 rfl) ?_
  refine pv_lstore (pc := 19) (i := 5) (by decide) rfl (fm_dec dtX3_leastOf 12 rfl) ?_
  dsimp only [List.set_cons_zero, List.set_cons_succ]
  refine pv_iconst (pc := 21) (v := 1) (by decide) (fm_dec dtX3_leastOf 13 rfl) ?_
  refine pv_istore (pc := 22) (i := 7) (by decide) rfl (fm_dec dtX3_leastOf 14 rfl) ?_
  dsimp only [List.set_cons_zero, List.set_cons_succ]
  exact xlo_loop hW hfb hv hn ha hb hc hx hy hz hf hq (W - 1) 0 _ _ _ _ (by omega) (by omega) (by show _ = ((f x y z + v 0 : Nat) : Int); exact ja_n (hf x y z (Nat.le_refl _) (Nat.le_refl _) (Nat.le_refl _)) (hv 0 (by omega)).1 (by have h1 := hfb x y z; have h2 := (hv 0 (by omega)).2; omega))
set_option maxRecDepth 20000 in
theorem xal_3 {Q : fmR → fmM → Prop} {M0 : fmM} {f : Nat → Nat → Nat → Nat} {nd : Nat → Nat → Nat} {v : Nat → Nat} {W : Nat} {m0 m1 m2 : Nat} (hW : 1 ≤ W ∧ W ≤ 8) (hfb : ∀ x y z, f x y z ≤ 2100000000000000000) (hv : ∀ w, w < W → (M0.2 36 w).toInt = ((v w : Nat) : Int) ∧ v w ≤ 300000000000000000) (hn : ∀ w k, w < W → k < 3 → (M0.1 37 (3 * w + k)).toInt = ((nd w k : Nat) : Int) ∧ nd w k ≤ 99) (b0 : m0 ≤ 12) (b1 : m1 ≤ 12) (b2 : m2 ≤ 12) (g0 : (M0.1 38 0).toInt = (m0 : Int)) (g1 : (M0.1 38 1).toInt = (m1 : Int)) (g2 : (M0.1 38 2).toInt = (m2 : Int)) {a b : Int32} {x y : Nat} (ha : a.toInt = (x : Int)) (hx : x ≤ m0) (hb : b.toInt = (y : Int)) (hy : y ≤ m1) (hq : ∀ (M' : fmM) (c' : Int32), ceP M' (miS f (fun x y z => bmS f nd v x y z (W - 1)) (x + 1) (y + 1) 0) m0 m1 m2 → M'.1 = M0.1 → (∀ k j, k ≠ 35 → M'.2 k j = M0.2 k j) →  pvEv Tx 2 qX3_addLife 62 [some (.ref 34), some (.int (nI W)), some (.int a), some (.int b), some (.int c')] [] M' Q) : ∀ (C : Nat) (M : fmM) (c : Int32), C ≤ m2 + 1 → c.toInt = (C : Int) - 1 → ceP M (miS f (fun x y z => bmS f nd v x y z (W - 1)) (x + 1) (y + 1) C) m0 m1 m2 → M.1 = M0.1 → (∀ k j, k ≠ 35 → M.2 k j = M0.2 k j) → pvEv Tx 2 qX3_addLife 30 [some (.ref 34), some (.int (nI W)), some (.int a), some (.int b), some (.int c)] [] M Q := by
  intro C
  induction C with
  | zero =>
    intro M c hCm hc hC h1 h2
    refine pv_iload (pc := 30) (i := 4) rfl (fm_dec dtX3_addLife 19 rfl) ?_
    refine pv_if_lt (pc := 32) 62 (by decide) (fm_dec dtX3_addLife 20 rfl) (fun _ => ?_) (fun hc32 => by exfalso; apply hc32; rw [sc_lt]; have z0 : (0 : Int32).toInt = 0 := (by decide); omega)
    exact hq M _ hC h1 h2
  | succ C ih =>
    intro M c hCm hc hC h1 h2
    refine pv_iload (pc := 30) (i := 4) rfl (fm_dec dtX3_addLife 19 rfl) ?_
    refine pv_if_lt (pc := 32) 62 (by decide) (fm_dec dtX3_addLife 20 rfl) (fun hc32 => by exfalso; rw [sc_lt] at hc32; have z0 : (0 : Int32).toInt = 0 := (by decide); omega) (fun _ => ?_)
    have hv' : ∀ w, w < W → (M.2 36 w).toInt = ((v w : Nat) : Int) ∧ v w ≤ 300000000000000000 := fun w hw => (by rw [h2 36 w (by decide)]; exact hv w hw)
    have hn' : ∀ w k, w < W → k < 3 → (M.1 37 (3 * w + k)).toInt = ((nd w k : Nat) : Int) ∧ nd w k ≤ 99 := fun w k hw hk => (by rw [h1]; exact hn w k hw hk)
    have hc9 : c.toInt = (C : Int) := (by omega)
    refine pv_aloadn (pc := 35) (n := 0) 0 rfl rfl (fm_dec dtX3_addLife 21 rfl) ?_
    refine pv_getR (k := 34) (j := 1) (ci := 3) (pc := 36) 35 rfl (by decide) pfl_X3_11 (by decide) rfl (by decide) (fm_dec dtX3_addLife 22 rfl) ?_
    refine pv_iloadn (pc := 39) (n := 2) 2 rfl rfl (fm_dec dtX3_addLife 23 rfl) ?_
    refine pv_iloadn (pc := 40) (n := 3) 3 rfl rfl (fm_dec dtX3_addLife 24 rfl) ?_
    refine pv_iload (pc := 41) (i := 4) rfl (fm_dec dtX3_addLife 25 rfl) ?_
    refine pv_iS3 (d' := 0) (pc := 43) pcs_X3_90 (Nat.le_of_ble_eq_true rfl) (by decide) (fm_dec dtX3_addLife 26 rfl) ?_
    refine c_xcell ha hb hc9 (by omega) (by omega) (by omega) (fun r43 h43 => ?_)
    refine pv_then1 ?_
    refine pv_aloadn (pc := 46) (n := 0) 0 rfl rfl (fm_dec dtX3_addLife 27 rfl) ?_
    refine pv_iloadn (pc := 47) (n := 1) 1 rfl rfl (fm_dec dtX3_addLife 28 rfl) ?_
    refine pv_iloadn (pc := 48) (n := 2) 2 rfl rfl (fm_dec dtX3_addLife 29 rfl) ?_
    refine pv_iloadn (pc := 49) (n := 3) 3 rfl rfl (fm_dec dtX3_addLife 30 rfl) ?_
    refine pv_iload (pc := 50) (i := 4) rfl (fm_dec dtX3_addLife 31 rfl) ?_
    refine pv_invV4 (k := 34) (d' := 1) (pc := 52) pcv_X3_109 (by decide) rfl (Nat.le_of_ble_eq_true rfl) (by decide) (fm_dec dtX3_addLife 32 rfl) ?_
    refine c_xleast hW hfb hv' hn' ha hb hc9 (by omega) (by omega) (by omega) (fun x' y' z' p q r => by rw [hC x' y' z' (by omega) (by omega) (by omega), mi_f (by omega)]) (fun r52 h52 => ?_)
    refine pv_then1 ?_
    refine pv_last (k := 35) (n := 2197) (pc := 55) (by decide) rfl rfl (ix_in h43 (ci_b (by omega) (by omega) (by omega))) (fm_dec dtX3_addLife 33 rfl) ?_
    refine pv_iincc (pc := 56) 4 (-1) (by decide) rfl (by decide) rfl (fm_dec dtX3_addLife 34 rfl) ?_
    dsimp only [List.set_cons_zero, List.set_cons_succ]
    refine pv_goto (pc := 59) 30 (by decide) (fm_dec dtX3_addLife 35 rfl) ?_
    rw [i32_cl h43]
    exact ih _ _ (by omega) (by have z1 : (1 : Int32).toInt = 1 := (by decide); have zm : (-1 : Int32).toInt = -1 := (by decide); rw [sc_add (by omega) (by omega)]; omega) (hC.put (by omega) (by omega) (by omega) b0 b1 b2 h52) h1 (fun k j hk => by rw [fmJ_k2 hk]; exact h2 k j hk)
set_option maxRecDepth 20000 in
theorem xal_2 {Q : fmR → fmM → Prop} {M0 : fmM} {f : Nat → Nat → Nat → Nat} {nd : Nat → Nat → Nat} {v : Nat → Nat} {W : Nat} {m0 m1 m2 : Nat} (hW : 1 ≤ W ∧ W ≤ 8) (hfb : ∀ x y z, f x y z ≤ 2100000000000000000) (hv : ∀ w, w < W → (M0.2 36 w).toInt = ((v w : Nat) : Int) ∧ v w ≤ 300000000000000000) (hn : ∀ w k, w < W → k < 3 → (M0.1 37 (3 * w + k)).toInt = ((nd w k : Nat) : Int) ∧ nd w k ≤ 99) (b0 : m0 ≤ 12) (b1 : m1 ≤ 12) (b2 : m2 ≤ 12) (g0 : (M0.1 38 0).toInt = (m0 : Int)) (g1 : (M0.1 38 1).toInt = (m1 : Int)) (g2 : (M0.1 38 2).toInt = (m2 : Int)) {a : Int32} {x : Nat} (ha : a.toInt = (x : Int)) (hx : x ≤ m0) (hq : ∀ (M' : fmM) (b' : Int32) (v4 : Option Value), ceP M' (miS f (fun x y z => bmS f nd v x y z (W - 1)) (x + 1) 0 (m2 + 1)) m0 m1 m2 → M'.1 = M0.1 → (∀ k j, k ≠ 35 → M'.2 k j = M0.2 k j) →  pvEv Tx 2 qX3_addLife 68 [some (.ref 34), some (.int (nI W)), some (.int a), some (.int b'), v4] [] M' Q) : ∀ (B : Nat) (M : fmM) (b : Int32) (v4 : Option Value), B ≤ m1 + 1 → b.toInt = (B : Int) - 1 → ceP M (miS f (fun x y z => bmS f nd v x y z (W - 1)) (x + 1) B (m2 + 1)) m0 m1 m2 → M.1 = M0.1 → (∀ k j, k ≠ 35 → M.2 k j = M0.2 k j) → pvEv Tx 2 qX3_addLife 18 [some (.ref 34), some (.int (nI W)), some (.int a), some (.int b), v4] [] M Q := by
  intro B
  induction B with
  | zero =>
    intro M b v4 hBm hb hC h1 h2
    refine pv_iloadn (pc := 18) (n := 3) 3 rfl rfl (fm_dec dtX3_addLife 12 rfl) ?_
    refine pv_if_lt (pc := 19) 68 (by decide) (fm_dec dtX3_addLife 13 rfl) (fun _ => ?_) (fun hc19 => by exfalso; apply hc19; rw [sc_lt]; have z0 : (0 : Int32).toInt = 0 := (by decide); omega)
    exact hq M _ _ hC h1 h2
  | succ B ih =>
    intro M b v4 hBm hb hC h1 h2
    refine pv_iloadn (pc := 18) (n := 3) 3 rfl rfl (fm_dec dtX3_addLife 12 rfl) ?_
    refine pv_if_lt (pc := 19) 68 (by decide) (fm_dec dtX3_addLife 13 rfl) (fun hc19 => by exfalso; rw [sc_lt] at hc19; have z0 : (0 : Int32).toInt = 0 := (by decide); omega) (fun _ => ?_)
    have hb9 : b.toInt = (B : Int) := (by omega)
    refine pv_aloadn (pc := 22) (n := 0) 0 rfl rfl (fm_dec dtX3_addLife 14 rfl) ?_
    refine pv_getR (k := 34) (j := 4) (ci := 3) (pc := 23) 38 rfl (by decide) pfl_X3_22 (by decide) rfl (by decide) (fm_dec dtX3_addLife 15 rfl) ?_
    refine pv_iconst (pc := 26) (v := 2) (by decide) (fm_dec dtX3_addLife 16 rfl) ?_
    refine pv_iald (k := 38) (n := 3) (pc := 27) (by decide) rfl rfl (fm_inl (by decide)) (fm_dec dtX3_addLife 17 rfl) ?_
    refine pv_istore (pc := 28) (i := 4) (by decide) rfl (fm_dec dtX3_addLife 18 rfl) ?_
    dsimp only [List.set_cons_zero, List.set_cons_succ]
    refine xal_3 hW hfb hv hn b0 b1 b2 g0 g1 g2 ha hx hb9 (by omega) (fun M3 c3 hC3 k1 k2 => ?_) (m2 + 1) _ _ (Nat.le_refl _) (by have e9 : (M.1 38 (Int32.toNatClampNeg 2)).toInt = (m2 : Int) := (by rw [h1]; exact g2); omega) (hC.of rfl (fun x' y' z' p q r => mi_e (by omega))) h1 h2
    refine pv_iincc (pc := 62) 3 (-1) (by decide) rfl (by decide) rfl (fm_dec dtX3_addLife 36 rfl) ?_
    dsimp only [List.set_cons_zero, List.set_cons_succ]
    refine pv_goto (pc := 65) 18 (by decide) (fm_dec dtX3_addLife 37 rfl) ?_
    exact ih _ _ _ (by omega) (by have zm : (-1 : Int32).toInt = -1 := (by decide); rw [sc_add (by omega) (by omega)]; omega) (hC3.of rfl (fun x' y' z' p q r => mi_e (by omega))) k1 k2
set_option maxRecDepth 20000 in
theorem xal_1 {Q : fmR → fmM → Prop} {M0 : fmM} {f : Nat → Nat → Nat → Nat} {nd : Nat → Nat → Nat} {v : Nat → Nat} {W : Nat} {m0 m1 m2 : Nat} (hW : 1 ≤ W ∧ W ≤ 8) (hfb : ∀ x y z, f x y z ≤ 2100000000000000000) (hv : ∀ w, w < W → (M0.2 36 w).toInt = ((v w : Nat) : Int) ∧ v w ≤ 300000000000000000) (hn : ∀ w k, w < W → k < 3 → (M0.1 37 (3 * w + k)).toInt = ((nd w k : Nat) : Int) ∧ nd w k ≤ 99) (b0 : m0 ≤ 12) (b1 : m1 ≤ 12) (b2 : m2 ≤ 12) (g0 : (M0.1 38 0).toInt = (m0 : Int)) (g1 : (M0.1 38 1).toInt = (m1 : Int)) (g2 : (M0.1 38 2).toInt = (m2 : Int)) (hq : ∀ M' : fmM, ceP M' (fun x y z => bmS f nd v x y z (W - 1)) m0 m1 m2 → M'.1 = M0.1 → (∀ k j, k ≠ 35 → M'.2 k j = M0.2 k j) →  Q (.inl none) M') : ∀ (A : Nat) (M : fmM) (a : Int32) (v3 v4 : Option Value), A ≤ m0 + 1 → a.toInt = (A : Int) - 1 → ceP M (miS f (fun x y z => bmS f nd v x y z (W - 1)) A (m1 + 1) (m2 + 1)) m0 m1 m2 → M.1 = M0.1 → (∀ k j, k ≠ 35 → M.2 k j = M0.2 k j) → pvEv Tx 2 qX3_addLife 7 [some (.ref 34), some (.int (nI W)), some (.int a), v3, v4] [] M Q := by
  intro A
  induction A with
  | zero =>
    intro M a v3 v4 hAm ha hC h1 h2
    refine pv_iloadn (pc := 7) (n := 2) 2 rfl rfl (fm_dec dtX3_addLife 5 rfl) ?_
    refine pv_if_lt (pc := 8) 74 (by decide) (fm_dec dtX3_addLife 6 rfl) (fun _ => ?_) (fun hc8 => by exfalso; apply hc8; rw [sc_lt]; have z0 : (0 : Int32).toInt = 0 := (by decide); omega)
    exact pv_return (pc := 74) rfl (fm_dec dtX3_addLife 40 rfl) (hq M (hC.of rfl (fun x' y' z' p q r => by rw [mi_g (Or.inl (Nat.zero_le _))])) h1 h2)
  | succ A ih =>
    intro M a v3 v4 hAm ha hC h1 h2
    refine pv_iloadn (pc := 7) (n := 2) 2 rfl rfl (fm_dec dtX3_addLife 5 rfl) ?_
    refine pv_if_lt (pc := 8) 74 (by decide) (fm_dec dtX3_addLife 6 rfl) (fun hc8 => by exfalso; rw [sc_lt] at hc8; have z0 : (0 : Int32).toInt = 0 := (by decide); omega) (fun _ => ?_)
    have ha9 : a.toInt = (A : Int) := (by omega)
    refine pv_aloadn (pc := 11) (n := 0) 0 rfl rfl (fm_dec dtX3_addLife 7 rfl) ?_
    refine pv_getR (k := 34) (j := 4) (ci := 3) (pc := 12) 38 rfl (by decide) pfl_X3_22 (by decide) rfl (by decide) (fm_dec dtX3_addLife 8 rfl) ?_
    refine pv_iconst (pc := 15) (v := 1) (by decide) (fm_dec dtX3_addLife 9 rfl) ?_
    refine pv_iald (k := 38) (n := 3) (pc := 16) (by decide) rfl rfl (fm_inl (by decide)) (fm_dec dtX3_addLife 10 rfl) ?_
    refine pv_istoren (pc := 17) (n := 3) 3 rfl (by decide) rfl (fm_dec dtX3_addLife 11 rfl) ?_
    dsimp only [List.set_cons_zero, List.set_cons_succ]
    refine xal_2 hW hfb hv hn b0 b1 b2 g0 g1 g2 ha9 (by omega) (fun M3 b3 w4 hC3 k1 k2 => ?_) (m1 + 1) _ _ _ (Nat.le_refl _) (by have e9 : (M.1 38 (Int32.toNatClampNeg 1)).toInt = (m1 : Int) := (by rw [h1]; exact g1); omega) (hC.of rfl (fun x' y' z' p q r => mi_e (by omega))) h1 h2
    refine pv_iincc (pc := 68) 2 (-1) (by decide) rfl (by decide) rfl (fm_dec dtX3_addLife 38 rfl) ?_
    dsimp only [List.set_cons_zero, List.set_cons_succ]
    refine pv_goto (pc := 71) 7 (by decide) (fm_dec dtX3_addLife 39 rfl) ?_
    exact ih _ _ _ _ (by omega) (by have zm : (-1 : Int32).toInt = -1 := (by decide); rw [sc_add (by omega) (by omega)]; omega) (hC3.of rfl (fun x' y' z' p q r => mi_e (by omega))) k1 k2
set_option maxRecDepth 20000 in
theorem c_xadd {M : fmM} {Q : fmR → fmM → Prop} {f : Nat → Nat → Nat → Nat} {nd : Nat → Nat → Nat} {v : Nat → Nat} {W : Nat} {m0 m1 m2 : Nat} (hW : 1 ≤ W ∧ W ≤ 8) (hfb : ∀ x y z, f x y z ≤ 2100000000000000000) (hv : ∀ w, w < W → (M.2 36 w).toInt = ((v w : Nat) : Int) ∧ v w ≤ 300000000000000000) (hn : ∀ w k, w < W → k < 3 → (M.1 37 (3 * w + k)).toInt = ((nd w k : Nat) : Int) ∧ nd w k ≤ 99) (b0 : m0 ≤ 12) (b1 : m1 ≤ 12) (b2 : m2 ≤ 12) (g0 : (M.1 38 0).toInt = (m0 : Int)) (g1 : (M.1 38 1).toInt = (m1 : Int)) (g2 : (M.1 38 2).toInt = (m2 : Int)) (hC : ceP M f m0 m1 m2) (hq : ∀ M' : fmM, ceP M' (fun x y z => bmS f nd v x y z (W - 1)) m0 m1 m2 → M'.1 = M.1 → (∀ k j, k ≠ 35 → M'.2 k j = M.2 k j) → Q (.inl none) M') : pvGood Tx 2 qX3_addLife [.ref 34, .int (nI W)] M Q := by
  refine pvGood_of (Nat.le_of_ble_eq_true rfl) ?_
  show pvEv Tx 2 qX3_addLife 0 [some (.ref 34), some (.int (nI W)), none, none, none] [] M Q
  refine pv_aloadn (pc := 0) (n := 0) 0 rfl rfl (fm_dec dtX3_addLife 0 rfl) ?_
  refine pv_getR (k := 34) (j := 4) (ci := 3) (pc := 1) 38 rfl (by decide) pfl_X3_22 (by decide) rfl (by decide) (fm_dec dtX3_addLife 1 rfl) ?_
  refine pv_iconst (pc := 4) (v := 0) (by decide) (fm_dec dtX3_addLife 2 rfl) ?_
  refine pv_iald (k := 38) (n := 3) (pc := 5) (by decide) rfl rfl (fm_inl (by decide)) (fm_dec dtX3_addLife 3 rfl) ?_
  refine pv_istoren (pc := 6) (n := 2) 2 rfl (by decide) rfl (fm_dec dtX3_addLife 4 rfl) ?_
  dsimp only [List.set_cons_zero, List.set_cons_succ]
  exact xal_1 hW hfb hv hn b0 b1 b2 g0 g1 g2 hq (m0 + 1) M _ _ _ (Nat.le_refl _) (by have e9 : (M.1 38 (Int32.toNatClampNeg 0)).toInt = (m0 : Int) := g0; omega) (hC.of rfl (fun x' y' z' p q r => mi_f (by omega))) rfl (fun _ _ _ => rfl)
set_option maxRecDepth 20000 in
theorem c_xks {M : fmM} {Q : fmR → fmM → Prop} {x : Int32} (hq : Q (.inl (some (.int (8 * (2 - x))))) M) : pvGood Tx 0 qX3_keyShift [.int x] M Q := by
  refine pvGood_of (Nat.le_of_ble_eq_true rfl) ?_
  show pvEv Tx 0 qX3_keyShift 0 [some (.int x)] [] M Q
  refine pv_bipush (pc := 0) (v := 8) (by decide) (fm_dec dtX3_keyShift 0 rfl) ?_
  refine pv_iconst (pc := 2) (v := 2) (by decide) (fm_dec dtX3_keyShift 1 rfl) ?_
  refine pv_iloadn (pc := 3) (n := 0) 0 rfl rfl (fm_dec dtX3_keyShift 2 rfl) ?_
  refine pv_isub (pc := 4) (fm_dec dtX3_keyShift 3 rfl) ?_
  refine pv_imul (pc := 5) (fm_dec dtX3_keyShift 4 rfl) ?_
  exact pv_ireturn (pc := 6) rfl (fm_dec dtX3_keyShift 5 rfl) hq
set_option maxRecDepth 20000 in
theorem c_xhag {M : fmM} {Q : fmR → fmM → Prop} {D : dD} {i : Nat} {ag : Int32} {A : Int} (hD : dOk D) (hX : xdw 3 M D) (hi : i < D.1) (hg : ag.toInt = A) (hq : ∀ r : Int32, r.toInt = ((if A = 0 then 99 else if A = -1 then (D.2.1 i 3).toNat else max 1 ((D.2.1 i 3).toNat / (D.2.2.2.2 5).toNat) : Nat) : Int) → Q (.inl (some (.int r))) M) : pvGood Tx 2 qX3_hoursAtAge [.ref 34, .int (nI i), .int ag] M Q := by
  refine pvGood_of (Nat.le_of_ble_eq_true rfl) ?_
  show pvEv Tx 2 qX3_hoursAtAge 0 [some (.ref 34), some (.int (nI i)), some (.int ag)] [] M Q
  have d8 := hD.1
  have hi9 : (nI i).toInt = (i : Int) := nI_toInt (by omega)
  have z0 : (0 : Int32).toInt = 0 := (by decide)
  have zm : (-1 : Int32).toInt = -1 := (by decide)
  have g8 : (M.1 7 i).toInt = D.2.1 i 3 := hX.2.1 i hi 3 (by decide)
  have b3 := (hD.2.2.1 i hi).2.2.2.1
  refine pv_iloadn (pc := 0) (n := 2) 2 rfl rfl (fm_dec dtX3_hoursAtAge 0 rfl) ?_
  refine pv_if_ne (pc := 1) 7 (by decide) (fm_dec dtX3_hoursAtAge 1 rfl) (fun hc1 => ?_) (fun hc1 => ?_)
  · refine pv_iloadn (pc := 7) (n := 2) 2 rfl rfl (fm_dec dtX3_hoursAtAge 4 rfl) ?_
    refine pv_iconst (pc := 8) (v := (-1)) (by decide) (fm_dec dtX3_hoursAtAge 5 rfl) ?_
    refine pv_icmp_ne (pc := 9) 27 (by decide) (fm_dec dtX3_hoursAtAge 6 rfl) (fun hc9 => ?_) (fun hc9 => ?_)
    · refine pv_aloadn (pc := 27) (n := 0) 0 rfl rfl (fm_dec dtX3_hoursAtAge 14 rfl) ?_
      refine pv_getR (k := 34) (j := 0) (ci := 3) (pc := 28) 32 rfl (by decide) pfl_X3_25 (by decide) rfl (by decide) (fm_dec dtX3_hoursAtAge 15 rfl) ?_
      refine pv_getR (k := 32) (j := 0) (ci := 0) (pc := 31) 3 rfl (by decide) pfl_X3_52 (by decide) rfl (by decide) (fm_dec dtX3_hoursAtAge 16 rfl) ?_
      refine pv_iloadn (pc := 34) (n := 1) 1 rfl rfl (fm_dec dtX3_hoursAtAge 17 rfl) ?_
      refine pv_invV1 (k := 3) (d' := 1) (pc := 35) pcv_X3_106 (by decide) rfl (Nat.le_of_ble_eq_true rfl) (by decide) (fm_dec dtX3_hoursAtAge 18 rfl) ?_
      refine c_xrenew hD hX hi (fun r35 h35 => ?_)
      refine pv_then1 ?_
      exact pv_ireturn (pc := 38) rfl (fm_dec dtX3_hoursAtAge 19 rfl) (hq _ (by rw [if_neg (fun e => hc1 (i32_ext (by omega))), if_neg (fun e => hc9 (i32_ext (by omega)))]; exact h35))
    · refine pv_aloadn (pc := 12) (n := 0) 0 rfl rfl (fm_dec dtX3_hoursAtAge 7 rfl) ?_
      refine pv_getR (k := 34) (j := 0) (ci := 3) (pc := 13) 32 rfl (by decide) pfl_X3_25 (by decide) rfl (by decide) (fm_dec dtX3_hoursAtAge 8 rfl) ?_
      refine pv_getR (k := 32) (j := 0) (ci := 0) (pc := 16) 3 rfl (by decide) pfl_X3_52 (by decide) rfl (by decide) (fm_dec dtX3_hoursAtAge 9 rfl) ?_
      refine pv_getR (k := 3) (j := 3) (ci := 8) (pc := 19) 7 rfl (by decide) pfl_X3_104 (by decide) rfl (by decide) (fm_dec dtX3_hoursAtAge 10 rfl) ?_
      refine pv_iloadn (pc := 22) (n := 1) 1 rfl rfl (fm_dec dtX3_hoursAtAge 11 rfl) ?_
      refine pv_iald (k := 7) (n := 8) (pc := 23) (by decide) rfl rfl (ix_in hi9 (by omega)) (fm_dec dtX3_hoursAtAge 12 rfl) ?_
      rw [i32_cl hi9]
      refine pv_goto (pc := 24) 38 (by decide) (fm_dec dtX3_hoursAtAge 13 rfl) ?_
      exact pv_ireturn (pc := 38) rfl (fm_dec dtX3_hoursAtAge 19 rfl) (hq _ (by rw [if_neg (fun e => hc1 (i32_ext (by omega))), if_pos (show A = -1 by rw [← hg, hc9]; exact zm), g8]; omega))
  · refine pv_bipush (pc := 4) (v := 99) (by decide) (fm_dec dtX3_hoursAtAge 2 rfl) ?_
    exact pv_ireturn (pc := 6) rfl (fm_dec dtX3_hoursAtAge 3 rfl) (hq _ (by rw [if_pos (show A = 0 by rw [← hg, hc1]; exact z0)]; decide))
set_option maxRecDepth 20000 in
theorem xww_2 {Q : fmR → fmM → Prop} {M0 : fmM} {D : dD} {cs : tC} {S : aS} {i n : Nat} (h0 : xAq M0 D cs S) (hi : i < D.1) (h1n : 1 ≤ n) (h3n : n ≤ 3) {w : Nat} (hw : w < 2 ^ n) (hq : ∀ (M : fmM) (ag : Int32) (k9 : Int32) (v9 : Option Value), (∀ w' k', w' < w → k' < 3 → (M.1 37 (3 * w' + k')).toInt = ((ndS D S i w' k' : Nat) : Int)) → (∀ k', k' < 3 → (M.1 37 (3 * w + k')).toInt = ((ndS D S i w k' : Nat) : Int)) → (∀ w', w' < w → (M.2 36 w').toInt = ((vwS D cs S n i w' : Nat) : Int)) → (∀ k j, k ≠ 26 → k ≠ 37 → M.1 k j = M0.1 k j) → (∀ k j, k ≠ 36 → M.2 k j = M0.2 k j) →  pvEv Tx 22 qX3_weighWays 127 [some (.ref 34), some (.ref 47), some (.int (nI i)), some (.int (nI n)), some (.int (nI w)), some (.long (jZ ((kyN i w 3 : Nat) : Int))), none, some (.int ag), some (.int k9), v9] [] M Q) : ∀ (m : Nat) (k : Nat) (M : fmM) (ag : Int32) (v9 : Option Value), k ≤ 3 → 3 - k = m → ag.toInt = agW S i w k → (∀ w' k', w' < w → k' < 3 → (M.1 37 (3 * w' + k')).toInt = ((ndS D S i w' k' : Nat) : Int)) → (∀ k', k' < k → (M.1 37 (3 * w + k')).toInt = ((ndS D S i w k' : Nat) : Int)) → (∀ w', w' < w → (M.2 36 w').toInt = ((vwS D cs S n i w' : Nat) : Int)) → (∀ k j, k ≠ 26 → k ≠ 37 → M.1 k j = M0.1 k j) → (∀ k j, k ≠ 36 → M.2 k j = M0.2 k j) → pvEv Tx 22 qX3_weighWays 32 [some (.ref 34), some (.ref 47), some (.int (nI i)), some (.int (nI n)), some (.int (nI w)), some (.long (jZ ((kyN i w k : Nat) : Int))), none, some (.int ag), some (.int (nI k)), v9] [] M Q := by
  intro m
  induction m using Nat.strongRecOn with
  | _ m ih =>
    intro k M ag v9 hk hm hag hnd hnk hvw f1 f2
    have hq0 := h0
    obtain ⟨hD, hX0, hL0, hs0, ho⟩ := hq0
    have d8 := hD.1
    have p8 := p2_n h1n h3n
    have hi9 : (nI i).toInt = (i : Int) := nI_toInt (by omega)
    have hw9 : (nI w).toInt = (w : Int) := nI_toInt (by omega)
    have hk9 : (nI k).toInt = (k : Int) := nI_toInt (by omega)
    refine pv_iload (pc := 32) (i := 8) rfl (fm_dec dtX3_weighWays 19 rfl) ?_
    refine pv_iconst (pc := 34) (v := 3) (by decide) (fm_dec dtX3_weighWays 20 rfl) ?_
    refine pv_icmp_ge (pc := 35) 127 (by decide) (fm_dec dtX3_weighWays 21 rfl) (fun hc35 => ?_) (fun hc35 => ?_)
    · obtain rfl : k = 3 := (by rw [sc_le] at hc35; have z3 : (3 : Int32).toInt = 3 := (by decide); omega)
      exact hq M _ _ _ hnd hnk hvw f1 f2
    · have hk3 : k < 3 := (by rw [sc_le] at hc35; have z3 : (3 : Int32).toInt = 3 := (by decide); omega)
      have hxM : xAq M D cs S := h0.pk (fun k' j a => f1 k' j (by omega) (by omega)) (f2 47 6 (by decide))
      have i3 := ix3k (w := w) (k := k) (c := nI k) (by omega) hk9 (by omega)
      refine pv_iload (pc := 38) (i := 4) rfl (fm_dec dtX3_weighWays 22 rfl) ?_
      refine pv_iload (pc := 40) (i := 8) rfl (fm_dec dtX3_weighWays 23 rfl) ?_
      refine pv_ishr (pc := 42) (fm_dec dtX3_weighWays 24 rfl) ?_
      refine pv_iconst (pc := 43) (v := 1) (by decide) (fm_dec dtX3_weighWays 25 rfl) ?_
      refine pv_iand (pc := 44) (fm_dec dtX3_weighWays 26 rfl) ?_
      refine pv_if_eq (pc := 45) 52 (by decide) (fm_dec dtX3_weighWays 27 rfl) (fun hc45 => ?_) (fun hc45 => ?_)
      · refine pv_iconst (pc := 52) (v := 0) (by decide) (fm_dec dtX3_weighWays 30 rfl) ?_
        refine pv_istore (pc := 53) (i := 9) (by decide) rfl (fm_dec dtX3_weighWays 31 rfl) ?_
        dsimp only [List.set_cons_zero, List.set_cons_succ]
        refine pv_aloadn (pc := 55) (n := 0) 0 rfl rfl (fm_dec dtX3_weighWays 32 rfl) ?_
        have hbit : w.testBit k = false := (has8z w (by omega) k (by omega)).mp hc45
        refine pv_getR (k := 34) (j := 3) (ci := 3) (pc := 56) 37 rfl (by decide) pfl_X3_18 (by decide) rfl (by decide) (fm_dec dtX3_weighWays 33 rfl) ?_
        refine pv_iload (pc := 59) (i := 4) rfl (fm_dec dtX3_weighWays 34 rfl) ?_
        refine pv_iconst (pc := 61) (v := 3) (by decide) (fm_dec dtX3_weighWays 35 rfl) ?_
        refine pv_imul (pc := 62) (fm_dec dtX3_weighWays 36 rfl) ?_
        refine pv_iload (pc := 63) (i := 8) rfl (fm_dec dtX3_weighWays 37 rfl) ?_
        refine pv_iadd (pc := 65) (fm_dec dtX3_weighWays 38 rfl) ?_
        refine pv_iload (pc := 66) (i := 9) rfl (fm_dec dtX3_weighWays 39 rfl) ?_
        refine pv_if_eq (pc := 68) 81 (by decide) (fm_dec dtX3_weighWays 40 rfl) (fun _ => ?_) (fun hc68 => by exfalso; revert hc68; decide)
        refine pv_iconst (pc := 81) (v := 0) (by decide) (fm_dec dtX3_weighWays 46 rfl) ?_
        refine pv_iast (k := 37) (n := 24) (pc := 82) (by decide) rfl rfl (ix_in i3 (by omega)) (fm_dec dtX3_weighWays 47 rfl) ?_
        refine pv_iload (pc := 83) (i := 9) rfl (fm_dec dtX3_weighWays 48 rfl) ?_
        refine pv_if_eq (pc := 85) 105 (by decide) (fm_dec dtX3_weighWays 49 rfl) (fun _ => ?_) (fun hc85 => by exfalso; revert hc85; decide)
        refine pv_iload (pc := 105) (i := 7) rfl (fm_dec dtX3_weighWays 61 rfl) ?_
        refine pv_iconst (pc := 107) (v := (-1)) (by decide) (fm_dec dtX3_weighWays 62 rfl) ?_
        refine pv_icmp_ne (pc := 108) 115 (by decide) (fm_dec dtX3_weighWays 63 rfl) (fun hc108 => ?_) (fun hc108 => ?_)
        · refine pv_iload (pc := 115) (i := 7) rfl (fm_dec dtX3_weighWays 66 rfl) ?_
          refine pv_iconst (pc := 117) (v := 1) (by decide) (fm_dec dtX3_weighWays 67 rfl) ?_
          refine pv_iadd (pc := 118) (fm_dec dtX3_weighWays 68 rfl) ?_
          refine pv_istore (pc := 119) (i := 7) (by decide) rfl (fm_dec dtX3_weighWays 69 rfl) ?_
          dsimp only [List.set_cons_zero, List.set_cons_succ]
          refine pv_iincc (pc := 121) 8 1 (by decide) rfl (by decide) rfl (fm_dec dtX3_weighWays 70 rfl) ?_
          dsimp only [List.set_cons_zero, List.set_cons_succ]
          refine pv_goto (pc := 124) 32 (by decide) (fm_dec dtX3_weighWays 71 rfl) ?_
          rw [← ky_n hbit]
          rw [nI_succ1, i32_cl i3]
          refine ih (3 - (k + 1)) (by omega) (k + 1) _ _ _ (by omega) rfl (by rw [agW_s]; have e9 : agP S i w k = agW S i w k := (by unfold agP; rw [if_neg (by rw [hbit]; decide)]); rw [e9, if_neg (fun e => hc108 (i32_ext (by rw [hag, e]; decide)))]; have ab := agW_b (wk := w) ho hi k; have z1 : (1 : Int32).toInt = 1 := (by decide); rw [sc_add (by omega) (by omega), hag, z1]) (fun w' k' a b => ?_) (fun k' a => ?_) (fun w' a => hvw w' a) (fun k' j a b => by rw [fmI_k _ _ b]; exact f1 k' j a b) (fun k' j a => f2 k' j a)
          · rw [fmI_j _ _ (by omega)]
            exact hnd w' k' a b
          · by_cases e : k' = k
            · subst e
              rw [fmI_s]
              exact (by show (0 : Int32).toInt = ((ndS D S i w _ : Nat) : Int); unfold ndS; rw [if_neg (by rw [hbit]; decide)]; decide)
            · rw [fmI_j _ _ (by omega)]
              exact hnk k' (by omega)
        · refine pv_iconst (pc := 111) (v := (-1)) (by decide) (fm_dec dtX3_weighWays 64 rfl) ?_
          refine pv_goto (pc := 112) 119 (by decide) (fm_dec dtX3_weighWays 65 rfl) ?_
          refine pv_istore (pc := 119) (i := 7) (by decide) rfl (fm_dec dtX3_weighWays 69 rfl) ?_
          dsimp only [List.set_cons_zero, List.set_cons_succ]
          refine pv_iincc (pc := 121) 8 1 (by decide) rfl (by decide) rfl (fm_dec dtX3_weighWays 70 rfl) ?_
          dsimp only [List.set_cons_zero, List.set_cons_succ]
          refine pv_goto (pc := 124) 32 (by decide) (fm_dec dtX3_weighWays 71 rfl) ?_
          rw [← ky_n hbit]
          rw [nI_succ1, i32_cl i3]
          refine ih (3 - (k + 1)) (by omega) (k + 1) _ _ _ (by omega) rfl (by rw [agW_s]; have e9 : agP S i w k = agW S i w k := (by unfold agP; rw [if_neg (by rw [hbit]; decide)]); rw [e9, if_pos (by rw [← hag, hc108]; decide)]; decide) (fun w' k' a b => ?_) (fun k' a => ?_) (fun w' a => hvw w' a) (fun k' j a b => by rw [fmI_k _ _ b]; exact f1 k' j a b) (fun k' j a => f2 k' j a)
          · rw [fmI_j _ _ (by omega)]
            exact hnd w' k' a b
          · by_cases e : k' = k
            · subst e
              rw [fmI_s]
              exact (by show (0 : Int32).toInt = ((ndS D S i w _ : Nat) : Int); unfold ndS; rw [if_neg (by rw [hbit]; decide)]; decide)
            · rw [fmI_j _ _ (by omega)]
              exact hnk k' (by omega)
      · refine pv_iconst (pc := 48) (v := 1) (by decide) (fm_dec dtX3_weighWays 28 rfl) ?_
        refine pv_goto (pc := 49) 53 (by decide) (fm_dec dtX3_weighWays 29 rfl) ?_
        refine pv_istore (pc := 53) (i := 9) (by decide) rfl (fm_dec dtX3_weighWays 31 rfl) ?_
        dsimp only [List.set_cons_zero, List.set_cons_succ]
        refine pv_aloadn (pc := 55) (n := 0) 0 rfl rfl (fm_dec dtX3_weighWays 32 rfl) ?_
        have hbit : w.testBit k = true := (by cases h9 : w.testBit k with | true => rfl | false => exact absurd ((has8z w (by omega) k (by omega)).mpr h9) hc45)
        refine pv_getR (k := 34) (j := 3) (ci := 3) (pc := 56) 37 rfl (by decide) pfl_X3_18 (by decide) rfl (by decide) (fm_dec dtX3_weighWays 33 rfl) ?_
        refine pv_iload (pc := 59) (i := 4) rfl (fm_dec dtX3_weighWays 34 rfl) ?_
        refine pv_iconst (pc := 61) (v := 3) (by decide) (fm_dec dtX3_weighWays 35 rfl) ?_
        refine pv_imul (pc := 62) (fm_dec dtX3_weighWays 36 rfl) ?_
        refine pv_iload (pc := 63) (i := 8) rfl (fm_dec dtX3_weighWays 37 rfl) ?_
        refine pv_iadd (pc := 65) (fm_dec dtX3_weighWays 38 rfl) ?_
        refine pv_iload (pc := 66) (i := 9) rfl (fm_dec dtX3_weighWays 39 rfl) ?_
        refine pv_if_eq (pc := 68) 81 (by decide) (fm_dec dtX3_weighWays 40 rfl) (fun hc68 => by exfalso; revert hc68; decide) (fun _ => ?_)
        refine pv_aloadn (pc := 71) (n := 0) 0 rfl rfl (fm_dec dtX3_weighWays 41 rfl) ?_
        refine pv_iloadn (pc := 72) (n := 2) 2 rfl rfl (fm_dec dtX3_weighWays 42 rfl) ?_
        refine pv_iload (pc := 73) (i := 7) rfl (fm_dec dtX3_weighWays 43 rfl) ?_
        refine pv_invV2 (k := 34) (d' := 2) (pc := 75) pcv_X3_97 (by decide) rfl (Nat.le_of_ble_eq_true rfl) (by decide) (fm_dec dtX3_weighWays 44 rfl) ?_
        refine c_xhag (A := agW S i w k) hD hxM.2.1 hi hag (fun r75 h75 => ?_)
        refine pv_then1 ?_
        refine pv_goto (pc := 78) 82 (by decide) (fm_dec dtX3_weighWays 45 rfl) ?_
        refine pv_iast (k := 37) (n := 24) (pc := 82) (by decide) rfl rfl (ix_in i3 (by omega)) (fm_dec dtX3_weighWays 47 rfl) ?_
        refine pv_iload (pc := 83) (i := 9) rfl (fm_dec dtX3_weighWays 48 rfl) ?_
        refine pv_if_eq (pc := 85) 105 (by decide) (fm_dec dtX3_weighWays 49 rfl) (fun hc85 => by exfalso; revert hc85; decide) (fun _ => ?_)
        refine pv_lload (pc := 88) (i := 5) rfl (fm_dec dtX3_weighWays 50 rfl) ?_
        refine pv_lconst (pc := 90) (v := 1) (by decide) (fm_dec dtX3_weighWays 51 rfl) ?_
        refine pv_iload (pc := 91) (i := 8) rfl (fm_dec dtX3_weighWays 52 rfl) ?_
        refine pv_iS1 (d' := 0) (pc := 93) pcs_X3_37 (Nat.le_of_ble_eq_true rfl) (by decide) (fm_dec dtX3_weighWays 53 rfl) ?_
        refine c_xks ?_
        refine pv_then1 ?_
        refine pv_iloadn (pc := 96) (n := 2) 2 rfl rfl (fm_dec dtX3_weighWays 54 rfl) ?_
        refine pv_iadd (pc := 97) (fm_dec dtX3_weighWays 55 rfl) ?_
        refine pv_lshl (pc := 98) (fm_dec dtX3_weighWays 56 rfl) ?_
        refine pv_lor (pc := 99) (fm_dec dtX3_weighWays 57 rfl) ?_
        rw [kyX i (by omega) w (by omega) k hk3 hbit]
        refine pv_lstore (pc := 100) (i := 5) (by decide) rfl (fm_dec dtX3_weighWays 58 rfl) ?_
        dsimp only [List.set_cons_zero, List.set_cons_succ]
        refine pv_iconst (pc := 102) (v := 0) (by decide) (fm_dec dtX3_weighWays 59 rfl) ?_
        refine pv_istore (pc := 103) (i := 7) (by decide) rfl (fm_dec dtX3_weighWays 60 rfl) ?_
        dsimp only [List.set_cons_zero, List.set_cons_succ]
        refine pv_iload (pc := 105) (i := 7) rfl (fm_dec dtX3_weighWays 61 rfl) ?_
        refine pv_iconst (pc := 107) (v := (-1)) (by decide) (fm_dec dtX3_weighWays 62 rfl) ?_
        refine pv_icmp_ne (pc := 108) 115 (by decide) (fm_dec dtX3_weighWays 63 rfl) (fun _ => ?_) (fun hc108 => by exfalso; revert hc108; decide)
        refine pv_iload (pc := 115) (i := 7) rfl (fm_dec dtX3_weighWays 66 rfl) ?_
        refine pv_iconst (pc := 117) (v := 1) (by decide) (fm_dec dtX3_weighWays 67 rfl) ?_
        refine pv_iadd (pc := 118) (fm_dec dtX3_weighWays 68 rfl) ?_
        refine pv_istore (pc := 119) (i := 7) (by decide) rfl (fm_dec dtX3_weighWays 69 rfl) ?_
        dsimp only [List.set_cons_zero, List.set_cons_succ]
        refine pv_iincc (pc := 121) 8 1 (by decide) rfl (by decide) rfl (fm_dec dtX3_weighWays 70 rfl) ?_
        dsimp only [List.set_cons_zero, List.set_cons_succ]
        refine pv_goto (pc := 124) 32 (by decide) (fm_dec dtX3_weighWays 71 rfl) ?_
        rw [nI_succ1, i32_cl i3]
        refine ih (3 - (k + 1)) (by omega) (k + 1) _ _ _ (by omega) rfl (by rw [agW_s]; have e9 : agP S i w k = 0 := (by unfold agP; rw [if_pos hbit]); rw [e9]; decide) (fun w' k' a b => ?_) (fun k' a => ?_) (fun w' a => hvw w' a) (fun k' j a b => by rw [fmI_k _ _ b]; exact f1 k' j a b) (fun k' j a => f2 k' j a)
        · rw [fmI_j _ _ (by omega)]
          exact hnd w' k' a b
        · by_cases e : k' = k
          · subst e
            rw [fmI_s]
            exact (by rw [h75]; unfold ndS; rw [if_pos hbit])
          · rw [fmI_j _ _ (by omega)]
            exact hnk k' (by omega)
set_option maxRecDepth 20000 in
theorem xww_1 {Q : fmR → fmM → Prop} {M0 : fmM} {D : dD} {cs : tC} {S : aS} {i n : Nat} (h0 : xAq M0 D cs S) (hi : i < D.1) (h1n : 1 ≤ n) (h3n : n ≤ 3) (hq : ∀ M' : fmM, (∀ w, w < 2 ^ n → (M'.2 36 w).toInt = ((vwS D cs S n i w : Nat) : Int)) → (∀ w k, w < 2 ^ n → k < 3 → (M'.1 37 (3 * w + k)).toInt = ((ndS D S i w k : Nat) : Int)) → (∀ k j, k ≠ 26 → k ≠ 37 → M'.1 k j = M0.1 k j) → (∀ k j, k ≠ 36 → M'.2 k j = M0.2 k j) →  Q (.inl none) M') : ∀ (m : Nat) (w : Nat) (M : fmM) (v5 v6 v7 v8 v9 : Option Value), w ≤ 2 ^ n → 2 ^ n - w = m → (∀ w' k', w' < w → k' < 3 → (M.1 37 (3 * w' + k')).toInt = ((ndS D S i w' k' : Nat) : Int)) → (∀ w', w' < w → (M.2 36 w').toInt = ((vwS D cs S n i w' : Nat) : Int)) → (∀ k j, k ≠ 26 → k ≠ 37 → M.1 k j = M0.1 k j) → (∀ k j, k ≠ 36 → M.2 k j = M0.2 k j) → pvEv Tx 22 qX3_weighWays 3 [some (.ref 34), some (.ref 47), some (.int (nI i)), some (.int (nI n)), some (.int (nI w)), v5, v6, v7, v8, v9] [] M Q := by
  intro m
  induction m using Nat.strongRecOn with
  | _ m ih =>
    intro w M v5 v6 v7 v8 v9 hwn hm hnd hvw f1 f2
    have hq0 := h0
    obtain ⟨hD, hX0, hL0, hs0, ho⟩ := hq0
    have d8 := hD.1
    have p8 := p2_n h1n h3n
    have hi9 : (nI i).toInt = (i : Int) := nI_toInt (by omega)
    have hw9 : (nI w).toInt = (w : Int) := nI_toInt (by omega)
    refine pv_iload (pc := 3) (i := 4) rfl (fm_dec dtX3_weighWays 2 rfl) ?_
    refine pv_iconst (pc := 5) (v := 1) (by decide) (fm_dec dtX3_weighWays 3 rfl) ?_
    refine pv_iloadn (pc := 6) (n := 3) 3 rfl rfl (fm_dec dtX3_weighWays 4 rfl) ?_
    refine pv_ishl (pc := 7) (fm_dec dtX3_weighWays 5 rfl) ?_
    rw [p2n n (by omega)]
    refine pv_icmp_ge (pc := 8) 158 (by decide) (fm_dec dtX3_weighWays 6 rfl) (fun hc8 => ?_) (fun hc8 => ?_)
    · exact pv_return (pc := 158) rfl (fm_dec dtX3_weighWays 89 rfl) (hq M (fun w' a => hvw w' (by rw [sc_le] at hc8; have e9 : (nI (2 ^ n)).toInt = ((2 ^ n : Nat) : Int) := nI_toInt (by omega); omega)) (fun w' k' a b => hnd w' k' (by rw [sc_le] at hc8; have e9 : (nI (2 ^ n)).toInt = ((2 ^ n : Nat) : Int) := nI_toInt (by omega); omega) b) f1 f2)
    · have hw : w < 2 ^ n := (by rw [sc_le] at hc8; have e9 : (nI (2 ^ n)).toInt = ((2 ^ n : Nat) : Int) := nI_toInt (by omega); omega)
      have hxM : xAq M D cs S := h0.pk (fun k' j a => f1 k' j (by omega) (by omega)) (f2 47 6 (by decide))
      have g := ag_x hxM.2.2.2.1 hi
      refine pv_iload (pc := 11) (i := 4) rfl (fm_dec dtX3_weighWays 7 rfl) ?_
      refine pv_bipush (pc := 13) (v := 8) (by decide) (fm_dec dtX3_weighWays 8 rfl) ?_
      refine pv_icmp_ge (pc := 15) 158 (by decide) (fm_dec dtX3_weighWays 9 rfl) (fun hc15 => by exfalso; rw [sc_le] at hc15; have z8 : (8 : Int32).toInt = 8 := (by decide); omega) (fun _ => ?_)
      refine pv_lconst (pc := 18) (v := 0) (by decide) (fm_dec dtX3_weighWays 10 rfl) ?_
      refine pv_lstore (pc := 19) (i := 5) (by decide) rfl (fm_dec dtX3_weighWays 11 rfl) ?_
      dsimp only [List.set_cons_zero, List.set_cons_succ]
      refine pv_aloadn (pc := 21) (n := 1) 1 rfl rfl (fm_dec dtX3_weighWays 12 rfl) ?_
      refine pv_getR (k := 47) (j := 0) (ci := 6) (pc := 22) 48 rfl (by decide) pfl_X3_94 (by decide) rfl (by decide) (fm_dec dtX3_weighWays 13 rfl) ?_
      refine pv_iloadn (pc := 25) (n := 2) 2 rfl rfl (fm_dec dtX3_weighWays 14 rfl) ?_
      refine pv_iald (k := 48) (n := 8) (pc := 26) (by decide) rfl rfl (ix_in hi9 (by omega)) (fm_dec dtX3_weighWays 15 rfl) ?_
      rw [i32_cl hi9]
      refine pv_istore (pc := 27) (i := 7) (by decide) rfl (fm_dec dtX3_weighWays 16 rfl) ?_
      dsimp only [List.set_cons_zero, List.set_cons_succ]
      refine pv_iconst (pc := 29) (v := 0) (by decide) (fm_dec dtX3_weighWays 17 rfl) ?_
      refine pv_istore (pc := 30) (i := 8) (by decide) rfl (fm_dec dtX3_weighWays 18 rfl) ?_
      dsimp only [List.set_cons_zero, List.set_cons_succ]
      rw [show (0 : Int64) = jZ ((kyN i w 0 : Nat) : Int) from (by show (0 : Int64) = jZ ((0 : Nat) : Int); decide)]
      refine xww_2 h0 hi h1n h3n hw (fun M2 ag2 k2 v2 hnd2 hnk2 hvw2 q1 q2 => ?_) 3 0 M _ _ (by decide) rfl g hnd (fun k' a => absurd a (Nat.not_lt_zero _)) hvw f1 f2
      have hxM2 : xAq M2 D cs S := h0.pk (fun k' j a => q1 k' j (by omega) (by omega)) (q2 47 6 (by decide))
      refine pv_aloadn (pc := 127) (n := 0) 0 rfl rfl (fm_dec dtX3_weighWays 72 rfl) ?_
      refine pv_getR (k := 34) (j := 2) (ci := 3) (pc := 128) 36 rfl (by decide) pfl_X3_15 (by decide) rfl (by decide) (fm_dec dtX3_weighWays 73 rfl) ?_
      refine pv_iload (pc := 131) (i := 4) rfl (fm_dec dtX3_weighWays 74 rfl) ?_
      refine pv_aloadn (pc := 133) (n := 0) 0 rfl rfl (fm_dec dtX3_weighWays 75 rfl) ?_
      refine pv_getR (k := 34) (j := 0) (ci := 3) (pc := 134) 32 rfl (by decide) pfl_X3_25 (by decide) rfl (by decide) (fm_dec dtX3_weighWays 76 rfl) ?_
      refine pv_aloadn (pc := 137) (n := 1) 1 rfl rfl (fm_dec dtX3_weighWays 77 rfl) ?_
      refine pv_iloadn (pc := 138) (n := 2) 2 rfl rfl (fm_dec dtX3_weighWays 78 rfl) ?_
      refine pv_iloadn (pc := 139) (n := 3) 3 rfl rfl (fm_dec dtX3_weighWays 79 rfl) ?_
      refine pv_iload (pc := 140) (i := 4) rfl (fm_dec dtX3_weighWays 80 rfl) ?_
      refine pv_invV4 (k := 32) (d' := 21) (pc := 142) pcv_X3_100 (by decide) rfl (Nat.le_of_ble_eq_true rfl) (by decide) (fm_dec dtX3_weighWays 81 rfl) ?_
      refine c_xla (wk := w) (n := n) hxM2 hi (by omega) (by omega) (fun M142 r142 g142 k142 q142 e142 => ?_)
      refine pv_then1 ?_
      refine pv_bipush (pc := 145) (v := 24) (by decide) (fm_dec dtX3_weighWays 82 rfl) ?_
      refine pv_lshl (pc := 147) (fm_dec dtX3_weighWays 83 rfl) ?_
      refine pv_lload (pc := 148) (i := 5) rfl (fm_dec dtX3_weighWays 84 rfl) ?_
      refine pv_ladd (pc := 150) (fm_dec dtX3_weighWays 85 rfl) ?_
      refine pv_last (k := 36) (n := 8) (pc := 151) (by decide) rfl rfl (ix_in hw9 (by omega)) (fm_dec dtX3_weighWays 86 rfl) ?_
      refine pv_iincc (pc := 152) 4 1 (by decide) rfl (by decide) rfl (fm_dec dtX3_weighWays 87 rfl) ?_
      dsimp only [List.set_cons_zero, List.set_cons_succ]
      refine pv_goto (pc := 155) 3 (by decide) (fm_dec dtX3_weighWays 88 rfl) ?_
      rw [nI_succ1, i32_cl hw9]
      refine ih (2 ^ n - (w + 1)) (by omega) (w + 1) _ _ _ _ _ _ (by omega) rfl (fun w' k' a b => ?_) (fun w' a => ?_) (fun k' j a b => ?_) (fun k' j a => ?_)
      · show (M142.1 37 (3 * w' + k')).toInt = _
        rw [g142 37 _ (by decide)]
        by_cases e : w' = w
        · subst e
          exact hnk2 k' b
        · exact hnd2 w' k' (by omega) b
      · by_cases e : w' = w
        · subst e
          rw [fmJ_s2]
          have h9 := hn_3 (cs := cs) (S := S) (wk := w') hD hi h3n
          have h8 := ky_b i (by omega) w' (by omega)
          have h7 := p2i i (by omega)
          exact ja_n (shl24 e142 h9) (kyZ i (by omega) w' (by omega)) (by omega)
        · rw [fmJ_j _ _ e, k142]
          exact hvw2 w' (by omega)
      · show M142.1 k' j = _
        rw [g142 k' j a]
        exact q1 k' j a b
      · rw [fmJ_k2 a, k142]
        exact q2 k' j a
set_option maxRecDepth 20000 in
theorem c_xweigh {M : fmM} {Q : fmR → fmM → Prop} {D : dD} {cs : tC} {S : aS} {i n : Nat} (h0 : xAq M D cs S) (hi : i < D.1) (h1n : 1 ≤ n) (h3n : n ≤ 3) (hq : ∀ M' : fmM, (∀ w, w < 2 ^ n → (M'.2 36 w).toInt = ((vwS D cs S n i w : Nat) : Int)) → (∀ w k, w < 2 ^ n → k < 3 → (M'.1 37 (3 * w + k)).toInt = ((ndS D S i w k : Nat) : Int)) → (∀ k j, k ≠ 26 → k ≠ 37 → M'.1 k j = M.1 k j) → (∀ k j, k ≠ 36 → M'.2 k j = M.2 k j) →  Q (.inl none) M') : pvGood Tx 22 qX3_weighWays [.ref 34, .ref 47, .int (nI i), .int (nI n)] M Q := by
  refine pvGood_of (Nat.le_of_ble_eq_true rfl) ?_
  show pvEv Tx 22 qX3_weighWays 0 [some (.ref 34), some (.ref 47), some (.int (nI i)), some (.int (nI n)), none, none, none, none, none, none] [] M Q
  refine pv_iconst (pc := 0) (v := 0) (by decide) (fm_dec dtX3_weighWays 0 rfl) ?_
  refine pv_istore (pc := 1) (i := 4) (by decide) rfl (fm_dec dtX3_weighWays 1 rfl) ?_
  dsimp only [List.set_cons_zero, List.set_cons_succ]
  exact xww_1 h0 hi h1n h3n hq (2 ^ n) 0 M _ _ _ _ _ (Nat.zero_le _) rfl (fun w' k' a _ => absurd a (Nat.not_lt_zero _)) (fun w' a => absurd a (Nat.not_lt_zero _)) (fun _ _ _ _ => rfl) (fun _ _ _ => rfl)
set_option maxRecDepth 20000 in
theorem xfj_loop {Q : fmR → fmM → Prop} {M0 : fmM} (hq : ∀ M' : fmM, (∀ j, j < 2197 → M'.2 35 j = 0) → (∀ k j, k ≠ 35 → M'.2 k j = M0.2 k j) → M'.1 = M0.1 → Q (.inl none) M') : ∀ (m n : Nat) (M : fmM), n + m = 2197 → (∀ j, j < n → M.2 35 j = 0) → (∀ k j, k ≠ 35 → M.2 k j = M0.2 k j) → M.1 = M0.1 → pvEv Tx 1 qJ7_fill_d0a16 6 [some (.ref 35), some (.long 0), none, some (.int (nI n)), some (.int 2197)] [] M Q := by
  intro m
  induction m with
  | zero =>
    intro n M hn h h1 h2
    have hn9 : (nI n).toInt = (n : Int) := nI_toInt (by omega)
    refine pv_iloadn (pc := 6) (n := 3) 3 rfl rfl (fm_dec dtJ7_fill_d0a16 5 rfl) ?_
    refine pv_iload (pc := 7) (i := 4) rfl (fm_dec dtJ7_fill_d0a16 6 rfl) ?_
    refine pv_icmp_ge (pc := 9) 22 (by decide) (fm_dec dtJ7_fill_d0a16 7 rfl) (fun _ => ?_) (fun hc9 => by exfalso; apply hc9; rw [sc_le]; have z : (2197 : Int32).toInt = 2197 := (by decide); omega)
    exact pv_return (pc := 22) rfl (fm_dec dtJ7_fill_d0a16 14 rfl) (hq M (fun j hj => h j (by omega)) h1 h2)
  | succ m ih =>
    intro n M hn h h1 h2
    have hn9 : (nI n).toInt = (n : Int) := nI_toInt (by omega)
    refine pv_iloadn (pc := 6) (n := 3) 3 rfl rfl (fm_dec dtJ7_fill_d0a16 5 rfl) ?_
    refine pv_iload (pc := 7) (i := 4) rfl (fm_dec dtJ7_fill_d0a16 6 rfl) ?_
    refine pv_icmp_ge (pc := 9) 22 (by decide) (fm_dec dtJ7_fill_d0a16 7 rfl) (fun hc9 => by exfalso; rw [sc_le] at hc9; have z : (2197 : Int32).toInt = 2197 := (by decide); omega) (fun _ => ?_)
    refine pv_aloadn (pc := 12) (n := 0) 0 rfl rfl (fm_dec dtJ7_fill_d0a16 8 rfl) ?_
    refine pv_iloadn (pc := 13) (n := 3) 3 rfl rfl (fm_dec dtJ7_fill_d0a16 9 rfl) ?_
    refine pv_lloadn (pc := 14) (n := 1) 1 rfl rfl (fm_dec dtJ7_fill_d0a16 10 rfl) ?_
    refine pv_last (k := 35) (n := 2197) (pc := 15) (by decide) rfl rfl (ix_in hn9 (by omega)) (fm_dec dtJ7_fill_d0a16 11 rfl) ?_
    rw [i32_cl hn9]
    refine pv_iincc (pc := 16) 3 1 (by decide) rfl (by decide) rfl (fm_dec dtJ7_fill_d0a16 12 rfl) ?_
    dsimp only [List.set_cons_zero, List.set_cons_succ]
    refine pv_goto (pc := 19) 6 (by decide) (fm_dec dtJ7_fill_d0a16 13 rfl) ?_
    rw [nI_succ1]
    refine ih (n + 1) _ (by omega) (fun j hj => ?_) (fun k j hk => ?_) h2
    · by_cases e : j = n
      · rw [e, fmJ_s2]
      · rw [fmJ_j _ _ e]
        exact h j (by omega)
    · rw [fmJ_k2 hk]
      exact h1 k j hk
set_option maxRecDepth 20000 in
theorem c_xfj {M : fmM} {Q : fmR → fmM → Prop}  (hq : ∀ M' : fmM, (∀ j, j < 2197 → M'.2 35 j = 0) → (∀ k j, k ≠ 35 → M'.2 k j = M.2 k j) → M'.1 = M.1 → Q (.inl none) M') : pvGood Tx 1 qJ7_fill_d0a16 [.ref 35, .long 0] M Q := by
  refine pvGood_of (Nat.le_of_ble_eq_true rfl) ?_
  show pvEv Tx 1 qJ7_fill_d0a16 0 [some (.ref 35), some (.long 0), none, none, none] [] M Q
  refine pv_iconst (pc := 0) (v := 0) (by decide) (fm_dec dtJ7_fill_d0a16 0 rfl) ?_
  refine pv_istoren (pc := 1) (n := 3) 3 rfl (by decide) rfl (fm_dec dtJ7_fill_d0a16 1 rfl) ?_
  dsimp only [List.set_cons_zero, List.set_cons_succ]
  refine pv_aloadn (pc := 2) (n := 0) 0 rfl rfl (fm_dec dtJ7_fill_d0a16 2 rfl) ?_
  refine pv_alenJ (k := 35) (n := 2197) (v := 2197) (pc := 3) (by decide) rfl rfl (by decide) (fm_dec dtJ7_fill_d0a16 3 rfl) ?_
  refine pv_istore (pc := 4) (i := 4) (by decide) rfl (fm_dec dtJ7_fill_d0a16 4 rfl) ?_
  dsimp only [List.set_cons_zero, List.set_cons_succ]
  exact xfj_loop hq 2197 0 M rfl (fun j hj => absurd hj (Nat.not_lt_zero _)) (fun _ _ _ => rfl) rfl
set_option maxRecDepth 20000 in
theorem xpp_1 {Q : fmR → fmM → Prop} {M0 : fmM} {D : dD} {cs : tC} {S : aS} {n : Nat} (h0 : xAq M0 D cs S) (h1n : 1 ≤ n) (h3n : n ≤ 3) (hq : ∀ (M : fmM) (k9 : Int32) (v4 : Option Value), (∀ k, k < 3 → (M.1 38 k).toInt = ((moS D S n k : Nat) : Int)) → (∀ k j, k ≠ 38 → M.1 k j = M0.1 k j) → M.2 = M0.2 →  pvEv Tx 23 qX3_prepare 79 [some (.ref 34), some (.ref 47), some (.int (nI n)), some (.int k9), v4] [] M Q) : ∀ (m : Nat) (k : Nat) (M : fmM) (v4 : Option Value), k ≤ 3 → 3 - k = m → (∀ k', k' < k → (M.1 38 k').toInt = ((moS D S n k' : Nat) : Int)) → (∀ k j, k ≠ 38 → M.1 k j = M0.1 k j) → M.2 = M0.2 → pvEv Tx 23 qX3_prepare 19 [some (.ref 34), some (.ref 47), some (.int (nI n)), some (.int (nI k)), v4] [] M Q := by
  intro m
  induction m using Nat.strongRecOn with
  | _ m ih =>
    intro k M v4 hk hm hmo f1 f2
    have hq0 := h0
    obtain ⟨hD, hX0, hL0, hs0, ho⟩ := hq0
    have d8 := hD.1
    have hn9 : (nI n).toInt = (n : Int) := nI_toInt (by omega)
    have p8 := p2_n h1n h3n
    have hk9 : (nI k).toInt = (k : Int) := nI_toInt (by omega)
    refine pv_iloadn (pc := 19) (n := 3) 3 rfl rfl (fm_dec dtX3_prepare 11 rfl) ?_
    refine pv_iconst (pc := 20) (v := 3) (by decide) (fm_dec dtX3_prepare 12 rfl) ?_
    refine pv_icmp_ge (pc := 21) 79 (by decide) (fm_dec dtX3_prepare 13 rfl) (fun hc21 => ?_) (fun hc21 => ?_)
    · obtain rfl : k = 3 := (by rw [sc_le] at hc21; have z3 : (3 : Int32).toInt = 3 := (by decide); omega)
      exact hq M _ _ hmo f1 f2
    · have hk3 : k < 3 := (by rw [sc_le] at hc21; have z3 : (3 : Int32).toInt = 3 := (by decide); omega)
      refine pv_iloadn (pc := 24) (n := 3) 3 rfl rfl (fm_dec dtX3_prepare 14 rfl) ?_
      refine pv_if_ne (pc := 25) 35 (by decide) (fm_dec dtX3_prepare 15 rfl) (fun hc25 => ?_) (fun hc25 => ?_)
      · refine pv_aloadn (pc := 35) (n := 0) 0 rfl rfl (fm_dec dtX3_prepare 19 rfl) ?_
        refine pv_getR (k := 34) (j := 0) (ci := 3) (pc := 36) 32 rfl (by decide) pfl_X3_25 (by decide) rfl (by decide) (fm_dec dtX3_prepare 20 rfl) ?_
        refine pv_getR (k := 32) (j := 0) (ci := 0) (pc := 39) 3 rfl (by decide) pfl_X3_52 (by decide) rfl (by decide) (fm_dec dtX3_prepare 21 rfl) ?_
        refine pv_getI (k := 3) (j := 11) (ci := 8) (pc := 42) pfl_X3_58 (by decide) rfl (by decide) (fm_dec dtX3_prepare 22 rfl) ?_
        have hv : (M.1 3 11).toInt = (((D.2.2.2.2 2).toNat : Nat) : Int) := (by have b := hD.2.2.2.2.1; rw [f1 3 11 (by decide), hX0.1.2.2.1]; omega)
        have hk0 : ¬ k = 0 := (fun e => hc25 (by rw [e]; rfl))
        refine pv_istore (pc := 45) (i := 4) (by decide) rfl (fm_dec dtX3_prepare 23 rfl) ?_
        dsimp only [List.set_cons_zero, List.set_cons_succ]
        refine pv_aloadn (pc := 47) (n := 0) 0 rfl rfl (fm_dec dtX3_prepare 24 rfl) ?_
        refine pv_getR (k := 34) (j := 4) (ci := 3) (pc := 48) 38 rfl (by decide) pfl_X3_22 (by decide) rfl (by decide) (fm_dec dtX3_prepare 25 rfl) ?_
        refine pv_iloadn (pc := 51) (n := 3) 3 rfl rfl (fm_dec dtX3_prepare 26 rfl) ?_
        refine pv_iloadn (pc := 52) (n := 3) 3 rfl rfl (fm_dec dtX3_prepare 27 rfl) ?_
        refine pv_iloadn (pc := 53) (n := 2) 2 rfl rfl (fm_dec dtX3_prepare 28 rfl) ?_
        refine pv_icmp_ge (pc := 54) 71 (by decide) (fm_dec dtX3_prepare 29 rfl) (fun hc54 => ?_) (fun hc54 => ?_)
        · refine pv_iconst (pc := 71) (v := 0) (by decide) (fm_dec dtX3_prepare 36 rfl) ?_
          refine pv_iast (k := 38) (n := 3) (pc := 72) (by decide) rfl rfl (ix_in hk9 (by omega)) (fm_dec dtX3_prepare 37 rfl) ?_
          refine pv_iincc (pc := 73) 3 1 (by decide) rfl (by decide) rfl (fm_dec dtX3_prepare 38 rfl) ?_
          dsimp only [List.set_cons_zero, List.set_cons_succ]
          refine pv_goto (pc := 76) 19 (by decide) (fm_dec dtX3_prepare 39 rfl) ?_
          rw [nI_succ1, i32_cl hk9]
          exact ih (3 - (k + 1)) (by omega) (k + 1) _ _ (by omega) rfl (fun k' a => by by_cases e : k' = k; (subst e; rw [fmI_s]; exact (by show (0 : Int32).toInt = ((moS D S n _ : Nat) : Int); unfold moS; rw [if_neg (by rw [sc_le] at hc54; omega)]; decide)); (rw [fmI_j _ _ e]; exact hmo k' (by omega))) (fun k' j a => by rw [fmI_k _ _ a]; exact f1 k' j a) f2
        · have e12 : ∀ (x : Int32) (a : Nat), x.toInt = (a : Int) → a ≤ 12 → (pvMx true 0 (pvMx false 12 x)).toInt = ((a : Nat) : Int) := fun x a hx h9 => (by rw [mxt, mxf, hx]; have z0 : (0 : Int32).toInt = 0 := (by decide); have z12 : (12 : Int32).toInt = 12 := (by decide); omega)
          refine pv_iconst (pc := 57) (v := 0) (by decide) (fm_dec dtX3_prepare 30 rfl) ?_
          refine pv_bipush (pc := 58) (v := 12) (by decide) (fm_dec dtX3_prepare 31 rfl) ?_
          refine pv_iload (pc := 60) (i := 4) rfl (fm_dec dtX3_prepare 32 rfl) ?_
          refine pv_mm (pc := 62) pmm_X3_63 (by decide) (Nat.le_of_ble_eq_true rfl) (fm_dec dtX3_prepare 33 rfl) ?_
          refine pv_mm (pc := 65) pmm_X3_69 (by decide) (Nat.le_of_ble_eq_true rfl) (fm_dec dtX3_prepare 34 rfl) ?_
          refine pv_goto (pc := 68) 72 (by decide) (fm_dec dtX3_prepare 35 rfl) ?_
          refine pv_iast (k := 38) (n := 3) (pc := 72) (by decide) rfl rfl (ix_in hk9 (by omega)) (fm_dec dtX3_prepare 37 rfl) ?_
          refine pv_iincc (pc := 73) 3 1 (by decide) rfl (by decide) rfl (fm_dec dtX3_prepare 38 rfl) ?_
          dsimp only [List.set_cons_zero, List.set_cons_succ]
          refine pv_goto (pc := 76) 19 (by decide) (fm_dec dtX3_prepare 39 rfl) ?_
          rw [nI_succ1, i32_cl hk9]
          exact ih (3 - (k + 1)) (by omega) (k + 1) _ _ (by omega) rfl (fun k' a => by by_cases e : k' = k; (subst e; rw [fmI_s]; exact (by rw [e12 _ _ hv (by have b := hD.2.2.2.2.1; omega)]; unfold moS; rw [if_pos (by rw [sc_le] at hc54; omega), if_neg hk0])); (rw [fmI_j _ _ e]; exact hmo k' (by omega))) (fun k' j a => by rw [fmI_k _ _ a]; exact f1 k' j a) f2
      · have hk00 : k = 0 := (by have e9 := congrArg Int32.toInt hc25; have z0 : (0 : Int32).toInt = 0 := (by decide); omega)
        refine pv_aloadn (pc := 28) (n := 1) 1 rfl rfl (fm_dec dtX3_prepare 16 rfl) ?_
        refine pv_getI (k := 47) (j := 3) (ci := 6) (pc := 29) pfl_X3_47 (by decide) rfl (by decide) (fm_dec dtX3_prepare 17 rfl) ?_
        refine pv_goto (pc := 32) 45 (by decide) (fm_dec dtX3_prepare 18 rfl) ?_
        have hv : (M.1 47 3).toInt = (S.1.2.1 : Int) := (by rw [f1 47 3 (by decide)]; exact hs0.2.2.1)
        refine pv_istore (pc := 45) (i := 4) (by decide) rfl (fm_dec dtX3_prepare 23 rfl) ?_
        dsimp only [List.set_cons_zero, List.set_cons_succ]
        refine pv_aloadn (pc := 47) (n := 0) 0 rfl rfl (fm_dec dtX3_prepare 24 rfl) ?_
        refine pv_getR (k := 34) (j := 4) (ci := 3) (pc := 48) 38 rfl (by decide) pfl_X3_22 (by decide) rfl (by decide) (fm_dec dtX3_prepare 25 rfl) ?_
        refine pv_iloadn (pc := 51) (n := 3) 3 rfl rfl (fm_dec dtX3_prepare 26 rfl) ?_
        refine pv_iloadn (pc := 52) (n := 3) 3 rfl rfl (fm_dec dtX3_prepare 27 rfl) ?_
        refine pv_iloadn (pc := 53) (n := 2) 2 rfl rfl (fm_dec dtX3_prepare 28 rfl) ?_
        refine pv_icmp_ge (pc := 54) 71 (by decide) (fm_dec dtX3_prepare 29 rfl) (fun hc54 => by exfalso; rw [sc_le] at hc54; have hk0 : k = 0 := hk00; omega) (fun _ => ?_)
        have e12 : ∀ (x : Int32) (a : Nat), x.toInt = (a : Int) → a ≤ 12 → (pvMx true 0 (pvMx false 12 x)).toInt = ((a : Nat) : Int) := fun x a hx h9 => (by rw [mxt, mxf, hx]; have z0 : (0 : Int32).toInt = 0 := (by decide); have z12 : (12 : Int32).toInt = 12 := (by decide); omega)
        refine pv_iconst (pc := 57) (v := 0) (by decide) (fm_dec dtX3_prepare 30 rfl) ?_
        refine pv_bipush (pc := 58) (v := 12) (by decide) (fm_dec dtX3_prepare 31 rfl) ?_
        refine pv_iload (pc := 60) (i := 4) rfl (fm_dec dtX3_prepare 32 rfl) ?_
        refine pv_mm (pc := 62) pmm_X3_63 (by decide) (Nat.le_of_ble_eq_true rfl) (fm_dec dtX3_prepare 33 rfl) ?_
        refine pv_mm (pc := 65) pmm_X3_69 (by decide) (Nat.le_of_ble_eq_true rfl) (fm_dec dtX3_prepare 34 rfl) ?_
        refine pv_goto (pc := 68) 72 (by decide) (fm_dec dtX3_prepare 35 rfl) ?_
        refine pv_iast (k := 38) (n := 3) (pc := 72) (by decide) rfl rfl (ix_in hk9 (by omega)) (fm_dec dtX3_prepare 37 rfl) ?_
        refine pv_iincc (pc := 73) 3 1 (by decide) rfl (by decide) rfl (fm_dec dtX3_prepare 38 rfl) ?_
        dsimp only [List.set_cons_zero, List.set_cons_succ]
        refine pv_goto (pc := 76) 19 (by decide) (fm_dec dtX3_prepare 39 rfl) ?_
        rw [nI_succ1, i32_cl hk9]
        exact ih (3 - (k + 1)) (by omega) (k + 1) _ _ (by omega) rfl (fun k' a => by by_cases e : k' = k; (subst e; rw [fmI_s]; exact (by rw [e12 _ _ hv ho.2.1]; unfold moS; rw [if_pos (by omega), if_pos hk00])); (rw [fmI_j _ _ e]; exact hmo k' (by omega))) (fun k' j a => by rw [fmI_k _ _ a]; exact f1 k' j a) f2
theorem fmJ_s2' {M : fmM} {k j a b : Nat} {x : Int64} {y : Int32} : (fmI (fmJ M k j x) a b y).2 k j = x := fmJ_s2
theorem mo_pl {D : dD} {cs : tC} {S : aS} {n : Nat} (ho : stO D S) (h1n : 1 ≤ n) : bfS D cs S n D.1 (moS D S n 0) (moS D S n 1) (moS D S n 2) = plV D cs S n := by
  have e0 : moS D S n 0 = S.1.2.1 := by
    unfold moS
    rw [if_pos (by omega), if_pos rfl]
  have e1 : moS D S n 1 = if 1 < n then (D.2.2.2.2 2).toNat else 0 := by
    unfold moS
    rw [if_neg (show ¬ (1 : Nat) = 0 by decide)]
  have e2 : moS D S n 2 = if 2 < n then (D.2.2.2.2 2).toNat else 0 := by
    unfold moS
    rw [if_neg (show ¬ (2 : Nat) = 0 by decide)]
  rw [e0, e1, e2]
  rfl
set_option maxRecDepth 20000 in
theorem xpp_2 {Q : fmR → fmM → Prop} {M0 : fmM} {D : dD} {cs : tC} {S : aS} {n : Nat} (h0 : xAq M0 D cs S) (h1n : 1 ≤ n) (h3n : n ≤ 3) (hq : ∀ M' : fmM, (M'.2 34 6).toInt = ((plV D cs S n : Nat) : Int) → (M'.1 34 5).toInt = (n : Int) → (∀ k j, k ≠ 26 → k ≠ 37 → k ≠ 38 → k ≠ 34 → M'.1 k j = M0.1 k j) → (∀ k j, k ≠ 35 → k ≠ 36 → k ≠ 34 → M'.2 k j = M0.2 k j) → Q (.inl none) M') : ∀ (m : Nat) (l : Nat) (M : fmM) (v4 : Option Value), l ≤ D.1 → D.1 - l = m → ceP M (bfS D cs S n l) (moS D S n 0) (moS D S n 1) (moS D S n 2) → (∀ k j, k ≠ 26 → k ≠ 37 → k ≠ 38 → M.1 k j = M0.1 k j) → (∀ k j, k ≠ 35 → k ≠ 36 → M.2 k j = M0.2 k j) →  (∀ k, k < 3 → (M.1 38 k).toInt = ((moS D S n k : Nat) : Int)) → pvEv Tx 23 qX3_prepare 81 [some (.ref 34), some (.ref 47), some (.int (nI n)), some (.int (nI l)), v4] [] M Q := by
  intro m
  induction m using Nat.strongRecOn with
  | _ m ih =>
    intro l M v4 hlD hm hC f1 f2 hmo
    have hq0 := h0
    obtain ⟨hD, hX0, hL0, hs0, ho⟩ := hq0
    have d8 := hD.1
    have hn9 : (nI n).toInt = (n : Int) := nI_toInt (by omega)
    have p8 := p2_n h1n h3n
    have hl9 : (nI l).toInt = (l : Int) := nI_toInt (by omega)
    have hxM : xAq M D cs S := h0.pk (fun k' j a => f1 k' j (by omega) (by omega) (by omega)) (f2 47 6 (by decide) (by decide))
    have h39 : (M.1 3 9).toInt = (D.1 : Int) := hxM.2.1.1.1
    refine pv_iloadn (pc := 81) (n := 3) 3 rfl rfl (fm_dec dtX3_prepare 42 rfl) ?_
    refine pv_aloadn (pc := 82) (n := 0) 0 rfl rfl (fm_dec dtX3_prepare 43 rfl) ?_
    refine pv_getR (k := 34) (j := 0) (ci := 3) (pc := 83) 32 rfl (by decide) pfl_X3_25 (by decide) rfl (by decide) (fm_dec dtX3_prepare 44 rfl) ?_
    refine pv_getR (k := 32) (j := 0) (ci := 0) (pc := 86) 3 rfl (by decide) pfl_X3_52 (by decide) rfl (by decide) (fm_dec dtX3_prepare 45 rfl) ?_
    refine pv_getI (k := 3) (j := 9) (ci := 8) (pc := 89) pfl_X3_72 (by decide) rfl (by decide) (fm_dec dtX3_prepare 46 rfl) ?_
    refine pv_icmp_ge (pc := 92) 138 (by decide) (fm_dec dtX3_prepare 47 rfl) (fun hc92 => ?_) (fun hc92 => ?_)
    · have e9 : l = D.1 := (by rw [sc_le] at hc92; omega)
      subst e9
      refine pv_aloadn (pc := 138) (n := 0) 0 rfl rfl (fm_dec dtX3_prepare 71 rfl) ?_
      refine pv_aloadn (pc := 139) (n := 0) 0 rfl rfl (fm_dec dtX3_prepare 72 rfl) ?_
      refine pv_getR (k := 34) (j := 1) (ci := 3) (pc := 140) 35 rfl (by decide) pfl_X3_11 (by decide) rfl (by decide) (fm_dec dtX3_prepare 73 rfl) ?_
      refine pv_aloadn (pc := 143) (n := 0) 0 rfl rfl (fm_dec dtX3_prepare 74 rfl) ?_
      refine pv_getR (k := 34) (j := 4) (ci := 3) (pc := 144) 38 rfl (by decide) pfl_X3_22 (by decide) rfl (by decide) (fm_dec dtX3_prepare 75 rfl) ?_
      refine pv_iconst (pc := 147) (v := 0) (by decide) (fm_dec dtX3_prepare 76 rfl) ?_
      refine pv_iald (k := 38) (n := 3) (pc := 148) (by decide) rfl rfl (ix_in (show (0 : Int32).toInt = ((0 : Nat) : Int) by decide) (by decide)) (fm_dec dtX3_prepare 77 rfl) ?_
      refine pv_aloadn (pc := 149) (n := 0) 0 rfl rfl (fm_dec dtX3_prepare 78 rfl) ?_
      refine pv_getR (k := 34) (j := 4) (ci := 3) (pc := 150) 38 rfl (by decide) pfl_X3_22 (by decide) rfl (by decide) (fm_dec dtX3_prepare 79 rfl) ?_
      refine pv_iconst (pc := 153) (v := 1) (by decide) (fm_dec dtX3_prepare 80 rfl) ?_
      refine pv_iald (k := 38) (n := 3) (pc := 154) (by decide) rfl rfl (ix_in (show (1 : Int32).toInt = ((1 : Nat) : Int) by decide) (by decide)) (fm_dec dtX3_prepare 81 rfl) ?_
      refine pv_aloadn (pc := 155) (n := 0) 0 rfl rfl (fm_dec dtX3_prepare 82 rfl) ?_
      refine pv_getR (k := 34) (j := 4) (ci := 3) (pc := 156) 38 rfl (by decide) pfl_X3_22 (by decide) rfl (by decide) (fm_dec dtX3_prepare 83 rfl) ?_
      refine pv_iconst (pc := 159) (v := 2) (by decide) (fm_dec dtX3_prepare 84 rfl) ?_
      refine pv_iald (k := 38) (n := 3) (pc := 160) (by decide) rfl rfl (ix_in (show (2 : Int32).toInt = ((2 : Nat) : Int) by decide) (by decide)) (fm_dec dtX3_prepare 85 rfl) ?_
      refine pv_iS3 (d' := 0) (pc := 161) pcs_X3_90 (Nat.le_of_ble_eq_true rfl) (by decide) (fm_dec dtX3_prepare 86 rfl) ?_
      refine c_xcell (hmo 0 (by decide)) (hmo 1 (by decide)) (hmo 2 (by decide)) (mo_b hD ho) (mo_b hD ho) (mo_b hD ho) (fun r161 h161 => ?_)
      refine pv_then1 ?_
      refine pv_lald (k := 35) (n := 2197) (pc := 164) (by decide) rfl rfl (ix_in h161 (ci_b (mo_b hD ho) (mo_b hD ho) (mo_b hD ho))) (fm_dec dtX3_prepare 87 rfl) ?_
      refine pv_putJ (k := 34) (j := 6) (ci := 3) (pc := 165) pfl_X3_33 (by decide) rfl (by decide) (fm_dec dtX3_prepare 88 rfl) ?_
      refine pv_aloadn (pc := 168) (n := 0) 0 rfl rfl (fm_dec dtX3_prepare 89 rfl) ?_
      refine pv_iloadn (pc := 169) (n := 2) 2 rfl rfl (fm_dec dtX3_prepare 90 rfl) ?_
      refine pv_putI (k := 34) (j := 5) (ci := 3) (pc := 170) pfl_X3_29 (by decide) rfl (by decide) (fm_dec dtX3_prepare 91 rfl) ?_
      exact pv_return (pc := 173) rfl (fm_dec dtX3_prepare 92 rfl) (hq _ (by rw [fmJ_s2', i32_cl h161]; rw [hC _ _ _ (Nat.le_refl _) (Nat.le_refl _) (Nat.le_refl _)]; exact congrArg (fun x : Nat => (x : Int)) (mo_pl ho h1n)) (by rw [fmI_s]; exact hn9) (fun k j p q r s => by rw [fmI_k _ _ s]; exact f1 k j p q r) (fun k j p q r => by show (fmJ M 34 6 _).2 k j = _; rw [fmJ_k2 r]; exact f2 k j p q))
    · have hl : l < D.1 := (by rw [sc_le] at hc92; omega)
      have hl8 : l < 8 := (by omega)
      have g5 : (M.1 5 l).toInt = D.2.1 l 1 := hxM.2.1.2.1 l hl 1 (by decide)
      have b1 := (hD.2.2.1 l hl).2.1
      refine pv_aloadn (pc := 95) (n := 1) 1 rfl rfl (fm_dec dtX3_prepare 48 rfl) ?_
      refine pv_iloadn (pc := 96) (n := 3) 3 rfl rfl (fm_dec dtX3_prepare 49 rfl) ?_
      refine pv_invV1 (k := 47) (d' := 0) (pc := 97) pcv_X3_75 (by decide) rfl (Nat.le_of_ble_eq_true rfl) (by decide) (fm_dec dtX3_prepare 50 rfl) ?_
      refine c_xaliv hxM.2.2.2.1 ho hl8 ?_
      refine pv_then1 ?_
      refine pv_if_eq (pc := 100) 132 (by decide) (fm_dec dtX3_prepare 51 rfl) (fun hc100 => ?_) (fun hc100 => ?_)
      · refine pv_iincc (pc := 132) 3 1 (by decide) rfl (by decide) rfl (fm_dec dtX3_prepare 69 rfl) ?_
        dsimp only [List.set_cons_zero, List.set_cons_succ]
        refine pv_goto (pc := 135) 81 (by decide) (fm_dec dtX3_prepare 70 rfl) ?_
        rw [nI_succ1]
        refine ih (D.1 - (l + 1)) (by omega) (l + 1) _ _ (by omega) rfl (hC.of rfl (fun x y z _ _ _ => by rw [bf_t (Or.inl (al_b hc100))])) (fun k j p q r => ?_) (fun k j p q => ?_) (fun k a => ?_)
        · exact f1 k j p q r
        · exact f2 k j p q
        · exact hmo k a
      · refine pv_aloadn (pc := 103) (n := 0) 0 rfl rfl (fm_dec dtX3_prepare 52 rfl) ?_
        refine pv_getR (k := 34) (j := 0) (ci := 3) (pc := 104) 32 rfl (by decide) pfl_X3_25 (by decide) rfl (by decide) (fm_dec dtX3_prepare 53 rfl) ?_
        refine pv_getR (k := 32) (j := 0) (ci := 0) (pc := 107) 3 rfl (by decide) pfl_X3_52 (by decide) rfl (by decide) (fm_dec dtX3_prepare 54 rfl) ?_
        refine pv_getR (k := 3) (j := 1) (ci := 8) (pc := 110) 5 rfl (by decide) pfl_X3_79 (by decide) rfl (by decide) (fm_dec dtX3_prepare 55 rfl) ?_
        refine pv_iloadn (pc := 113) (n := 3) 3 rfl rfl (fm_dec dtX3_prepare 56 rfl) ?_
        refine pv_iald (k := 5) (n := 8) (pc := 114) (by decide) rfl rfl (ix_in hl9 (by omega)) (fm_dec dtX3_prepare 57 rfl) ?_
        rw [i32_cl hl9]
        refine pv_if_le (pc := 115) 132 (by decide) (fm_dec dtX3_prepare 58 rfl) (fun hc115 => ?_) (fun hc115 => ?_)
        · refine pv_iincc (pc := 132) 3 1 (by decide) rfl (by decide) rfl (fm_dec dtX3_prepare 69 rfl) ?_
          dsimp only [List.set_cons_zero, List.set_cons_succ]
          refine pv_goto (pc := 135) 81 (by decide) (fm_dec dtX3_prepare 70 rfl) ?_
          rw [nI_succ1]
          refine ih (D.1 - (l + 1)) (by omega) (l + 1) _ _ (by omega) rfl (hC.of rfl (fun x y z _ _ _ => by rw [bf_t (Or.inr (by rw [sc_le] at hc115; have z0 : (0 : Int32).toInt = 0 := (by decide); omega))])) (fun k j p q r => ?_) (fun k j p q => ?_) (fun k a => ?_)
          · exact f1 k j p q r
          · exact f2 k j p q
          · exact hmo k a
        · refine pv_aloadn (pc := 118) (n := 0) 0 rfl rfl (fm_dec dtX3_prepare 59 rfl) ?_
          refine pv_aloadn (pc := 119) (n := 1) 1 rfl rfl (fm_dec dtX3_prepare 60 rfl) ?_
          refine pv_iloadn (pc := 120) (n := 3) 3 rfl rfl (fm_dec dtX3_prepare 61 rfl) ?_
          refine pv_iloadn (pc := 121) (n := 2) 2 rfl rfl (fm_dec dtX3_prepare 62 rfl) ?_
          refine pv_invV3 (k := 34) (d' := 22) (pc := 122) pcv_X3_82 (by decide) rfl (Nat.le_of_ble_eq_true rfl) (by decide) (fm_dec dtX3_prepare 63 rfl) ?_
          refine c_xweigh hxM hl h1n h3n (fun M122 v122 n122 p122 q122 => ?_)
          refine pv_then0 ?_
          refine pv_aloadn (pc := 125) (n := 0) 0 rfl rfl (fm_dec dtX3_prepare 64 rfl) ?_
          refine pv_iconst (pc := 126) (v := 1) (by decide) (fm_dec dtX3_prepare 65 rfl) ?_
          refine pv_iloadn (pc := 127) (n := 2) 2 rfl rfl (fm_dec dtX3_prepare 66 rfl) ?_
          refine pv_ishl (pc := 128) (fm_dec dtX3_prepare 67 rfl) ?_
          rw [p2n n (by omega)]
          refine pv_invV1 (k := 34) (d' := 2) (pc := 129) pcv_X3_86 (by decide) rfl (Nat.le_of_ble_eq_true rfl) (by decide) (fm_dec dtX3_prepare 68 rfl) ?_
          refine c_xadd (f := bfS D cs S n l) (nd := ndS D S l) (v := vwS D cs S n l) (m0 := moS D S n 0) (m1 := moS D S n 1) (m2 := moS D S n 2) ⟨by omega, p8.2⟩ (fun x y z => by have h9 := bf_b (cs := cs) (S := S) hD h3n l (by omega) x y z; omega) (fun w hw => ⟨v122 w hw, by have h9 := vw_b (cs := cs) (S := S) (wk := w) hD hl h3n (by omega); omega⟩) (fun w k hw hk => ⟨n122 w k hw hk, (nd_b hD hl).1⟩) (mo_b hD ho) (mo_b hD ho) (mo_b hD ho) (by rw [p122 38 0 (by decide) (by decide)]; exact hmo 0 (by decide)) (by rw [p122 38 1 (by decide) (by decide)]; exact hmo 1 (by decide)) (by rw [p122 38 2 (by decide) (by decide)]; exact hmo 2 (by decide)) (hC.of (funext (fun j => q122 35 j (by decide))) (fun x y z _ _ _ => rfl)) (fun M129 c129 p129 q129 => ?_)
          refine pv_then0 ?_
          refine pv_iincc (pc := 132) 3 1 (by decide) rfl (by decide) rfl (fm_dec dtX3_prepare 69 rfl) ?_
          dsimp only [List.set_cons_zero, List.set_cons_succ]
          refine pv_goto (pc := 135) 81 (by decide) (fm_dec dtX3_prepare 70 rfl) ?_
          rw [nI_succ1]
          refine ih (D.1 - (l + 1)) (by omega) (l + 1) _ _ (by omega) rfl (c129.of rfl (fun x y z _ _ _ => by rw [bf_f (by rintro (e | e); (rw [al_n hc100] at e; cases e); (rw [sc_le] at hc115; have z0 : (0 : Int32).toInt = 0 := (by decide); omega))])) (fun k j p q r => ?_) (fun k j p q => ?_) (fun k a => ?_)
          · rw [p129, p122 k j p q]
            exact f1 k j p q r
          · rw [q129 k j p, q122 k j q]
            exact f2 k j p q
          · rw [p129, p122 38 k (by decide) (by decide)]
            exact hmo k a
set_option maxRecDepth 20000 in
theorem c_xprep {M : fmM} {Q : fmR → fmM → Prop} {D : dD} {cs : tC} {S : aS} {n : Nat} (h0 : xAq M D cs S) (h1n : 1 ≤ n) (h3n : n ≤ 3) (hc : (M.1 34 5).toInt = (n : Int) → (M.2 34 6).toInt = ((plV D cs S n : Nat) : Int)) (hq : ∀ M' : fmM, (M'.2 34 6).toInt = ((plV D cs S n : Nat) : Int) → (M'.1 34 5).toInt = (n : Int) → (∀ k j, k ≠ 26 → k ≠ 37 → k ≠ 38 → k ≠ 34 → M'.1 k j = M.1 k j) → (∀ k j, k ≠ 35 → k ≠ 36 → k ≠ 34 → M'.2 k j = M.2 k j) → Q (.inl none) M') : pvGood Tx 23 qX3_prepare [.ref 34, .ref 47, .int (nI n)] M Q := by
  refine pvGood_of (Nat.le_of_ble_eq_true rfl) ?_
  show pvEv Tx 23 qX3_prepare 0 [some (.ref 34), some (.ref 47), some (.int (nI n)), none, none] [] M Q
  have hq0 := h0
  obtain ⟨hD, hX0, hL0, hs0, ho⟩ := hq0
  have hn9 : (nI n).toInt = (n : Int) := nI_toInt (by omega)
  refine pv_aloadn (pc := 0) (n := 0) 0 rfl rfl (fm_dec dtX3_prepare 0 rfl) ?_
  refine pv_getI (k := 34) (j := 5) (ci := 3) (pc := 1) pfl_X3_29 (by decide) rfl (by decide) (fm_dec dtX3_prepare 1 rfl) ?_
  refine pv_iloadn (pc := 4) (n := 2) 2 rfl rfl (fm_dec dtX3_prepare 2 rfl) ?_
  refine pv_icmp_ne (pc := 5) 9 (by decide) (fm_dec dtX3_prepare 3 rfl) (fun hc5 => ?_) (fun hc5 => ?_)
  · refine pv_aloadn (pc := 9) (n := 0) 0 rfl rfl (fm_dec dtX3_prepare 5 rfl) ?_
    refine pv_getR (k := 34) (j := 1) (ci := 3) (pc := 10) 35 rfl (by decide) pfl_X3_11 (by decide) rfl (by decide) (fm_dec dtX3_prepare 6 rfl) ?_
    refine pv_lconst (pc := 13) (v := 0) (by decide) (fm_dec dtX3_prepare 7 rfl) ?_
    refine pv_iS2 (d' := 1) (pc := 14) pcs_X3_41 (Nat.le_of_ble_eq_true rfl) (by decide) (fm_dec dtX3_prepare 8 rfl) ?_
    refine c_xfj (fun M14 g14 k14 l14 => ?_)
    refine pv_then0 ?_
    refine pv_iconst (pc := 17) (v := 0) (by decide) (fm_dec dtX3_prepare 9 rfl) ?_
    refine pv_istoren (pc := 18) (n := 3) 3 rfl (by decide) rfl (fm_dec dtX3_prepare 10 rfl) ?_
    dsimp only [List.set_cons_zero, List.set_cons_succ]
    have h14 : xAq M14 D cs S := h0.pk (fun k j a => by rw [l14]) (k14 47 6 (by decide))
    refine xpp_1 h14 h1n h3n (fun M79 k79 v79 hm79 p79 q79 => ?_) 3 0 M14 _ (by decide) rfl (fun k a => absurd a (Nat.not_lt_zero _)) (fun _ _ _ => rfl) rfl
    refine pv_iconst (pc := 79) (v := 0) (by decide) (fm_dec dtX3_prepare 40 rfl) ?_
    refine pv_istoren (pc := 80) (n := 3) 3 rfl (by decide) rfl (fm_dec dtX3_prepare 41 rfl) ?_
    dsimp only [List.set_cons_zero, List.set_cons_succ]
    exact xpp_2 h0 h1n h3n hq D.1 0 M79 _ (Nat.zero_le _) rfl (fun x y z p q r => by rw [q79, g14 _ (ci_b (by have := mo_b (n := n) (k := 0) hD ho; omega) (by have := mo_b (n := n) (k := 1) hD ho; omega) (by have := mo_b (n := n) (k := 2) hD ho; omega))]; exact (show (0 : Int64).toInt = ((0 : Nat) : Int) by decide)) (fun k j p q r => by rw [p79 k j r, l14]) (fun k j p q => by rw [q79]; exact k14 k j p) hm79
  · exact pv_return (pc := 8) rfl (fm_dec dtX3_prepare 4 rfl) (hq M (hc (by rw [hc5]; exact hn9)) (by rw [hc5]; exact hn9) (fun _ _ _ _ _ _ => rfl) (fun _ _ _ _ _ => rfl))
theorem c_mrn {M : fmM} {Q : fmR → fmM → Prop} {D : dD} {i : Nat} (hD : dOk D) (hY : mdw M D) (hi : i < D.1) (hq : ∀ r : Int32, r.toInt = ((max 1 ((D.2.1 i 3).toNat / (D.2.2.2.2 5).toNat) : Nat) : Int) → Q (.inl (some (.int r))) M) : pvGood Tm 1 qX11_renewHours [.ref 0, .int (nI i)] M Q := by
  have d8 := hD.1
  have g3 := hY.2.2.2.1 i hi 3 (by decide)
  have b3 := (hD.2.2.1 i hi).2.2.2.1
  have g5 := hY.2.2.1 5 (by decide) (by decide)
  have b5 := hD.2.2.2.2.2.2.2
  exact c_renew (nI_toInt (by omega)) (by omega) (h5_ne hD hY) (hq _ (mx_1 (dv_n (by omega) (by omega) (by omega) (by omega))))
set_option maxRecDepth 20000 in
theorem mio_loop {Q : fmR → fmM → Prop} {M0 : fmM} {D : dD} {cs : tC} {S : aS} {i n wk : Nat} {d : Int32} (hD : dOk D) (ho : stO D S) (hd : cs = [] ∨ dpB 23 0 cs = some 1) (hi : i < D.1) (h3n : n ≤ 3) (hwn : wk < 2 ^ n) (hwk : wk < 8) (hdd : d.toInt = D.2.1 i 1) (hyes : (∀ M' : fmM, (∀ k, k < 3 → (M'.1 13 k).toInt = ((ndS D S i wk k : Nat) : Int)) → (∀ k, k < 3 → ndS D S i wk k ≤ 9) → (M'.2 0 43).toInt = ((hnN D cs S i wk n : Nat) : Int) → isFr M0 M' → Q (.inl (some (.int 1))) M')) (hno0 : (∀ M' : fmM, (∃ k, k < 3 ∧ 12 < ndS D S i wk k) → isFr M0 M' → Q (.inl (some (.int 0))) M')) : ∀ (m : Nat) (k : Nat) (M : fmM) (wr : Int32) (v7 : Option Value), mAq M D cs S → k ≤ n → n - k = m → wr.toInt = (if agW S i wk k = -1 then -1000 else ((S.1.1 + k : Nat) : Int) - agW S i wk k) → (∀ k', k' < 3 → (M.1 13 k').toInt = (((if k' < k then ndS D S i wk k' else 0) : Nat) : Int)) → (∀ k', k' < k → ndS D S i wk k' ≤ 9) → (M.2 0 43).toInt = ((hnN D cs S i wk k * 64 ^ (n - k) : Nat) : Int) → isFr M0 M → pvEv Tm 8 qX11_isOption 74 [some (.ref 0), some (.int (nI i)), some (.int (nI n)), some (.int (nI wk)), some (.int wr), some (.int d), some (.int (nI k)), v7] [] M Q := by
  intro m
  induction m using Nat.strongRecOn with
  | _ m ih =>
    intro k M wr v7 h hkn0 hm hwr hsp hno hsu hfr
    have d8 := hD.1
    have b1 := (hD.2.2.1 i hi).2.1
    have hi9 : (nI i).toInt = (i : Int) := nI_toInt (by omega)
    have hi8 : i < 8 := by omega
    have hk9 : (nI k).toInt = (k : Int) := nI_toInt (by omega)
    have hn9 : (nI n).toInt = (n : Int) := nI_toInt (by omega)
    refine pv_iload (pc := 74) (i := 6) rfl (fm_dec dtX11_isOption 44 rfl) ?_
    refine pv_iloadn (pc := 76) (n := 2) 2 rfl rfl (fm_dec dtX11_isOption 45 rfl) ?_
    refine pv_icmp_ge (pc := 77) 203 (by decide) (fm_dec dtX11_isOption 46 rfl) (fun hc77 => ?_) (fun hc77 => ?_)
    · refine pv_iconst (pc := 203) (v := 1) (by decide) (fm_dec dtX11_isOption 115 rfl) ?_
      exact pv_zreturn (pc := 204) rfl (by first | exact Or.inr rfl | exact Or.inl rfl) (fm_dec dtX11_isOption 116 rfl) (by have e9 : k = n := (by rw [sc_le] at hc77; omega); subst e9; exact hyes M (fun k' a => by rw [hsp k' a]; by_cases e : k' < k; (rw [if_pos e]); (rw [if_neg e, nd_z hwn (by omega)])) (fun k' a => by by_cases e : k' < k; exact hno k' e; (rw [nd_z hwn (by omega)]; exact Nat.zero_le _)) (by rw [hsu, Nat.sub_self, Nat.pow_zero, Nat.mul_one]) hfr)
    · have hkn : k < n := (by rw [sc_le] at hc77; omega)
      have cb := cc_b (cs := cs) (S := S) (wk := wk) (k := k) hD hi
      have hb := hn_b (cs := cs) (S := S) (wk := wk) hD hi k
      have hb2 := hn_b (cs := cs) (S := S) (wk := wk) hD hi (k + 1)
      have q7 := pe_7 (d := (D.2.1 i 1).toNat) (k := k) (by omega)
      have pb := agP_b (wk := wk) (k := k) ho hi
      have wb := agW_b (wk := wk) ho hi k
      have w2 := ho.1
      have ab := ag_b ho hi
      have ehn : hnN D cs S i wk (k + 1) = hnN D cs S i wk k * 64 + tcN D cs S i wk k := rfl
      have p7 := p64_7 (k := n) (by omega)
      have t1 : (64 - (D.2.1 i 1).toNat) ^ k * (D.2.1 i 1).toNat ≤ 4398046511104 * 64 := Nat.mul_le_mul q7 (by omega)
      have pp : (64 : Nat) ^ (k + 1) * 64 ^ (n - 1 - k) = 64 ^ n := (by rw [← Nat.pow_add]; congr 1; omega)
      have b8 : hnN D cs S i wk (k + 1) * 64 ^ (n - 1 - k) ≤ 57024 * 64 ^ n := (by have h8 : hnN D cs S i wk (k + 1) * 64 ^ (n - 1 - k) ≤ 57024 * 64 ^ (k + 1) * 64 ^ (n - 1 - k) := Nat.mul_le_mul_right _ (by omega); rw [Nat.mul_assoc, pp] at h8; exact h8)
      have b7 : tcN D cs S i wk k * 64 ^ (n - 1 - k) ≤ hnN D cs S i wk (k + 1) * 64 ^ (n - 1 - k) := Nat.mul_le_mul_right _ (by omega)
      have b6 : tcN D cs S i wk k ≤ 57024 * 64 ^ (k + 1) := (by omega)
      have p8 := p64_7 (k := k + 1) (by omega)
      have hpk : hnN D cs S i wk k * 64 ^ (n - k) = hnN D cs S i wk k * 64 * 64 ^ (n - 1 - k) := (by rw [Nat.mul_assoc, ← Nat.pow_succ']; congr 2; omega)
      have hsm : hnN D cs S i wk k * 64 ^ (n - k) + tcN D cs S i wk k * 64 ^ (n - 1 - k) = hnN D cs S i wk (k + 1) * 64 ^ (n - (k + 1)) := (by rw [hpk, ← Nat.add_mul, ← ehn]; congr 2; omega)
      have g10 : (M.1 7 (Int32.toNatClampNeg 10)).toInt = (S.1.1 : Int) := h.2.2.2.2.1.2.1
      have hwk9 : (M.1 7 (Int32.toNatClampNeg 10) + nI k).toInt = ((S.1.1 + k : Nat) : Int) := (by rw [sc_add (by omega) (by omega)]; omega)
      have zm : (-1000 : Int32).toInt = -1000 := (by decide)
      refine pv_aloadn (pc := 80) (n := 0) 0 rfl rfl (fm_dec dtX11_isOption 47 rfl) ?_
      refine pv_getR (k := 0) (j := 27) (ci := 11) (pc := 81) 7 rfl (by decide) pfl_X11_61 (by decide) rfl (by decide) (fm_dec dtX11_isOption 48 rfl) ?_
      refine pv_bipush (pc := 84) (v := 10) (by decide) (fm_dec dtX11_isOption 49 rfl) ?_
      refine pv_iald (k := 7) (n := 14) (pc := 86) (by decide) rfl rfl (fm_inl (by decide)) (fm_dec dtX11_isOption 50 rfl) ?_
      refine pv_iload (pc := 87) (i := 6) rfl (fm_dec dtX11_isOption 51 rfl) ?_
      refine pv_iadd (pc := 89) (fm_dec dtX11_isOption 52 rfl) ?_
      refine pv_istore (pc := 90) (i := 7) (by decide) rfl (fm_dec dtX11_isOption 53 rfl) ?_
      dsimp only [List.set_cons_zero, List.set_cons_succ]
      refine pv_iloadn (pc := 92) (n := 3) 3 rfl rfl (fm_dec dtX11_isOption 54 rfl) ?_
      refine pv_iload (pc := 93) (i := 6) rfl (fm_dec dtX11_isOption 55 rfl) ?_
      refine pv_iS2 (d' := 0) (pc := 95) pcs_X11_256 (Nat.le_of_ble_eq_true rfl) (by decide) (fm_dec dtX11_isOption 56 rfl) ?_
      refine c_has (fun h95 => ?_) (fun h95 => ?_)
      · refine pv_then1 ?_
        refine pv_if_eq (pc := 98) 145 (by decide) (fm_dec dtX11_isOption 57 rfl) (fun hc98 => by exfalso; revert hc98; decide) (fun _ => ?_)
        have hbit : wk.testBit k = true := (has8 wk (by omega) k (by omega)).mp h95
        have hagP : agP S i wk k = 0 := (by unfold agP; rw [if_pos hbit])
        refine pv_iload (pc := 101) (i := 4) rfl (fm_dec dtX11_isOption 58 rfl) ?_
        refine pv_iload (pc := 103) (i := 7) rfl (fm_dec dtX11_isOption 59 rfl) ?_
        refine pv_icmp_ne (pc := 105) 110 (by decide) (fm_dec dtX11_isOption 60 rfl) (fun hc105 => ?_) (fun hc105 => ?_)
        · have hw0 : ¬ agW S i wk k = 0 := (fun e => hc105 (i32_ext (by rw [hwr, hwk9, if_neg (by omega), e]; omega)))
          refine pv_aloadn (pc := 110) (n := 0) 0 rfl rfl (fm_dec dtX11_isOption 63 rfl) ?_
          refine pv_getR (k := 0) (j := 42) (ci := 11) (pc := 111) 13 rfl (by decide) pfl_X11_86 (by decide) rfl (by decide) (fm_dec dtX11_isOption 64 rfl) ?_
          refine pv_iload (pc := 114) (i := 6) rfl (fm_dec dtX11_isOption 65 rfl) ?_
          refine pv_iload (pc := 116) (i := 4) rfl (fm_dec dtX11_isOption 66 rfl) ?_
          refine pv_sipush (pc := 118) (v := (-1000)) (by decide) (fm_dec dtX11_isOption 67 rfl) ?_
          refine pv_icmp_ne (pc := 121) 135 (by decide) (fm_dec dtX11_isOption 68 rfl) (fun hc121 => ?_) (fun hc121 => ?_)
          · have hnd9 : ndS D S i wk k = max 1 ((D.2.1 i 3).toNat / (D.2.2.2.2 5).toNat) := (by unfold ndS; rw [if_pos hbit, if_neg hw0, if_neg (fun e => hc121 (i32_ext (by rw [hwr, if_pos e]; decide)))])
            refine pv_aloadn (pc := 135) (n := 0) 0 rfl rfl (fm_dec dtX11_isOption 76 rfl) ?_
            refine pv_iloadn (pc := 136) (n := 1) 1 rfl rfl (fm_dec dtX11_isOption 77 rfl) ?_
            refine pv_invV1 (k := 0) (d' := 1) (pc := 137) pcv_X11_287 (by decide) rfl (Nat.le_of_ble_eq_true rfl) (by decide) (fm_dec dtX11_isOption 78 rfl) ?_
            refine c_mrn hD h.2.1 hi (fun r137 h137 => ?_)
            refine pv_then1 ?_
            refine pv_iast (k := 13) (n := 3) (pc := 140) (by decide) rfl rfl (ix_in hk9 (by omega)) (fm_dec dtX11_isOption 79 rfl) ?_
            rw [i32_cl hk9]
            refine pv_iload (pc := 141) (i := 7) rfl (fm_dec dtX11_isOption 80 rfl) ?_
            refine pv_istore (pc := 143) (i := 4) (by decide) rfl (fm_dec dtX11_isOption 81 rfl) ?_
            dsimp only [List.set_cons_zero, List.set_cons_succ]
            have hmA := h.p13 (j := k) (v := r137)
            refine pv_aloadn (pc := 145) (n := 0) 0 rfl rfl (fm_dec dtX11_isOption 82 rfl) ?_
            refine pv_dup (pc := 146) rfl (fm_dec dtX11_isOption 83 rfl) ?_
            refine pv_getJ (k := 0) (j := 43) (ci := 11) (pc := 147) pfl_X11_361 (by decide) rfl (by decide) (fm_dec dtX11_isOption 84 rfl) ?_
            refine pv_bipush (pc := 150) (v := 64) (by decide) (fm_dec dtX11_isOption 85 rfl) ?_
            refine pv_iload (pc := 152) (i := 5) rfl (fm_dec dtX11_isOption 86 rfl) ?_
            refine pv_isub (pc := 154) (fm_dec dtX11_isOption 87 rfl) ?_
            refine pv_i2l (pc := 155) (fm_dec dtX11_isOption 88 rfl) ?_
            rw [(od_x' hdd (by omega) (by omega)).1]
            refine pv_iload (pc := 156) (i := 6) rfl (fm_dec dtX11_isOption 89 rfl) ?_
            refine pv_iS2 (d' := 1) (pc := 158) pcs_X11_365 (Nat.le_of_ble_eq_true rfl) (by decide) (fm_dec dtX11_isOption 90 rfl) ?_
            refine c_mpow (N := k) hk9 (by omega) ?_
            refine pv_then1 ?_
            refine pv_iload (pc := 161) (i := 5) rfl (fm_dec dtX11_isOption 91 rfl) ?_
            refine pv_i2l (pc := 163) (fm_dec dtX11_isOption 92 rfl) ?_
            refine pv_lmul (pc := 164) (fm_dec dtX11_isOption 93 rfl) ?_
            refine pv_aloadn (pc := 165) (n := 0) 0 rfl rfl (fm_dec dtX11_isOption 94 rfl) ?_
            refine pv_aloadn (pc := 166) (n := 0) 0 rfl rfl (fm_dec dtX11_isOption 95 rfl) ?_
            refine pv_getR (k := 0) (j := 27) (ci := 11) (pc := 167) 7 rfl (by decide) pfl_X11_61 (by decide) rfl (by decide) (fm_dec dtX11_isOption 96 rfl) ?_
            refine pv_iloadn (pc := 170) (n := 1) 1 rfl rfl (fm_dec dtX11_isOption 97 rfl) ?_
            refine pv_iload (pc := 171) (i := 4) rfl (fm_dec dtX11_isOption 98 rfl) ?_
            refine pv_iload (pc := 173) (i := 7) rfl (fm_dec dtX11_isOption 99 rfl) ?_
            refine pv_invV4 (k := 0) (d' := 6) (pc := 175) pcv_X11_280 (by decide) rfl (Nat.le_of_ble_eq_true rfl) (by decide) (fm_dec dtX11_isOption 100 rfl) ?_
            refine c_mcoG (ag := agP S i wk k) (wN := S.1.1 + k) hD hmA.2.1 hmA.2.2.1 hd hmA.2.2.2.2.1 ho hi hwk9 (by omega) (by rw [hagP, if_neg (by decide), hwk9]; omega) (by omega) (fun M175 r175 g175 h175 e175 => ?_)
            refine pv_then1 ?_
            refine pv_i2l (pc := 178) (fm_dec dtX11_isOption 101 rfl) ?_
            refine pv_lmul (pc := 179) (fm_dec dtX11_isOption 102 rfl) ?_
            refine pv_ldc2 (pc := 180) pkc_X11_343 (fm_dec dtX11_isOption 103 rfl) ?_
            refine pv_iloadn (pc := 183) (n := 2) 2 rfl rfl (fm_dec dtX11_isOption 104 rfl) ?_
            refine pv_iconst (pc := 184) (v := 1) (by decide) (fm_dec dtX11_isOption 105 rfl) ?_
            refine pv_isub (pc := 185) (fm_dec dtX11_isOption 106 rfl) ?_
            refine pv_iload (pc := 186) (i := 6) rfl (fm_dec dtX11_isOption 107 rfl) ?_
            refine pv_isub (pc := 188) (fm_dec dtX11_isOption 108 rfl) ?_
            rw [show nI n - 1 - nI k = nI (n - 1 - k) from nI_is (by have z1 : (1 : Int32).toInt = 1 := (by decide); rw [sc_sub (by rw [sc_sub (by omega) (by omega)]; omega) (by rw [sc_sub (by omega) (by omega)]; omega), sc_sub (by omega) (by omega)]; omega) (by omega)]
            refine pv_iS2 (d' := 1) (pc := 189) pcs_X11_365 (Nat.le_of_ble_eq_true rfl) (by decide) (fm_dec dtX11_isOption 109 rfl) ?_
            refine c_mpow (N := n - 1 - k) (nI_toInt (by omega)) (by omega) ?_
            refine pv_then1 ?_
            refine pv_lmul (pc := 192) (fm_dec dtX11_isOption 110 rfl) ?_
            refine pv_ladd (pc := 193) (fm_dec dtX11_isOption 111 rfl) ?_
            refine pv_putJ (k := 0) (j := 43) (ci := 11) (pc := 194) pfl_X11_361 (by decide) rfl (by decide) (fm_dec dtX11_isOption 112 rfl) ?_
            refine pv_iincc (pc := 197) 6 1 (by decide) rfl (by decide) rfl (fm_dec dtX11_isOption 113 rfl) ?_
            dsimp only [List.set_cons_zero, List.set_cons_succ]
            refine pv_goto (pc := 200) 74 (by decide) (fm_dec dtX11_isOption 114 rfl) ?_
            have s0 := pw_i' (od_x' hdd (by omega) (by omega)).2 (by omega) (show k ≤ 9 by omega)
            have sd : d.toInt64.toInt = (((D.2.1 i 1).toNat : Nat) : Int) := (by rw [Int32.toInt_toInt64, hdd]; omega)
            have s1 := jb_n s0 sd (by omega)
            have s2 := jb_n s1 (show r175.toInt64.toInt = ((ccN D cs S i wk k : Nat) : Int) by rw [Int32.toInt_toInt64, e175]; exact cb.1) (by show tcN D cs S i wk k ≤ _; omega)
            have s3 := pw_i' (a := 64) (b := 64) (by decide) (by decide) (show n - 1 - k ≤ 9 by omega)
            have s4 := jb_n s2 s3 (by show tcN D cs S i wk k * 64 ^ (n - 1 - k) ≤ _; omega)
            have s5 := ja_n hsu s4 (by show hnN D cs S i wk k * 64 ^ (n - k) + tcN D cs S i wk k * 64 ^ (n - 1 - k) ≤ _; rw [hsm, show n - (k + 1) = n - 1 - k by omega]; omega)
            rw [nI_succ1]
            refine ih (n - (k + 1)) (by omega) (k + 1) _ _ _ (h.pk (fun k' j a b c d9 => by show M175.1 k' j = _; rw [g175 k' j b c, fmI_k _ _ d9]) (by show M175.1 0 17 = _; rw [g175 0 17 (by decide) (by decide), fmI_k _ _ (by decide)])) (by omega) rfl (by rw [agW_s, hagP, if_neg (by decide), if_neg (by decide), hwk9]; omega) (fun k' a => ?_) (fun k' a => ?_) (by rw [fmJ_s2, ← hsm]; exact s5) ⟨fun k' j a b c => by show M175.1 k' j = _; rw [g175 k' j a b, fmI_k _ _ c]; exact hfr.1 k' j a b c, fun k' j a => by rw [← hfr.2 k' j a]; by_cases e0 : k' = 0; (subst e0; rw [fmJ_j _ _ (fun h9 => a ⟨rfl, h9⟩), h175]; rfl); (rw [fmJ_k2 e0, h175]; rfl)⟩
            · show (M175.1 13 k').toInt = _
              rw [g175 13 k' (by decide) (by decide)]
              by_cases e : k' = k
              · subst e
                rw [fmI_s, if_pos (Nat.lt_succ_self _)]
                exact (by rw [h137, ← hnd9])
              · rw [fmI_j _ _ e, hsp k' a]
                congr 1
                by_cases e2 : k' < k
                · rw [if_pos e2, if_pos (by omega)]
                · rw [if_neg e2, if_neg (by omega)]
            · by_cases e : k' = k
              · subst e
                exact (by have b3 := (hD.2.2.1 i hi).2.2.2.1; have h1 : (D.2.1 i 3).toNat / (D.2.2.2.2 5).toNat ≤ (D.2.1 i 3).toNat := Nat.div_le_self _ _; rw [hnd9]; omega)
              · exact hno k' (by omega)
          · have hnd9 : ndS D S i wk k = (D.2.1 i 3).toNat := (by unfold ndS; rw [if_pos hbit, if_neg hw0, if_pos (by by_cases e : agW S i wk k = -1; exact e; (have h9 := congrArg Int32.toInt hc121; rw [hwr, if_neg e, zm] at h9; omega))])
            refine pv_aloadn (pc := 124) (n := 0) 0 rfl rfl (fm_dec dtX11_isOption 69 rfl) ?_
            refine pv_getR (k := 0) (j := 14) (ci := 11) (pc := 125) 17 rfl (by decide) pfl_X11_31 (by decide) rfl (by decide) (fm_dec dtX11_isOption 70 rfl) ?_
            refine pv_iloadn (pc := 128) (n := 1) 1 rfl rfl (fm_dec dtX11_isOption 71 rfl) ?_
            refine pv_aald (k := 17) (n := 8) (r := (35 + i)) (pc := 129) (by decide) (Or.inr (Or.inr rfl)) rfl (rw_life.inb hi9 hi8) (rw_life.at hi9 hi8) (rw_life.2.2.2 _ hi8).2.1 (fm_dec dtX11_isOption 72 rfl) ?_
            refine pv_iconst (pc := 130) (v := 3) (by decide) (fm_dec dtX11_isOption 73 rfl) ?_
            refine pv_iald (k := (35 + i)) (n := 6) (pc := 131) (rw_life.2.2.2 _ hi8).2.2.1 (rw_life.2.2.2 _ hi8).2.2.2.1 (rw_life.2.2.2 _ hi8).2.2.2.2 (fm_inl (by decide)) (fm_dec dtX11_isOption 74 rfl) ?_
            generalize hr9 : M.1 (35 + i) (Int32.toNatClampNeg 3) = r9
            have hv9 : r9.toInt = ((ndS D S i wk k : Nat) : Int) := (by rw [← hr9, hnd9]; have g3 : (M.1 (35 + i) (Int32.toNatClampNeg 3)).toInt = D.2.1 i 3 := h.2.1.2.2.2.1 i hi 3 (by decide); have b3 := (hD.2.2.1 i hi).2.2.2.1; omega)
            refine pv_goto (pc := 132) 140 (by decide) (fm_dec dtX11_isOption 75 rfl) ?_
            refine pv_iast (k := 13) (n := 3) (pc := 140) (by decide) rfl rfl (ix_in hk9 (by omega)) (fm_dec dtX11_isOption 79 rfl) ?_
            rw [i32_cl hk9]
            refine pv_iload (pc := 141) (i := 7) rfl (fm_dec dtX11_isOption 80 rfl) ?_
            refine pv_istore (pc := 143) (i := 4) (by decide) rfl (fm_dec dtX11_isOption 81 rfl) ?_
            dsimp only [List.set_cons_zero, List.set_cons_succ]
            have hmA := h.p13 (j := k) (v := r9)
            refine pv_aloadn (pc := 145) (n := 0) 0 rfl rfl (fm_dec dtX11_isOption 82 rfl) ?_
            refine pv_dup (pc := 146) rfl (fm_dec dtX11_isOption 83 rfl) ?_
            refine pv_getJ (k := 0) (j := 43) (ci := 11) (pc := 147) pfl_X11_361 (by decide) rfl (by decide) (fm_dec dtX11_isOption 84 rfl) ?_
            refine pv_bipush (pc := 150) (v := 64) (by decide) (fm_dec dtX11_isOption 85 rfl) ?_
            refine pv_iload (pc := 152) (i := 5) rfl (fm_dec dtX11_isOption 86 rfl) ?_
            refine pv_isub (pc := 154) (fm_dec dtX11_isOption 87 rfl) ?_
            refine pv_i2l (pc := 155) (fm_dec dtX11_isOption 88 rfl) ?_
            rw [(od_x' hdd (by omega) (by omega)).1]
            refine pv_iload (pc := 156) (i := 6) rfl (fm_dec dtX11_isOption 89 rfl) ?_
            refine pv_iS2 (d' := 1) (pc := 158) pcs_X11_365 (Nat.le_of_ble_eq_true rfl) (by decide) (fm_dec dtX11_isOption 90 rfl) ?_
            refine c_mpow (N := k) hk9 (by omega) ?_
            refine pv_then1 ?_
            refine pv_iload (pc := 161) (i := 5) rfl (fm_dec dtX11_isOption 91 rfl) ?_
            refine pv_i2l (pc := 163) (fm_dec dtX11_isOption 92 rfl) ?_
            refine pv_lmul (pc := 164) (fm_dec dtX11_isOption 93 rfl) ?_
            refine pv_aloadn (pc := 165) (n := 0) 0 rfl rfl (fm_dec dtX11_isOption 94 rfl) ?_
            refine pv_aloadn (pc := 166) (n := 0) 0 rfl rfl (fm_dec dtX11_isOption 95 rfl) ?_
            refine pv_getR (k := 0) (j := 27) (ci := 11) (pc := 167) 7 rfl (by decide) pfl_X11_61 (by decide) rfl (by decide) (fm_dec dtX11_isOption 96 rfl) ?_
            refine pv_iloadn (pc := 170) (n := 1) 1 rfl rfl (fm_dec dtX11_isOption 97 rfl) ?_
            refine pv_iload (pc := 171) (i := 4) rfl (fm_dec dtX11_isOption 98 rfl) ?_
            refine pv_iload (pc := 173) (i := 7) rfl (fm_dec dtX11_isOption 99 rfl) ?_
            refine pv_invV4 (k := 0) (d' := 6) (pc := 175) pcv_X11_280 (by decide) rfl (Nat.le_of_ble_eq_true rfl) (by decide) (fm_dec dtX11_isOption 100 rfl) ?_
            refine c_mcoG (ag := agP S i wk k) (wN := S.1.1 + k) hD hmA.2.1 hmA.2.2.1 hd hmA.2.2.2.2.1 ho hi hwk9 (by omega) (by rw [hagP, if_neg (by decide), hwk9]; omega) (by omega) (fun M175 r175 g175 h175 e175 => ?_)
            refine pv_then1 ?_
            refine pv_i2l (pc := 178) (fm_dec dtX11_isOption 101 rfl) ?_
            refine pv_lmul (pc := 179) (fm_dec dtX11_isOption 102 rfl) ?_
            refine pv_ldc2 (pc := 180) pkc_X11_343 (fm_dec dtX11_isOption 103 rfl) ?_
            refine pv_iloadn (pc := 183) (n := 2) 2 rfl rfl (fm_dec dtX11_isOption 104 rfl) ?_
            refine pv_iconst (pc := 184) (v := 1) (by decide) (fm_dec dtX11_isOption 105 rfl) ?_
            refine pv_isub (pc := 185) (fm_dec dtX11_isOption 106 rfl) ?_
            refine pv_iload (pc := 186) (i := 6) rfl (fm_dec dtX11_isOption 107 rfl) ?_
            refine pv_isub (pc := 188) (fm_dec dtX11_isOption 108 rfl) ?_
            rw [show nI n - 1 - nI k = nI (n - 1 - k) from nI_is (by have z1 : (1 : Int32).toInt = 1 := (by decide); rw [sc_sub (by rw [sc_sub (by omega) (by omega)]; omega) (by rw [sc_sub (by omega) (by omega)]; omega), sc_sub (by omega) (by omega)]; omega) (by omega)]
            refine pv_iS2 (d' := 1) (pc := 189) pcs_X11_365 (Nat.le_of_ble_eq_true rfl) (by decide) (fm_dec dtX11_isOption 109 rfl) ?_
            refine c_mpow (N := n - 1 - k) (nI_toInt (by omega)) (by omega) ?_
            refine pv_then1 ?_
            refine pv_lmul (pc := 192) (fm_dec dtX11_isOption 110 rfl) ?_
            refine pv_ladd (pc := 193) (fm_dec dtX11_isOption 111 rfl) ?_
            refine pv_putJ (k := 0) (j := 43) (ci := 11) (pc := 194) pfl_X11_361 (by decide) rfl (by decide) (fm_dec dtX11_isOption 112 rfl) ?_
            refine pv_iincc (pc := 197) 6 1 (by decide) rfl (by decide) rfl (fm_dec dtX11_isOption 113 rfl) ?_
            dsimp only [List.set_cons_zero, List.set_cons_succ]
            refine pv_goto (pc := 200) 74 (by decide) (fm_dec dtX11_isOption 114 rfl) ?_
            have s0 := pw_i' (od_x' hdd (by omega) (by omega)).2 (by omega) (show k ≤ 9 by omega)
            have sd : d.toInt64.toInt = (((D.2.1 i 1).toNat : Nat) : Int) := (by rw [Int32.toInt_toInt64, hdd]; omega)
            have s1 := jb_n s0 sd (by omega)
            have s2 := jb_n s1 (show r175.toInt64.toInt = ((ccN D cs S i wk k : Nat) : Int) by rw [Int32.toInt_toInt64, e175]; exact cb.1) (by show tcN D cs S i wk k ≤ _; omega)
            have s3 := pw_i' (a := 64) (b := 64) (by decide) (by decide) (show n - 1 - k ≤ 9 by omega)
            have s4 := jb_n s2 s3 (by show tcN D cs S i wk k * 64 ^ (n - 1 - k) ≤ _; omega)
            have s5 := ja_n hsu s4 (by show hnN D cs S i wk k * 64 ^ (n - k) + tcN D cs S i wk k * 64 ^ (n - 1 - k) ≤ _; rw [hsm, show n - (k + 1) = n - 1 - k by omega]; omega)
            rw [nI_succ1]
            refine ih (n - (k + 1)) (by omega) (k + 1) _ _ _ (h.pk (fun k' j a b c d9 => by show M175.1 k' j = _; rw [g175 k' j b c, fmI_k _ _ d9]) (by show M175.1 0 17 = _; rw [g175 0 17 (by decide) (by decide), fmI_k _ _ (by decide)])) (by omega) rfl (by rw [agW_s, hagP, if_neg (by decide), if_neg (by decide), hwk9]; omega) (fun k' a => ?_) (fun k' a => ?_) (by rw [fmJ_s2, ← hsm]; exact s5) ⟨fun k' j a b c => by show M175.1 k' j = _; rw [g175 k' j a b, fmI_k _ _ c]; exact hfr.1 k' j a b c, fun k' j a => by rw [← hfr.2 k' j a]; by_cases e0 : k' = 0; (subst e0; rw [fmJ_j _ _ (fun h9 => a ⟨rfl, h9⟩), h175]; rfl); (rw [fmJ_k2 e0, h175]; rfl)⟩
            · show (M175.1 13 k').toInt = _
              rw [g175 13 k' (by decide) (by decide)]
              by_cases e : k' = k
              · subst e
                rw [fmI_s, if_pos (Nat.lt_succ_self _)]
                exact hv9
              · rw [fmI_j _ _ e, hsp k' a]
                congr 1
                by_cases e2 : k' < k
                · rw [if_pos e2, if_pos (by omega)]
                · rw [if_neg e2, if_neg (by omega)]
            · by_cases e : k' = k
              · subst e
                exact (by have b3 := (hD.2.2.1 i hi).2.2.2.1; have h1 : (D.2.1 i 3).toNat / (D.2.2.2.2 5).toNat ≤ (D.2.1 i 3).toNat := Nat.div_le_self _ _; rw [hnd9]; omega)
              · exact hno k' (by omega)
        · refine pv_iconst (pc := 108) (v := 0) (by decide) (fm_dec dtX11_isOption 61 rfl) ?_
          exact pv_zreturn (pc := 109) rfl (by first | exact Or.inr rfl | exact Or.inl rfl) (fm_dec dtX11_isOption 62 rfl) (hno0 M ⟨k, by omega, by have e0 : agW S i wk k = 0 := (by have h9 := congrArg Int32.toInt hc105; rw [hwr, hwk9] at h9; by_cases e : agW S i wk k = -1; (rw [if_pos e] at h9; omega); (rw [if_neg e] at h9; omega)); unfold ndS; rw [if_pos hbit, if_pos e0]; decide⟩ hfr)
      · refine pv_then1 ?_
        refine pv_if_eq (pc := 98) 145 (by decide) (fm_dec dtX11_isOption 57 rfl) (fun _ => ?_) (fun hc98 => by exfalso; revert hc98; decide)
        have hbit : wk.testBit k = false := (by cases h9 : wk.testBit k with | false => rfl | true => exact absurd ((has8 wk (by omega) k (by omega)).mpr h9) h95)
        have hagP : agP S i wk k = agW S i wk k := (by unfold agP; rw [if_neg (by rw [hbit]; decide)])
        have hnd0 : ndS D S i wk k = 0 := (by unfold ndS; rw [if_neg (by rw [hbit]; decide)])
        refine pv_aloadn (pc := 145) (n := 0) 0 rfl rfl (fm_dec dtX11_isOption 82 rfl) ?_
        refine pv_dup (pc := 146) rfl (fm_dec dtX11_isOption 83 rfl) ?_
        refine pv_getJ (k := 0) (j := 43) (ci := 11) (pc := 147) pfl_X11_361 (by decide) rfl (by decide) (fm_dec dtX11_isOption 84 rfl) ?_
        refine pv_bipush (pc := 150) (v := 64) (by decide) (fm_dec dtX11_isOption 85 rfl) ?_
        refine pv_iload (pc := 152) (i := 5) rfl (fm_dec dtX11_isOption 86 rfl) ?_
        refine pv_isub (pc := 154) (fm_dec dtX11_isOption 87 rfl) ?_
        refine pv_i2l (pc := 155) (fm_dec dtX11_isOption 88 rfl) ?_
        rw [(od_x' hdd (by omega) (by omega)).1]
        refine pv_iload (pc := 156) (i := 6) rfl (fm_dec dtX11_isOption 89 rfl) ?_
        refine pv_iS2 (d' := 1) (pc := 158) pcs_X11_365 (Nat.le_of_ble_eq_true rfl) (by decide) (fm_dec dtX11_isOption 90 rfl) ?_
        refine c_mpow (N := k) hk9 (by omega) ?_
        refine pv_then1 ?_
        refine pv_iload (pc := 161) (i := 5) rfl (fm_dec dtX11_isOption 91 rfl) ?_
        refine pv_i2l (pc := 163) (fm_dec dtX11_isOption 92 rfl) ?_
        refine pv_lmul (pc := 164) (fm_dec dtX11_isOption 93 rfl) ?_
        refine pv_aloadn (pc := 165) (n := 0) 0 rfl rfl (fm_dec dtX11_isOption 94 rfl) ?_
        refine pv_aloadn (pc := 166) (n := 0) 0 rfl rfl (fm_dec dtX11_isOption 95 rfl) ?_
        refine pv_getR (k := 0) (j := 27) (ci := 11) (pc := 167) 7 rfl (by decide) pfl_X11_61 (by decide) rfl (by decide) (fm_dec dtX11_isOption 96 rfl) ?_
        refine pv_iloadn (pc := 170) (n := 1) 1 rfl rfl (fm_dec dtX11_isOption 97 rfl) ?_
        refine pv_iload (pc := 171) (i := 4) rfl (fm_dec dtX11_isOption 98 rfl) ?_
        refine pv_iload (pc := 173) (i := 7) rfl (fm_dec dtX11_isOption 99 rfl) ?_
        refine pv_invV4 (k := 0) (d' := 6) (pc := 175) pcv_X11_280 (by decide) rfl (Nat.le_of_ble_eq_true rfl) (by decide) (fm_dec dtX11_isOption 100 rfl) ?_
        refine c_mcoG (ag := agP S i wk k) (wN := S.1.1 + k) hD h.2.1 h.2.2.1 hd h.2.2.2.2.1 ho hi hwk9 (by omega) (by rw [hagP, hwr]) (by omega) (fun M175 r175 g175 h175 e175 => ?_)
        refine pv_then1 ?_
        refine pv_i2l (pc := 178) (fm_dec dtX11_isOption 101 rfl) ?_
        refine pv_lmul (pc := 179) (fm_dec dtX11_isOption 102 rfl) ?_
        refine pv_ldc2 (pc := 180) pkc_X11_343 (fm_dec dtX11_isOption 103 rfl) ?_
        refine pv_iloadn (pc := 183) (n := 2) 2 rfl rfl (fm_dec dtX11_isOption 104 rfl) ?_
        refine pv_iconst (pc := 184) (v := 1) (by decide) (fm_dec dtX11_isOption 105 rfl) ?_
        refine pv_isub (pc := 185) (fm_dec dtX11_isOption 106 rfl) ?_
        refine pv_iload (pc := 186) (i := 6) rfl (fm_dec dtX11_isOption 107 rfl) ?_
        refine pv_isub (pc := 188) (fm_dec dtX11_isOption 108 rfl) ?_
        rw [show nI n - 1 - nI k = nI (n - 1 - k) from nI_is (by have z1 : (1 : Int32).toInt = 1 := (by decide); rw [sc_sub (by rw [sc_sub (by omega) (by omega)]; omega) (by rw [sc_sub (by omega) (by omega)]; omega), sc_sub (by omega) (by omega)]; omega) (by omega)]
        refine pv_iS2 (d' := 1) (pc := 189) pcs_X11_365 (Nat.le_of_ble_eq_true rfl) (by decide) (fm_dec dtX11_isOption 109 rfl) ?_
        refine c_mpow (N := n - 1 - k) (nI_toInt (by omega)) (by omega) ?_
        refine pv_then1 ?_
        refine pv_lmul (pc := 192) (fm_dec dtX11_isOption 110 rfl) ?_
        refine pv_ladd (pc := 193) (fm_dec dtX11_isOption 111 rfl) ?_
        refine pv_putJ (k := 0) (j := 43) (ci := 11) (pc := 194) pfl_X11_361 (by decide) rfl (by decide) (fm_dec dtX11_isOption 112 rfl) ?_
        refine pv_iincc (pc := 197) 6 1 (by decide) rfl (by decide) rfl (fm_dec dtX11_isOption 113 rfl) ?_
        dsimp only [List.set_cons_zero, List.set_cons_succ]
        refine pv_goto (pc := 200) 74 (by decide) (fm_dec dtX11_isOption 114 rfl) ?_
        have s0 := pw_i' (od_x' hdd (by omega) (by omega)).2 (by omega) (show k ≤ 9 by omega)
        have sd : d.toInt64.toInt = (((D.2.1 i 1).toNat : Nat) : Int) := (by rw [Int32.toInt_toInt64, hdd]; omega)
        have s1 := jb_n s0 sd (by omega)
        have s2 := jb_n s1 (show r175.toInt64.toInt = ((ccN D cs S i wk k : Nat) : Int) by rw [Int32.toInt_toInt64, e175]; exact cb.1) (by show tcN D cs S i wk k ≤ _; omega)
        have s3 := pw_i' (a := 64) (b := 64) (by decide) (by decide) (show n - 1 - k ≤ 9 by omega)
        have s4 := jb_n s2 s3 (by show tcN D cs S i wk k * 64 ^ (n - 1 - k) ≤ _; omega)
        have s5 := ja_n hsu s4 (by show hnN D cs S i wk k * 64 ^ (n - k) + tcN D cs S i wk k * 64 ^ (n - 1 - k) ≤ _; rw [hsm, show n - (k + 1) = n - 1 - k by omega]; omega)
        rw [nI_succ1]
        refine ih (n - (k + 1)) (by omega) (k + 1) _ _ _ (h.pk (fun k' j a b c d9 => by show M175.1 k' j = _; rw [g175 k' j b c]) (by show M175.1 0 17 = _; rw [g175 0 17 (by decide) (by decide)])) (by omega) rfl (by rw [agW_s, hagP, hwr]; by_cases e : agW S i wk k = -1; (rw [if_pos e, if_pos e, if_pos rfl]); (rw [if_neg e, if_neg e, if_neg (by omega)]; omega)) (fun k' a => ?_) (fun k' a => ?_) (by rw [fmJ_s2, ← hsm]; exact s5) ⟨fun k' j a b c => by show M175.1 k' j = _; rw [g175 k' j a b]; exact hfr.1 k' j a b c, fun k' j a => by rw [← hfr.2 k' j a]; by_cases e0 : k' = 0; (subst e0; rw [fmJ_j _ _ (fun h9 => a ⟨rfl, h9⟩), h175]); (rw [fmJ_k2 e0, h175])⟩
        · show (M175.1 13 k').toInt = _
          rw [g175 13 k' (by decide) (by decide), hsp k' a]
          congr 1
          by_cases e : k' = k
          · subst e
            rw [if_neg (Nat.lt_irrefl _), if_pos (Nat.lt_succ_self _), hnd0]
          · by_cases e2 : k' < k
            · rw [if_pos e2, if_pos (by omega)]
            · rw [if_neg e2, if_neg (by omega)]
        · by_cases e : k' = k
          · subst e
            exact (by rw [hnd0]; exact Nat.zero_le _)
          · exact hno k' (by omega)
set_option maxRecDepth 20000 in
theorem c_misO {M : fmM} {Q : fmR → fmM → Prop} {D : dD} {cs : tC} {S : aS} {i n wk : Nat} (h : mAq M D cs S) (hi : i < D.1) (h3n : n ≤ 3) (hwn : wk < 2 ^ n) (hwk : wk < 8) (hyes : (∀ M' : fmM, (S.1.2.2.1.testBit i = true → wk = 0) → (∀ k, k < 3 → (M'.1 13 k).toInt = ((ndS D S i wk k : Nat) : Int)) → (∀ k, k < 3 → ndS D S i wk k ≤ 9) → (M'.2 0 43).toInt = (((if S.1.2.2.1.testBit i = true then 0 else hnN D cs S i wk n) : Nat) : Int) → isFr M M' → Q (.inl (some (.int 1))) M')) (hno : (∀ M' : fmM, ((S.1.2.2.1.testBit i = true ∧ wk ≠ 0) ∨ ∃ k, k < 3 ∧ 12 < ndS D S i wk k) → isFr M M' → Q (.inl (some (.int 0))) M')) : pvGood Tm 8 qX11_isOption [.ref 0, .int (nI i), .int (nI n), .int (nI wk)] M Q := by
  refine pvGood_of (Nat.le_of_ble_eq_true rfl) ?_
  show pvEv Tm 8 qX11_isOption 0 [some (.ref 0), some (.int (nI i)), some (.int (nI n)), some (.int (nI wk)), none, none, none, none] [] M Q
  have hmq := h
  obtain ⟨hD, hY, hM, hd, ht, ho⟩ := hmq
  have d8 := hD.1
  have hi9 : (nI i).toInt = (i : Int) := nI_toInt (by omega)
  have hi8 : i < 8 := (by omega)
  have h1i := one_i hi8
  have hw9 : (nI wk).toInt = (wk : Int) := nI_toInt (by omega)
  refine pv_aloadn (pc := 0) (n := 0) 0 rfl rfl (fm_dec dtX11_isOption 0 rfl) ?_
  refine pv_getR (k := 0) (j := 27) (ci := 11) (pc := 1) 7 rfl (by decide) pfl_X11_61 (by decide) rfl (by decide) (fm_dec dtX11_isOption 1 rfl) ?_
  refine pv_iconst (pc := 4) (v := 1) (by decide) (fm_dec dtX11_isOption 2 rfl) ?_
  refine pv_iloadn (pc := 5) (n := 1) 1 rfl rfl (fm_dec dtX11_isOption 3 rfl) ?_
  refine pv_iadd (pc := 6) (fm_dec dtX11_isOption 4 rfl) ?_
  refine pv_iald (k := 7) (n := 14) (pc := 7) (by decide) rfl rfl (ix_in h1i (by omega)) (fm_dec dtX11_isOption 5 rfl) ?_
  rw [i32_cl h1i]
  refine pv_istore (pc := 8) (i := 4) (by decide) rfl (fm_dec dtX11_isOption 6 rfl) ?_
  dsimp only [List.set_cons_zero, List.set_cons_succ]
  refine pv_aloadn (pc := 10) (n := 0) 0 rfl rfl (fm_dec dtX11_isOption 7 rfl) ?_
  refine pv_getR (k := 0) (j := 14) (ci := 11) (pc := 11) 17 rfl (by decide) pfl_X11_31 (by decide) rfl (by decide) (fm_dec dtX11_isOption 8 rfl) ?_
  refine pv_iloadn (pc := 14) (n := 1) 1 rfl rfl (fm_dec dtX11_isOption 9 rfl) ?_
  refine pv_aald (k := 17) (n := 8) (r := (35 + i)) (pc := 15) (by decide) (Or.inr (Or.inr rfl)) rfl (rw_life.inb hi9 hi8) (rw_life.at hi9 hi8) (rw_life.2.2.2 _ hi8).2.1 (fm_dec dtX11_isOption 10 rfl) ?_
  refine pv_iconst (pc := 16) (v := 1) (by decide) (fm_dec dtX11_isOption 11 rfl) ?_
  refine pv_iald (k := (35 + i)) (n := 6) (pc := 17) (rw_life.2.2.2 _ hi8).2.2.1 (rw_life.2.2.2 _ hi8).2.2.2.1 (rw_life.2.2.2 _ hi8).2.2.2.2 (fm_inl (by decide)) (fm_dec dtX11_isOption 12 rfl) ?_
  refine pv_istore (pc := 18) (i := 5) (by decide) rfl (fm_dec dtX11_isOption 13 rfl) ?_
  dsimp only [List.set_cons_zero, List.set_cons_succ]
  refine pv_aloadn (pc := 20) (n := 0) 0 rfl rfl (fm_dec dtX11_isOption 14 rfl) ?_
  refine pv_lconst (pc := 21) (v := 0) (by decide) (fm_dec dtX11_isOption 15 rfl) ?_
  refine pv_putJ (k := 0) (j := 43) (ci := 11) (pc := 22) pfl_X11_361 (by decide) rfl (by decide) (fm_dec dtX11_isOption 16 rfl) ?_
  refine pv_iconst (pc := 25) (v := 0) (by decide) (fm_dec dtX11_isOption 17 rfl) ?_
  refine pv_istore (pc := 26) (i := 6) (by decide) rfl (fm_dec dtX11_isOption 18 rfl) ?_
  dsimp only [List.set_cons_zero, List.set_cons_succ]
  refine pv_iload (pc := 28) (i := 6) rfl (fm_dec dtX11_isOption 19 rfl) ?_
  refine pv_iconst (pc := 30) (v := 3) (by decide) (fm_dec dtX11_isOption 20 rfl) ?_
  refine pv_icmp_ge (pc := 31) 48 (by decide) (fm_dec dtX11_isOption 21 rfl) (fun hc31 => by exfalso; revert hc31; decide) (fun _ => ?_)
  refine pv_aloadn (pc := 34) (n := 0) 0 rfl rfl (fm_dec dtX11_isOption 22 rfl) ?_
  refine pv_getR (k := 0) (j := 42) (ci := 11) (pc := 35) 13 rfl (by decide) pfl_X11_86 (by decide) rfl (by decide) (fm_dec dtX11_isOption 23 rfl) ?_
  refine pv_iload (pc := 38) (i := 6) rfl (fm_dec dtX11_isOption 24 rfl) ?_
  refine pv_iconst (pc := 40) (v := 0) (by decide) (fm_dec dtX11_isOption 25 rfl) ?_
  refine pv_iast (k := 13) (n := 3) (pc := 41) (by decide) rfl rfl (fm_inl (by decide)) (fm_dec dtX11_isOption 26 rfl) ?_
  refine pv_iincc (pc := 42) 6 1 (by decide) rfl (by decide) rfl (fm_dec dtX11_isOption 27 rfl) ?_
  dsimp only [List.set_cons_zero, List.set_cons_succ]
  rw [show (0 : Int32) + 1 = 1 by decide]
  refine pv_goto (pc := 45) 28 (by decide) (fm_dec dtX11_isOption 28 rfl) ?_
  refine pv_iload (pc := 28) (i := 6) rfl (fm_dec dtX11_isOption 19 rfl) ?_
  refine pv_iconst (pc := 30) (v := 3) (by decide) (fm_dec dtX11_isOption 20 rfl) ?_
  refine pv_icmp_ge (pc := 31) 48 (by decide) (fm_dec dtX11_isOption 21 rfl) (fun hc31 => by exfalso; revert hc31; decide) (fun _ => ?_)
  refine pv_aloadn (pc := 34) (n := 0) 0 rfl rfl (fm_dec dtX11_isOption 22 rfl) ?_
  refine pv_getR (k := 0) (j := 42) (ci := 11) (pc := 35) 13 rfl (by decide) pfl_X11_86 (by decide) rfl (by decide) (fm_dec dtX11_isOption 23 rfl) ?_
  refine pv_iload (pc := 38) (i := 6) rfl (fm_dec dtX11_isOption 24 rfl) ?_
  refine pv_iconst (pc := 40) (v := 0) (by decide) (fm_dec dtX11_isOption 25 rfl) ?_
  refine pv_iast (k := 13) (n := 3) (pc := 41) (by decide) rfl rfl (fm_inl (by decide)) (fm_dec dtX11_isOption 26 rfl) ?_
  refine pv_iincc (pc := 42) 6 1 (by decide) rfl (by decide) rfl (fm_dec dtX11_isOption 27 rfl) ?_
  dsimp only [List.set_cons_zero, List.set_cons_succ]
  rw [show (1 : Int32) + 1 = 2 by decide]
  refine pv_goto (pc := 45) 28 (by decide) (fm_dec dtX11_isOption 28 rfl) ?_
  refine pv_iload (pc := 28) (i := 6) rfl (fm_dec dtX11_isOption 19 rfl) ?_
  refine pv_iconst (pc := 30) (v := 3) (by decide) (fm_dec dtX11_isOption 20 rfl) ?_
  refine pv_icmp_ge (pc := 31) 48 (by decide) (fm_dec dtX11_isOption 21 rfl) (fun hc31 => by exfalso; revert hc31; decide) (fun _ => ?_)
  refine pv_aloadn (pc := 34) (n := 0) 0 rfl rfl (fm_dec dtX11_isOption 22 rfl) ?_
  refine pv_getR (k := 0) (j := 42) (ci := 11) (pc := 35) 13 rfl (by decide) pfl_X11_86 (by decide) rfl (by decide) (fm_dec dtX11_isOption 23 rfl) ?_
  refine pv_iload (pc := 38) (i := 6) rfl (fm_dec dtX11_isOption 24 rfl) ?_
  refine pv_iconst (pc := 40) (v := 0) (by decide) (fm_dec dtX11_isOption 25 rfl) ?_
  refine pv_iast (k := 13) (n := 3) (pc := 41) (by decide) rfl rfl (fm_inl (by decide)) (fm_dec dtX11_isOption 26 rfl) ?_
  refine pv_iincc (pc := 42) 6 1 (by decide) rfl (by decide) rfl (fm_dec dtX11_isOption 27 rfl) ?_
  dsimp only [List.set_cons_zero, List.set_cons_succ]
  rw [show (2 : Int32) + 1 = 3 by decide]
  refine pv_goto (pc := 45) 28 (by decide) (fm_dec dtX11_isOption 28 rfl) ?_
  refine pv_iload (pc := 28) (i := 6) rfl (fm_dec dtX11_isOption 19 rfl) ?_
  refine pv_iconst (pc := 30) (v := 3) (by decide) (fm_dec dtX11_isOption 20 rfl) ?_
  refine pv_icmp_ge (pc := 31) 48 (by decide) (fm_dec dtX11_isOption 21 rfl) (fun _ => ?_) (fun hc31 => by exfalso; revert hc31; decide)
  show pvEv Tm 8 qX11_isOption 48 _ _ (isM M) Q
  have hfi : isFr M (isM M) := ⟨fun k j p q r => isM_k r, fun k j p => isM_2 p⟩
  have him : mAq (isM M) D cs S := h.pk (fun k j p q r s => isM_k s) (isM_k (by decide))
  have e0 : (isM M).1 7 (Int32.toNatClampNeg 0) = nI S.1.2.2.1 := nI_is him.2.2.2.2.1.1 (by have := ho.2.2.1; omega)
  refine pv_aloadn (pc := 48) (n := 0) 0 rfl rfl (fm_dec dtX11_isOption 29 rfl) ?_
  refine pv_getR (k := 0) (j := 27) (ci := 11) (pc := 49) 7 rfl (by decide) pfl_X11_61 (by decide) rfl (by decide) (fm_dec dtX11_isOption 30 rfl) ?_
  refine pv_iconst (pc := 52) (v := 0) (by decide) (fm_dec dtX11_isOption 31 rfl) ?_
  refine pv_iald (k := 7) (n := 14) (pc := 53) (by decide) rfl rfl (fm_inl (by decide)) (fm_dec dtX11_isOption 32 rfl) ?_
  refine pv_iloadn (pc := 54) (n := 1) 1 rfl rfl (fm_dec dtX11_isOption 33 rfl) ?_
  refine pv_iS2 (d' := 0) (pc := 55) pcs_X11_256 (Nat.le_of_ble_eq_true rfl) (by decide) (fm_dec dtX11_isOption 34 rfl) ?_
  refine c_has (fun h55 => ?_) (fun h55 => ?_)
  · refine pv_then1 ?_
    refine pv_if_eq (pc := 58) 71 (by decide) (fm_dec dtX11_isOption 35 rfl) (fun hc58 => by exfalso; revert hc58; decide) (fun _ => ?_)
    have hal : S.1.2.2.1.testBit i = true := (has8 _ ho.2.2.1 i hi8).mp (by rw [← e0]; exact h55)
    refine pv_iloadn (pc := 61) (n := 3) 3 rfl rfl (fm_dec dtX11_isOption 36 rfl) ?_
    refine pv_if_ne (pc := 62) 69 (by decide) (fm_dec dtX11_isOption 37 rfl) (fun hc62 => ?_) (fun hc62 => ?_)
    · refine pv_iconst (pc := 69) (v := 0) (by decide) (fm_dec dtX11_isOption 40 rfl) ?_
      exact pv_zreturn (pc := 70) rfl (by first | exact Or.inr rfl | exact Or.inl rfl) (fm_dec dtX11_isOption 41 rfl) (hno (isM M) (Or.inl ⟨hal, fun e => hc62 (by rw [e]; rfl)⟩) hfi)
    · have hw00 : wk = 0 := (by have h9 := congrArg Int32.toInt hc62; have z0 : (0 : Int32).toInt = 0 := (by decide); omega)
      refine pv_iconst (pc := 65) (v := 1) (by decide) (fm_dec dtX11_isOption 38 rfl) ?_
      refine pv_goto (pc := 66) 70 (by decide) (fm_dec dtX11_isOption 39 rfl) ?_
      exact pv_zreturn (pc := 70) rfl (by first | exact Or.inr rfl | exact Or.inl rfl) (fm_dec dtX11_isOption 41 rfl) (hyes (isM M) (fun _ => hw00) (fun k a => by rw [isM_s a, hw00]; show (0 : Int32).toInt = ((ndS D S i 0 k : Nat) : Int); unfold ndS; rw [if_neg (by rw [Nat.zero_testBit]; decide)]; decide) (fun k a => by rw [hw00]; unfold ndS; rw [if_neg (by rw [Nat.zero_testBit]; decide)]; exact Nat.zero_le _) (by rw [isM_l, if_pos hal]; decide) hfi)
  · refine pv_then1 ?_
    refine pv_if_eq (pc := 58) 71 (by decide) (fm_dec dtX11_isOption 35 rfl) (fun _ => ?_) (fun hc58 => by exfalso; revert hc58; decide)
    have hal : ¬ S.1.2.2.1.testBit i = true := (fun h9 => h55 (by rw [e0]; exact (has8 _ ho.2.2.1 i hi8).mpr h9))
    refine pv_iconst (pc := 71) (v := 0) (by decide) (fm_dec dtX11_isOption 42 rfl) ?_
    refine pv_istore (pc := 72) (i := 6) (by decide) rfl (fm_dec dtX11_isOption 43 rfl) ?_
    dsimp only [List.set_cons_zero, List.set_cons_succ]
    exact (mio_loop hD ho hd hi h3n hwn hwk (hY.2.2.2.1 i hi 1 (by decide)) (fun M' a b c f => hyes M' (fun h9 => absurd h9 hal) a b (by rw [if_neg hal]; exact c) ⟨fun k j p q r => (f.1 k j p q r).trans (isM_k r), fun k j p => (f.2 k j p).trans (isM_2 p)⟩) (fun M' a f => hno M' (Or.inr a) ⟨fun k j p q r => (f.1 k j p q r).trans (isM_k r), fun k j p => (f.2 k j p).trans (isM_2 p)⟩) n 0 (isM M) _ _ him (Nat.zero_le _) rfl (by have g := ht.2.2.2.2.2.2 i hi; show _ = (if S.2 i = -1 then -1000 else ((S.1.1 + 0 : Nat) : Int) - S.2 i); rw [Nat.add_zero]; exact g) (fun k' a => by rw [isM_s a, if_neg (Nat.not_lt_zero _)]; decide) (fun k' a => absurd a (Nat.not_lt_zero _)) (by rw [isM_l]; show (0 : Int64).toInt = ((0 * 64 ^ (n - 0) : Nat) : Int); rw [Nat.zero_mul]; decide) ⟨fun _ _ _ _ _ => rfl, fun _ _ _ => rfl⟩)
set_option maxRecDepth 20000 in
theorem lq_3 {Q : fmR → fmM → Prop} {M0 : fmM} {f : Nat → Nat → Nat → Nat} {s : Nat → Nat} {g : Nat → Nat → Nat → Option Nat} {i wk hl : Nat} (hi8 : i < 8) (hwk : wk < 8) (hs : ∀ k, k < 3 → (M0.1 13 k).toInt = ((s k : Nat) : Int) ∧ s k ≤ 9) (hhl : (M0.2 0 43).toInt = ((hl : Nat) : Int)) (hlb : hl ≤ 14948499456) (hf : leP M0 f) (hfk : ∀ x y z, f x y z % 16777216 + kyN i wk 3 < 16777216) (hfb : ∀ x y z, f x y z ≤ 2100000000000000000) (hgb : ∀ x y z w, g x y z = some w → w ≤ 2400000000000000000) {a b : Int32} {x y : Nat} (ha : a.toInt = (x : Int)) (hx : s 0 ≤ x ∧ x ≤ 12) (hb : b.toInt = (y : Int)) (hy : s 1 ≤ y ∧ y ≤ 12) (hq : ∀ (M' : fmM) (c' : Int32) (v8 v9 v10 v11 v12 v13 : Option Value), loFr M0 M' → nxP M' (mxO g (upO f s (hl * 16777216 + kyN i wk 3) g) x (y + 1) 0) → pvEv Tm 3 qX11_laysOption 237 [some (.ref 0), some (.int (nI i)), some (.int (nI wk)), some (.long (jZ ((kyN i wk 3 : Nat) : Int))), none, some (.int a), some (.int b), some (.int c'), v8, v9, v10, v11, v12, v13] [] M' Q) : ∀ (m : Nat) (M : fmM) (k : Nat) (c : Int32) (v8 v9 v10 v11 v12 v13 : Option Value), c.toInt = (k : Int) → s 2 ≤ k → k + m = 13 → loFr M0 M → nxP M (mxO g (upO f s (hl * 16777216 + kyN i wk 3) g) x y k) → pvEv Tm 3 qX11_laysOption 82 [some (.ref 0), some (.int (nI i)), some (.int (nI wk)), some (.long (jZ ((kyN i wk 3 : Nat) : Int))), none, some (.int a), some (.int b), some (.int c), v8, v9, v10, v11, v12, v13] [] M Q := by
  intro m
  induction m using Nat.strongRecOn with
  | _ m ih =>
    intro M k c v8 v9 v10 v11 v12 v13 hkk hsk hm hW hC
    have hs2 := (hs 2 (by decide)).2
    refine pv_iload (pc := 82) (i := 7) rfl (fm_dec dtX11_laysOption 48 rfl) ?_
    refine pv_bipush (pc := 84) (v := 12) (by decide) (fm_dec dtX11_laysOption 49 rfl) ?_
    refine pv_icmp_gt (pc := 86) 237 (by decide) (fm_dec dtX11_laysOption 50 rfl) (fun hc86 => ?_) (fun hc86 => ?_)
    · have hk13 : k = 13 := (by rw [sc_lt] at hc86; have h9 : (12 : Int32).toInt = 12 := (by decide); omega)
      exact hq M c _ _ _ _ _ _ hW (hC.of rfl rfl (fun x' y' z' p q r => mw_e (by omega)))
    · have hk12 : k ≤ 12 := (by rw [sc_lt] at hc86; have h9 : (12 : Int32).toInt = 12 := (by decide); omega)
      refine pv_iload (pc := 89) (i := 5) rfl (fm_dec dtX11_laysOption 51 rfl) ?_
      refine pv_iload (pc := 91) (i := 6) rfl (fm_dec dtX11_laysOption 52 rfl) ?_
      refine pv_iload (pc := 93) (i := 7) rfl (fm_dec dtX11_laysOption 53 rfl) ?_
      refine pv_iS3 (d' := 0) (pc := 95) pcs_X11_369 (Nat.le_of_ble_eq_true rfl) (by decide) (fm_dec dtX11_laysOption 54 rfl) ?_
      refine c_roomOf ha hb hkk hx.2 hy.2 (show k ≤ 12 by omega) (fun r95 h95 => ?_)
      refine pv_then1 ?_
      refine pv_istore (pc := 98) (i := 8) (by decide) rfl (fm_dec dtX11_laysOption 55 rfl) ?_
      dsimp only [List.set_cons_zero, List.set_cons_succ]
      refine pv_iload (pc := 100) (i := 5) rfl (fm_dec dtX11_laysOption 56 rfl) ?_
      refine pv_aloadn (pc := 102) (n := 0) 0 rfl rfl (fm_dec dtX11_laysOption 57 rfl) ?_
      refine pv_getR (k := 0) (j := 42) (ci := 11) (pc := 103) 13 rfl (by decide) pfl_X11_86 (by decide) rfl (by decide) (fm_dec dtX11_laysOption 58 rfl) ?_
      refine pv_iconst (pc := 106) (v := 0) (by decide) (fm_dec dtX11_laysOption 59 rfl) ?_
      refine pv_iald (k := 13) (n := 3) (pc := 107) (by decide) rfl rfl (fm_inl (by decide)) (fm_dec dtX11_laysOption 60 rfl) ?_
      refine pv_isub (pc := 108) (fm_dec dtX11_laysOption 61 rfl) ?_
      refine pv_iload (pc := 109) (i := 6) rfl (fm_dec dtX11_laysOption 62 rfl) ?_
      refine pv_aloadn (pc := 111) (n := 0) 0 rfl rfl (fm_dec dtX11_laysOption 63 rfl) ?_
      refine pv_getR (k := 0) (j := 42) (ci := 11) (pc := 112) 13 rfl (by decide) pfl_X11_86 (by decide) rfl (by decide) (fm_dec dtX11_laysOption 64 rfl) ?_
      refine pv_iconst (pc := 115) (v := 1) (by decide) (fm_dec dtX11_laysOption 65 rfl) ?_
      refine pv_iald (k := 13) (n := 3) (pc := 116) (by decide) rfl rfl (fm_inl (by decide)) (fm_dec dtX11_laysOption 66 rfl) ?_
      refine pv_isub (pc := 117) (fm_dec dtX11_laysOption 67 rfl) ?_
      refine pv_iload (pc := 118) (i := 7) rfl (fm_dec dtX11_laysOption 68 rfl) ?_
      refine pv_aloadn (pc := 120) (n := 0) 0 rfl rfl (fm_dec dtX11_laysOption 69 rfl) ?_
      refine pv_getR (k := 0) (j := 42) (ci := 11) (pc := 121) 13 rfl (by decide) pfl_X11_86 (by decide) rfl (by decide) (fm_dec dtX11_laysOption 70 rfl) ?_
      refine pv_iconst (pc := 124) (v := 2) (by decide) (fm_dec dtX11_laysOption 71 rfl) ?_
      refine pv_iald (k := 13) (n := 3) (pc := 125) (by decide) rfl rfl (fm_inl (by decide)) (fm_dec dtX11_laysOption 72 rfl) ?_
      refine pv_isub (pc := 126) (fm_dec dtX11_laysOption 73 rfl) ?_
      refine pv_iS3 (d' := 0) (pc := 127) pcs_X11_369 (Nat.le_of_ble_eq_true rfl) (by decide) (fm_dec dtX11_laysOption 74 rfl) ?_
      refine c_roomOf (x := x - s 0) (y := y - s 1) (z := k - s 2) (sb_i ha (by rw [hW.1]; exact (hs 0 (by decide)).1) (by omega) (by omega)) (sb_i hb (by rw [hW.1]; exact (hs 1 (by decide)).1) (by omega) (by omega)) (sb_i hkk (by rw [hW.1]; exact (hs 2 (by decide)).1) (by omega) (by omega)) (by omega) (by omega) (by omega) (fun r127 h127 => ?_)
      refine pv_then1 ?_
      refine pv_istore (pc := 130) (i := 9) (by decide) rfl (fm_dec dtX11_laysOption 75 rfl) ?_
      dsimp only [List.set_cons_zero, List.set_cons_succ]
      have hl9 := hf (x - s 0) (y - s 1) (k - s 2) (by omega) (by omega) (by omega)
      have hfk9 := hfk (x - s 0) (y - s 1) (k - s 2)
      have hfb9 := hfb (x - s 0) (y - s 1) (k - s 2)
      have hc9 : nxO (M.2 11 ((13 * x + y) * 13 + k)) (M.2 12 ((13 * x + y) * 13 + k)) (g x y k) := (by have h9 := hC x y k hx.2 hy.2 hk12; rw [mw_f (by omega)] at h9; exact h9)
      have hgb9 := hgb x y k
      have eA : M.2 9 = M0.2 9 := funext (fun j => hW.2 9 j (by omega))
      have eB : M.2 10 = M0.2 10 := funext (fun j => hW.2 10 j (by omega))
      have eC : M.2 0 43 = M0.2 0 43 := hW.2 0 43 (by omega)
      have eL : (M.2 9 ((13 * (x - s 0) + (y - s 1)) * 13 + (k - s 2)) + M.2 0 43).toInt = (((f (x - s 0) (y - s 1) (k - s 2) + (hl * 16777216 + kyN i wk 3)) / 16777216 : Nat) : Int) := (by rw [eA, eC, ja_n hl9.1 hhl (by omega)]; omega)
      have eR : (M.2 10 ((13 * (x - s 0) + (y - s 1)) * 13 + (k - s 2)) + jZ ((kyN i wk 3 : Nat) : Int)).toInt = (((f (x - s 0) (y - s 1) (k - s 2) + (hl * 16777216 + kyN i wk 3)) % 16777216 : Nat) : Int) := (by rw [eB, ja_n hl9.2 (kyZ i hi8 wk hwk) (by omega)]; omega)
      refine pv_aloadn (pc := 132) (n := 0) 0 rfl rfl (fm_dec dtX11_laysOption 76 rfl) ?_
      refine pv_getR (k := 0) (j := 38) (ci := 11) (pc := 133) 9 rfl (by decide) pfl_X11_73 (by decide) rfl (by decide) (fm_dec dtX11_laysOption 77 rfl) ?_
      refine pv_iload (pc := 136) (i := 9) rfl (fm_dec dtX11_laysOption 78 rfl) ?_
      refine pv_lald (k := 9) (n := 2197) (pc := 138) (by decide) rfl rfl (ix_in h127 (ci_b (by omega) (by omega) (by omega))) (fm_dec dtX11_laysOption 79 rfl) ?_
      rw [i32_cl h127]
      refine pv_aloadn (pc := 139) (n := 0) 0 rfl rfl (fm_dec dtX11_laysOption 80 rfl) ?_
      refine pv_getJ (k := 0) (j := 43) (ci := 11) (pc := 140) pfl_X11_361 (by decide) rfl (by decide) (fm_dec dtX11_laysOption 81 rfl) ?_
      refine pv_ladd (pc := 143) (fm_dec dtX11_laysOption 82 rfl) ?_
      refine pv_lstore (pc := 144) (i := 10) (by decide) rfl (fm_dec dtX11_laysOption 83 rfl) ?_
      dsimp only [List.set_cons_zero, List.set_cons_succ]
      refine pv_aloadn (pc := 146) (n := 0) 0 rfl rfl (fm_dec dtX11_laysOption 84 rfl) ?_
      refine pv_getR (k := 0) (j := 39) (ci := 11) (pc := 147) 10 rfl (by decide) pfl_X11_77 (by decide) rfl (by decide) (fm_dec dtX11_laysOption 85 rfl) ?_
      refine pv_iload (pc := 150) (i := 9) rfl (fm_dec dtX11_laysOption 86 rfl) ?_
      refine pv_lald (k := 10) (n := 2197) (pc := 152) (by decide) rfl rfl (ix_in h127 (ci_b (by omega) (by omega) (by omega))) (fm_dec dtX11_laysOption 87 rfl) ?_
      rw [i32_cl h127]
      refine pv_lloadn (pc := 153) (n := 3) 3 rfl rfl (fm_dec dtX11_laysOption 88 rfl) ?_
      refine pv_ladd (pc := 154) (fm_dec dtX11_laysOption 89 rfl) ?_
      refine pv_lstore (pc := 155) (i := 12) (by decide) rfl (fm_dec dtX11_laysOption 90 rfl) ?_
      dsimp only [List.set_cons_zero, List.set_cons_succ]
      refine pv_aloadn (pc := 157) (n := 0) 0 rfl rfl (fm_dec dtX11_laysOption 91 rfl) ?_
      refine pv_getR (k := 0) (j := 40) (ci := 11) (pc := 158) 11 rfl (by decide) pfl_X11_80 (by decide) rfl (by decide) (fm_dec dtX11_laysOption 92 rfl) ?_
      refine pv_iload (pc := 161) (i := 8) rfl (fm_dec dtX11_laysOption 93 rfl) ?_
      refine pv_lald (k := 11) (n := 2197) (pc := 163) (by decide) rfl rfl (ix_in h95 (ci_b (by omega) (by omega) (by omega))) (fm_dec dtX11_laysOption 94 rfl) ?_
      rw [i32_cl h95]
      refine pv_ldc2 (pc := 164) pkc_X11_372 (fm_dec dtX11_laysOption 95 rfl) ?_
      refine pv_lcmp (pc := 167) (fm_dec dtX11_laysOption 96 rfl) ?_
      refine pv_if_eq (pc := 168) 213 (by decide) (fm_dec dtX11_laysOption 97 rfl) (fun hc168 => ?_) (fun hc168 => ?_)
      · refine pv_aloadn (pc := 213) (n := 0) 0 rfl rfl (fm_dec dtX11_laysOption 120 rfl) ?_
        refine pv_getR (k := 0) (j := 40) (ci := 11) (pc := 214) 11 rfl (by decide) pfl_X11_80 (by decide) rfl (by decide) (fm_dec dtX11_laysOption 121 rfl) ?_
        refine pv_iload (pc := 217) (i := 8) rfl (fm_dec dtX11_laysOption 122 rfl) ?_
        refine pv_lload (pc := 219) (i := 10) rfl (fm_dec dtX11_laysOption 123 rfl) ?_
        refine pv_last (k := 11) (n := 2197) (pc := 221) (by decide) rfl rfl (ix_in h95 (ci_b (by omega) (by omega) (by omega))) (fm_dec dtX11_laysOption 124 rfl) ?_
        refine pv_aloadn (pc := 222) (n := 0) 0 rfl rfl (fm_dec dtX11_laysOption 125 rfl) ?_
        refine pv_getR (k := 0) (j := 41) (ci := 11) (pc := 223) 12 rfl (by decide) pfl_X11_83 (by decide) rfl (by decide) (fm_dec dtX11_laysOption 126 rfl) ?_
        refine pv_iload (pc := 226) (i := 8) rfl (fm_dec dtX11_laysOption 127 rfl) ?_
        refine pv_lload (pc := 228) (i := 12) rfl (fm_dec dtX11_laysOption 128 rfl) ?_
        refine pv_last (k := 12) (n := 2197) (pc := 230) (by decide) rfl rfl (ix_in h95 (ci_b (by omega) (by omega) (by omega))) (fm_dec dtX11_laysOption 129 rfl) ?_
        refine pv_iincc (pc := 231) 7 1 (by decide) rfl (by decide) rfl (fm_dec dtX11_laysOption 130 rfl) ?_
        dsimp only [List.set_cons_zero, List.set_cons_succ]
        refine pv_goto (pc := 234) 82 (by decide) (fm_dec dtX11_laysOption 131 rfl) ?_
        have hnone : g x y k = none := (by cases hg : g x y k with | none => rfl | some w => (rw [hg] at hc9; have h9 := lc_eq.mp hc168; have h8 : (M.2 11 ((13 * x + y) * 13 + k)).toInt = ((w / 16777216 : Nat) : Int) := hc9.1; rw [h8] at h9; have zm : (-1 : Int64).toInt = -1 := (by decide); omega))
        rw [i32_cl h95]
        have hup : upO f s (hl * 16777216 + kyN i wk 3) g x y k = some (f (x - s 0) (y - s 1) (k - s 2) + (hl * 16777216 + kyN i wk 3)) := up_0 ⟨hx.1, hy.1, hsk⟩ hnone
        exact ih (13 - (k + 1)) (by omega) _ (k + 1) _ _ _ _ _ _ _ (i32_p1 hkk (by omega)) (by omega) (by omega) ((hW.put (Or.inl rfl) (ci_b hx.2 hy.2 (by omega))).put (Or.inr rfl) (ci_b hx.2 hy.2 (by omega))) (hC.put hx.2 hy.2 (by omega) hup eL eR)
      · have hne : ¬ g x y k = none := (fun e => by rw [e] at hc9; exact hc168 (by rw [lc_eq, show M.2 11 ((13 * x + y) * 13 + k) = -1 from hc9]))
        obtain ⟨w, hw⟩ : ∃ w, g x y k = some w := (by cases hg : g x y k with | none => exact absurd hg hne | some w => exact ⟨w, rfl⟩)
        rw [hw] at hc9
        have hc11 : (M.2 11 ((13 * x + y) * 13 + k)).toInt = ((w / 16777216 : Nat) : Int) := hc9.1
        have hc12 : (M.2 12 ((13 * x + y) * 13 + k)).toInt = ((w % 16777216 : Nat) : Int) := hc9.2
        refine pv_lload (pc := 171) (i := 10) rfl (fm_dec dtX11_laysOption 98 rfl) ?_
        refine pv_aloadn (pc := 173) (n := 0) 0 rfl rfl (fm_dec dtX11_laysOption 99 rfl) ?_
        refine pv_getR (k := 0) (j := 40) (ci := 11) (pc := 174) 11 rfl (by decide) pfl_X11_80 (by decide) rfl (by decide) (fm_dec dtX11_laysOption 100 rfl) ?_
        refine pv_iload (pc := 177) (i := 8) rfl (fm_dec dtX11_laysOption 101 rfl) ?_
        refine pv_lald (k := 11) (n := 2197) (pc := 179) (by decide) rfl rfl (ix_in h95 (ci_b (by omega) (by omega) (by omega))) (fm_dec dtX11_laysOption 102 rfl) ?_
        rw [i32_cl h95]
        refine pv_lcmp (pc := 180) (fm_dec dtX11_laysOption 103 rfl) ?_
        refine pv_if_gt (pc := 181) 231 (by decide) (fm_dec dtX11_laysOption 104 rfl) (fun hc181 => ?_) (fun hc181 => ?_)
        · refine pv_iincc (pc := 231) 7 1 (by decide) rfl (by decide) rfl (fm_dec dtX11_laysOption 130 rfl) ?_
          dsimp only [List.set_cons_zero, List.set_cons_succ]
          refine pv_goto (pc := 234) 82 (by decide) (fm_dec dtX11_laysOption 131 rfl) ?_
          have h9 := lc_pos.mp hc181
          rw [eL, hc11] at h9
          have hup : upO f s (hl * 16777216 + kyN i wk 3) g x y k = g x y k := (up_1 ⟨hx.1, hy.1, hsk⟩ hw).trans ((congrArg some (Nat.min_eq_left (by omega))).trans hw.symm)
          exact ih (13 - (k + 1)) (by omega) _ (k + 1) _ _ _ _ _ _ _ (i32_p1 hkk (by omega)) (by omega) (by omega) hW (hC.no hup)
        · refine pv_lload (pc := 184) (i := 10) rfl (fm_dec dtX11_laysOption 105 rfl) ?_
          refine pv_aloadn (pc := 186) (n := 0) 0 rfl rfl (fm_dec dtX11_laysOption 106 rfl) ?_
          refine pv_getR (k := 0) (j := 40) (ci := 11) (pc := 187) 11 rfl (by decide) pfl_X11_80 (by decide) rfl (by decide) (fm_dec dtX11_laysOption 107 rfl) ?_
          refine pv_iload (pc := 190) (i := 8) rfl (fm_dec dtX11_laysOption 108 rfl) ?_
          refine pv_lald (k := 11) (n := 2197) (pc := 192) (by decide) rfl rfl (ix_in h95 (ci_b (by omega) (by omega) (by omega))) (fm_dec dtX11_laysOption 109 rfl) ?_
          rw [i32_cl h95]
          refine pv_lcmp (pc := 193) (fm_dec dtX11_laysOption 110 rfl) ?_
          refine pv_if_ne (pc := 194) 213 (by decide) (fm_dec dtX11_laysOption 111 rfl) (fun hc194 => ?_) (fun hc194 => ?_)
          · refine pv_aloadn (pc := 213) (n := 0) 0 rfl rfl (fm_dec dtX11_laysOption 120 rfl) ?_
            refine pv_getR (k := 0) (j := 40) (ci := 11) (pc := 214) 11 rfl (by decide) pfl_X11_80 (by decide) rfl (by decide) (fm_dec dtX11_laysOption 121 rfl) ?_
            refine pv_iload (pc := 217) (i := 8) rfl (fm_dec dtX11_laysOption 122 rfl) ?_
            refine pv_lload (pc := 219) (i := 10) rfl (fm_dec dtX11_laysOption 123 rfl) ?_
            refine pv_last (k := 11) (n := 2197) (pc := 221) (by decide) rfl rfl (ix_in h95 (ci_b (by omega) (by omega) (by omega))) (fm_dec dtX11_laysOption 124 rfl) ?_
            refine pv_aloadn (pc := 222) (n := 0) 0 rfl rfl (fm_dec dtX11_laysOption 125 rfl) ?_
            refine pv_getR (k := 0) (j := 41) (ci := 11) (pc := 223) 12 rfl (by decide) pfl_X11_83 (by decide) rfl (by decide) (fm_dec dtX11_laysOption 126 rfl) ?_
            refine pv_iload (pc := 226) (i := 8) rfl (fm_dec dtX11_laysOption 127 rfl) ?_
            refine pv_lload (pc := 228) (i := 12) rfl (fm_dec dtX11_laysOption 128 rfl) ?_
            refine pv_last (k := 12) (n := 2197) (pc := 230) (by decide) rfl rfl (ix_in h95 (ci_b (by omega) (by omega) (by omega))) (fm_dec dtX11_laysOption 129 rfl) ?_
            refine pv_iincc (pc := 231) 7 1 (by decide) rfl (by decide) rfl (fm_dec dtX11_laysOption 130 rfl) ?_
            dsimp only [List.set_cons_zero, List.set_cons_succ]
            refine pv_goto (pc := 234) 82 (by decide) (fm_dec dtX11_laysOption 131 rfl) ?_
            have h9 : ¬ (M.2 11 ((13 * x + y) * 13 + k)).toInt < (M.2 9 ((13 * (x - s 0) + (y - s 1)) * 13 + (k - s 2)) + M.2 0 43).toInt := fun e => hc181 (lc_pos.mpr e)
            have h8 : ¬ (M.2 9 ((13 * (x - s 0) + (y - s 1)) * 13 + (k - s 2)) + M.2 0 43).toInt = (M.2 11 ((13 * x + y) * 13 + k)).toInt := fun e => hc194 (lc_eq.mpr e)
            rw [eL, hc11] at h9 h8
            rw [i32_cl h95]
            have hup : upO f s (hl * 16777216 + kyN i wk 3) g x y k = some (f (x - s 0) (y - s 1) (k - s 2) + (hl * 16777216 + kyN i wk 3)) := (up_1 ⟨hx.1, hy.1, hsk⟩ hw).trans (congrArg some (Nat.min_eq_right (by omega)))
            exact ih (13 - (k + 1)) (by omega) _ (k + 1) _ _ _ _ _ _ _ (i32_p1 hkk (by omega)) (by omega) (by omega) ((hW.put (Or.inl rfl) (ci_b hx.2 hy.2 (by omega))).put (Or.inr rfl) (ci_b hx.2 hy.2 (by omega))) (hC.put hx.2 hy.2 (by omega) hup eL eR)
          · refine pv_lload (pc := 197) (i := 12) rfl (fm_dec dtX11_laysOption 112 rfl) ?_
            refine pv_aloadn (pc := 199) (n := 0) 0 rfl rfl (fm_dec dtX11_laysOption 113 rfl) ?_
            refine pv_getR (k := 0) (j := 41) (ci := 11) (pc := 200) 12 rfl (by decide) pfl_X11_83 (by decide) rfl (by decide) (fm_dec dtX11_laysOption 114 rfl) ?_
            refine pv_iload (pc := 203) (i := 8) rfl (fm_dec dtX11_laysOption 115 rfl) ?_
            refine pv_lald (k := 12) (n := 2197) (pc := 205) (by decide) rfl rfl (ix_in h95 (ci_b (by omega) (by omega) (by omega))) (fm_dec dtX11_laysOption 116 rfl) ?_
            rw [i32_cl h95]
            refine pv_lcmp (pc := 206) (fm_dec dtX11_laysOption 117 rfl) ?_
            refine pv_if_lt (pc := 207) 213 (by decide) (fm_dec dtX11_laysOption 118 rfl) (fun hc207 => ?_) (fun hc207 => ?_)
            · refine pv_aloadn (pc := 213) (n := 0) 0 rfl rfl (fm_dec dtX11_laysOption 120 rfl) ?_
              refine pv_getR (k := 0) (j := 40) (ci := 11) (pc := 214) 11 rfl (by decide) pfl_X11_80 (by decide) rfl (by decide) (fm_dec dtX11_laysOption 121 rfl) ?_
              refine pv_iload (pc := 217) (i := 8) rfl (fm_dec dtX11_laysOption 122 rfl) ?_
              refine pv_lload (pc := 219) (i := 10) rfl (fm_dec dtX11_laysOption 123 rfl) ?_
              refine pv_last (k := 11) (n := 2197) (pc := 221) (by decide) rfl rfl (ix_in h95 (ci_b (by omega) (by omega) (by omega))) (fm_dec dtX11_laysOption 124 rfl) ?_
              refine pv_aloadn (pc := 222) (n := 0) 0 rfl rfl (fm_dec dtX11_laysOption 125 rfl) ?_
              refine pv_getR (k := 0) (j := 41) (ci := 11) (pc := 223) 12 rfl (by decide) pfl_X11_83 (by decide) rfl (by decide) (fm_dec dtX11_laysOption 126 rfl) ?_
              refine pv_iload (pc := 226) (i := 8) rfl (fm_dec dtX11_laysOption 127 rfl) ?_
              refine pv_lload (pc := 228) (i := 12) rfl (fm_dec dtX11_laysOption 128 rfl) ?_
              refine pv_last (k := 12) (n := 2197) (pc := 230) (by decide) rfl rfl (ix_in h95 (ci_b (by omega) (by omega) (by omega))) (fm_dec dtX11_laysOption 129 rfl) ?_
              refine pv_iincc (pc := 231) 7 1 (by decide) rfl (by decide) rfl (fm_dec dtX11_laysOption 130 rfl) ?_
              dsimp only [List.set_cons_zero, List.set_cons_succ]
              refine pv_goto (pc := 234) 82 (by decide) (fm_dec dtX11_laysOption 131 rfl) ?_
              have h9 : ¬ (M.2 11 ((13 * x + y) * 13 + k)).toInt < (M.2 9 ((13 * (x - s 0) + (y - s 1)) * 13 + (k - s 2)) + M.2 0 43).toInt := fun e => hc181 (lc_pos.mpr e)
              have h8 := lc_eq.mp hc194
              have h7 := lc_neg.mp hc207
              rw [eL, hc11] at h9 h8
              rw [eR, hc12] at h7
              rw [i32_cl h95]
              have hup : upO f s (hl * 16777216 + kyN i wk 3) g x y k = some (f (x - s 0) (y - s 1) (k - s 2) + (hl * 16777216 + kyN i wk 3)) := (up_1 ⟨hx.1, hy.1, hsk⟩ hw).trans (congrArg some (Nat.min_eq_right (by omega)))
              exact ih (13 - (k + 1)) (by omega) _ (k + 1) _ _ _ _ _ _ _ (i32_p1 hkk (by omega)) (by omega) (by omega) ((hW.put (Or.inl rfl) (ci_b hx.2 hy.2 (by omega))).put (Or.inr rfl) (ci_b hx.2 hy.2 (by omega))) (hC.put hx.2 hy.2 (by omega) hup eL eR)
            · refine pv_goto (pc := 210) 231 (by decide) (fm_dec dtX11_laysOption 119 rfl) ?_
              refine pv_iincc (pc := 231) 7 1 (by decide) rfl (by decide) rfl (fm_dec dtX11_laysOption 130 rfl) ?_
              dsimp only [List.set_cons_zero, List.set_cons_succ]
              refine pv_goto (pc := 234) 82 (by decide) (fm_dec dtX11_laysOption 131 rfl) ?_
              have h8 := lc_eq.mp hc194
              have h7 : ¬ (M.2 10 ((13 * (x - s 0) + (y - s 1)) * 13 + (k - s 2)) + jZ ((kyN i wk 3 : Nat) : Int)).toInt < (M.2 12 ((13 * x + y) * 13 + k)).toInt := fun e => hc207 (lc_neg.mpr e)
              rw [eL, hc11] at h8
              rw [eR, hc12] at h7
              have hup : upO f s (hl * 16777216 + kyN i wk 3) g x y k = g x y k := (up_1 ⟨hx.1, hy.1, hsk⟩ hw).trans ((congrArg some (Nat.min_eq_left (by omega))).trans hw.symm)
              exact ih (13 - (k + 1)) (by omega) _ (k + 1) _ _ _ _ _ _ _ (i32_p1 hkk (by omega)) (by omega) (by omega) hW (hC.no hup)
set_option maxRecDepth 20000 in
theorem lq_2 {Q : fmR → fmM → Prop} {M0 : fmM} {f : Nat → Nat → Nat → Nat} {s : Nat → Nat} {g : Nat → Nat → Nat → Option Nat} {i wk hl : Nat} (hi8 : i < 8) (hwk : wk < 8) (hs : ∀ k, k < 3 → (M0.1 13 k).toInt = ((s k : Nat) : Int) ∧ s k ≤ 9) (hhl : (M0.2 0 43).toInt = ((hl : Nat) : Int)) (hlb : hl ≤ 14948499456) (hf : leP M0 f) (hfk : ∀ x y z, f x y z % 16777216 + kyN i wk 3 < 16777216) (hfb : ∀ x y z, f x y z ≤ 2100000000000000000) (hgb : ∀ x y z w, g x y z = some w → w ≤ 2400000000000000000) {a : Int32} {x : Nat} (ha : a.toInt = (x : Int)) (hx : s 0 ≤ x ∧ x ≤ 12) (hq : ∀ (M' : fmM) (b' : Int32) (v7 v8 v9 v10 v11 v12 v13 : Option Value), loFr M0 M' → nxP M' (mxO g (upO f s (hl * 16777216 + kyN i wk 3) g) (x + 1) 0 0) → pvEv Tm 3 qX11_laysOption 243 [some (.ref 0), some (.int (nI i)), some (.int (nI wk)), some (.long (jZ ((kyN i wk 3 : Nat) : Int))), none, some (.int a), some (.int b'), v7, v8, v9, v10, v11, v12, v13] [] M' Q) : ∀ (m : Nat) (M : fmM) (k : Nat) (b : Int32) (v7 v8 v9 v10 v11 v12 v13 : Option Value), b.toInt = (k : Int) → s 1 ≤ k → k + m = 13 → loFr M0 M → nxP M (mxO g (upO f s (hl * 16777216 + kyN i wk 3) g) x k 0) → pvEv Tm 3 qX11_laysOption 67 [some (.ref 0), some (.int (nI i)), some (.int (nI wk)), some (.long (jZ ((kyN i wk 3 : Nat) : Int))), none, some (.int a), some (.int b), v7, v8, v9, v10, v11, v12, v13] [] M Q := by
  intro m
  induction m using Nat.strongRecOn with
  | _ m ih =>
    intro M k b v7 v8 v9 v10 v11 v12 v13 hkk hsk hm hW hC
    refine pv_iload (pc := 67) (i := 6) rfl (fm_dec dtX11_laysOption 40 rfl) ?_
    refine pv_bipush (pc := 69) (v := 12) (by decide) (fm_dec dtX11_laysOption 41 rfl) ?_
    refine pv_icmp_gt (pc := 71) 243 (by decide) (fm_dec dtX11_laysOption 42 rfl) (fun hc71 => ?_) (fun hc71 => ?_)
    · have hk13 : k = 13 := (by rw [sc_lt] at hc71; have h9 : (12 : Int32).toInt = 12 := (by decide); omega)
      exact hq M b _ _ _ _ _ _ _ hW (hC.of rfl rfl (fun x' y' z' p q r => mw_e (by omega)))
    · have hk13 : k < 13 := (by rw [sc_lt] at hc71; have h9 : (12 : Int32).toInt = 12 := (by decide); omega)
      have h9s := hs 2 (by decide)
      refine pv_aloadn (pc := 74) (n := 0) 0 rfl rfl (fm_dec dtX11_laysOption 43 rfl) ?_
      refine pv_getR (k := 0) (j := 42) (ci := 11) (pc := 75) 13 rfl (by decide) pfl_X11_86 (by decide) rfl (by decide) (fm_dec dtX11_laysOption 44 rfl) ?_
      refine pv_iconst (pc := 78) (v := 2) (by decide) (fm_dec dtX11_laysOption 45 rfl) ?_
      refine pv_iald (k := 13) (n := 3) (pc := 79) (by decide) rfl rfl (fm_inl (by decide)) (fm_dec dtX11_laysOption 46 rfl) ?_
      refine pv_istore (pc := 80) (i := 7) (by decide) rfl (fm_dec dtX11_laysOption 47 rfl) ?_
      dsimp only [List.set_cons_zero, List.set_cons_succ]
      refine lq_3 hi8 hwk hs hhl hlb hf hfk hfb hgb ha hx hkk ⟨hsk, by omega⟩ (fun M3 c3 w8 w9 w10 w11 w12 w13 hW3 hC3 => ?_) (13 - s 2) _ (s 2) _ _ _ _ _ _ _ (by rw [hW.1]; exact h9s.1) (Nat.le_refl _) (by omega) hW (hC.of rfl rfl (fun x' y' z' p q r => mw_s (by by_cases e : s 2 ≤ z'; exact Or.inl (by omega); exact Or.inr (up_n (fun h => e h.2.2)))))
      refine pv_iincc (pc := 237) 6 1 (by decide) rfl (by decide) rfl (fm_dec dtX11_laysOption 132 rfl) ?_
      dsimp only [List.set_cons_zero, List.set_cons_succ]
      refine pv_goto (pc := 240) 67 (by decide) (fm_dec dtX11_laysOption 133 rfl) ?_
      exact ih (13 - (k + 1)) (by omega) _ (k + 1) _ _ _ _ _ _ _ _ (i32_p1 hkk (by omega)) (by omega) (by omega) hW3 hC3
set_option maxRecDepth 20000 in
theorem lq_1 {Q : fmR → fmM → Prop} {M0 : fmM} {f : Nat → Nat → Nat → Nat} {s : Nat → Nat} {g : Nat → Nat → Nat → Option Nat} {i wk hl : Nat} (hi8 : i < 8) (hwk : wk < 8) (hs : ∀ k, k < 3 → (M0.1 13 k).toInt = ((s k : Nat) : Int) ∧ s k ≤ 9) (hhl : (M0.2 0 43).toInt = ((hl : Nat) : Int)) (hlb : hl ≤ 14948499456) (hf : leP M0 f) (hfk : ∀ x y z, f x y z % 16777216 + kyN i wk 3 < 16777216) (hfb : ∀ x y z, f x y z ≤ 2100000000000000000) (hgb : ∀ x y z w, g x y z = some w → w ≤ 2400000000000000000) (hq : ∀ M' : fmM, loFr M0 M' → nxP M' (upO f s (hl * 16777216 + kyN i wk 3) g) → Q (.inl none) M') : ∀ (m : Nat) (M : fmM) (k : Nat) (a : Int32) (v6 v7 v8 v9 v10 v11 v12 v13 : Option Value), a.toInt = (k : Int) → s 0 ≤ k → k + m = 13 → loFr M0 M → nxP M (mxO g (upO f s (hl * 16777216 + kyN i wk 3) g) k 0 0) → pvEv Tm 3 qX11_laysOption 52 [some (.ref 0), some (.int (nI i)), some (.int (nI wk)), some (.long (jZ ((kyN i wk 3 : Nat) : Int))), none, some (.int a), v6, v7, v8, v9, v10, v11, v12, v13] [] M Q := by
  intro m
  induction m using Nat.strongRecOn with
  | _ m ih =>
    intro M k a v6 v7 v8 v9 v10 v11 v12 v13 hkk hsk hm hW hC
    refine pv_iload (pc := 52) (i := 5) rfl (fm_dec dtX11_laysOption 32 rfl) ?_
    refine pv_bipush (pc := 54) (v := 12) (by decide) (fm_dec dtX11_laysOption 33 rfl) ?_
    refine pv_icmp_gt (pc := 56) 249 (by decide) (fm_dec dtX11_laysOption 34 rfl) (fun hc56 => ?_) (fun hc56 => ?_)
    · exact pv_return (pc := 249) rfl (fm_dec dtX11_laysOption 136 rfl) (hq M hW (hC.of rfl rfl (fun x' y' z' p q r => by have hk13 : k = 13 := (by rw [sc_lt] at hc56; have h9 : (12 : Int32).toInt = 12 := (by decide); omega); rw [mw_g (by omega)])))
    · have hk13 : k < 13 := (by rw [sc_lt] at hc56; have h9 : (12 : Int32).toInt = 12 := (by decide); omega)
      have h9s := hs 1 (by decide)
      refine pv_aloadn (pc := 59) (n := 0) 0 rfl rfl (fm_dec dtX11_laysOption 35 rfl) ?_
      refine pv_getR (k := 0) (j := 42) (ci := 11) (pc := 60) 13 rfl (by decide) pfl_X11_86 (by decide) rfl (by decide) (fm_dec dtX11_laysOption 36 rfl) ?_
      refine pv_iconst (pc := 63) (v := 1) (by decide) (fm_dec dtX11_laysOption 37 rfl) ?_
      refine pv_iald (k := 13) (n := 3) (pc := 64) (by decide) rfl rfl (fm_inl (by decide)) (fm_dec dtX11_laysOption 38 rfl) ?_
      refine pv_istore (pc := 65) (i := 6) (by decide) rfl (fm_dec dtX11_laysOption 39 rfl) ?_
      dsimp only [List.set_cons_zero, List.set_cons_succ]
      refine lq_2 hi8 hwk hs hhl hlb hf hfk hfb hgb hkk ⟨hsk, by omega⟩ (fun M3 c3 w7 w8 w9 w10 w11 w12 w13 hW3 hC3 => ?_) (13 - s 1) _ (s 1) _ _ _ _ _ _ _ _ (by rw [hW.1]; exact h9s.1) (Nat.le_refl _) (by omega) hW (hC.of rfl rfl (fun x' y' z' p q r => mw_s (by by_cases e : s 1 ≤ y'; exact Or.inl (by omega); exact Or.inr (up_n (fun h => e h.2.1)))))
      refine pv_iincc (pc := 243) 5 1 (by decide) rfl (by decide) rfl (fm_dec dtX11_laysOption 134 rfl) ?_
      dsimp only [List.set_cons_zero, List.set_cons_succ]
      refine pv_goto (pc := 246) 52 (by decide) (fm_dec dtX11_laysOption 135 rfl) ?_
      exact ih (13 - (k + 1)) (by omega) _ (k + 1) _ _ _ _ _ _ _ _ _ (i32_p1 hkk (by omega)) (by omega) (by omega) hW3 hC3
set_option maxRecDepth 20000 in
theorem lq_0 {Q : fmR → fmM → Prop} {M : fmM} {i wk : Nat} (hi8 : i < 8) (hwk : wk < 8) (hq : ∀ (k9 : Int32) (v6 v7 v8 v9 v10 v11 v12 v13 : Option Value), pvEv Tm 3 qX11_laysOption 44 [some (.ref 0), some (.int (nI i)), some (.int (nI wk)), some (.long (jZ ((kyN i wk 3 : Nat) : Int))), none, some (.int k9), v6, v7, v8, v9, v10, v11, v12, v13] [] M Q) : ∀ (m : Nat) (k : Nat) (v6 v7 v8 v9 v10 v11 v12 v13 : Option Value), k ≤ 3 → 3 - k = m → pvEv Tm 3 qX11_laysOption 5 [some (.ref 0), some (.int (nI i)), some (.int (nI wk)), some (.long (jZ ((kyN i wk k : Nat) : Int))), none, some (.int (nI k)), v6, v7, v8, v9, v10, v11, v12, v13] [] M Q := by
  intro m
  induction m using Nat.strongRecOn with
  | _ m ih =>
    intro k v6 v7 v8 v9 v10 v11 v12 v13 hk hm
    have hk9 : (nI k).toInt = (k : Int) := nI_toInt (by omega)
    refine pv_iload (pc := 5) (i := 5) rfl (fm_dec dtX11_laysOption 4 rfl) ?_
    refine pv_iconst (pc := 7) (v := 3) (by decide) (fm_dec dtX11_laysOption 5 rfl) ?_
    refine pv_icmp_ge (pc := 8) 44 (by decide) (fm_dec dtX11_laysOption 6 rfl) (fun hc8 => ?_) (fun hc8 => ?_)
    · obtain rfl : k = 3 := (by rw [sc_le] at hc8; have z3 : (3 : Int32).toInt = 3 := (by decide); omega)
      exact hq _ _ _ _ _ _ _ _ _
    · have hk3 : k < 3 := (by rw [sc_le] at hc8; have h9 : (3 : Int32).toInt = 3 := (by decide); omega)
      refine pv_lloadn (pc := 11) (n := 3) 3 rfl rfl (fm_dec dtX11_laysOption 7 rfl) ?_
      refine pv_iloadn (pc := 12) (n := 2) 2 rfl rfl (fm_dec dtX11_laysOption 8 rfl) ?_
      refine pv_iload (pc := 13) (i := 5) rfl (fm_dec dtX11_laysOption 9 rfl) ?_
      refine pv_iS2 (d' := 0) (pc := 15) pcs_X11_256 (Nat.le_of_ble_eq_true rfl) (by decide) (fm_dec dtX11_laysOption 10 rfl) ?_
      refine c_has (fun h15 => ?_) (fun h15 => ?_)
      · refine pv_then1 ?_
        refine pv_if_eq (pc := 18) 35 (by decide) (fm_dec dtX11_laysOption 11 rfl) (fun hc18 => by exfalso; revert hc18; decide) (fun _ => ?_)
        refine pv_lconst (pc := 21) (v := 1) (by decide) (fm_dec dtX11_laysOption 12 rfl) ?_
        refine pv_bipush (pc := 22) (v := 8) (by decide) (fm_dec dtX11_laysOption 13 rfl) ?_
        refine pv_iconst (pc := 24) (v := 2) (by decide) (fm_dec dtX11_laysOption 14 rfl) ?_
        refine pv_iload (pc := 25) (i := 5) rfl (fm_dec dtX11_laysOption 15 rfl) ?_
        refine pv_isub (pc := 27) (fm_dec dtX11_laysOption 16 rfl) ?_
        refine pv_imul (pc := 28) (fm_dec dtX11_laysOption 17 rfl) ?_
        refine pv_iloadn (pc := 29) (n := 1) 1 rfl rfl (fm_dec dtX11_laysOption 18 rfl) ?_
        refine pv_iadd (pc := 30) (fm_dec dtX11_laysOption 19 rfl) ?_
        refine pv_lshl (pc := 31) (fm_dec dtX11_laysOption 20 rfl) ?_
        refine pv_goto (pc := 32) 36 (by decide) (fm_dec dtX11_laysOption 21 rfl) ?_
        refine pv_ladd (pc := 36) (fm_dec dtX11_laysOption 23 rfl) ?_
        rw [kyM i hi8 wk hwk k hk3 ((has8 wk (by omega) k (by omega)).mp h15)]
        refine pv_lstoren (pc := 37) (n := 3) 3 rfl (by decide) rfl (fm_dec dtX11_laysOption 24 rfl) ?_
        dsimp only [List.set_cons_zero, List.set_cons_succ]
        refine pv_iincc (pc := 38) 5 1 (by decide) rfl (by decide) rfl (fm_dec dtX11_laysOption 25 rfl) ?_
        dsimp only [List.set_cons_zero, List.set_cons_succ]
        refine pv_goto (pc := 41) 5 (by decide) (fm_dec dtX11_laysOption 26 rfl) ?_
        rw [nI_succ1]
        exact ih (3 - (k + 1)) (by omega) (k + 1) _ _ _ _ _ _ _ _ (by omega) rfl
      · refine pv_then1 ?_
        refine pv_if_eq (pc := 18) 35 (by decide) (fm_dec dtX11_laysOption 11 rfl) (fun _ => ?_) (fun hc18 => by exfalso; revert hc18; decide)
        refine pv_lconst (pc := 35) (v := 0) (by decide) (fm_dec dtX11_laysOption 22 rfl) ?_
        refine pv_ladd (pc := 36) (fm_dec dtX11_laysOption 23 rfl) ?_
        rw [Int64.add_zero, ← ky_n (show wk.testBit k = false by cases h9 : wk.testBit k with | false => rfl | true => exact absurd ((has8 wk (by omega) k (by omega)).mpr h9) h15)]
        refine pv_lstoren (pc := 37) (n := 3) 3 rfl (by decide) rfl (fm_dec dtX11_laysOption 24 rfl) ?_
        dsimp only [List.set_cons_zero, List.set_cons_succ]
        refine pv_iincc (pc := 38) 5 1 (by decide) rfl (by decide) rfl (fm_dec dtX11_laysOption 25 rfl) ?_
        dsimp only [List.set_cons_zero, List.set_cons_succ]
        refine pv_goto (pc := 41) 5 (by decide) (fm_dec dtX11_laysOption 26 rfl) ?_
        rw [nI_succ1]
        exact ih (3 - (k + 1)) (by omega) (k + 1) _ _ _ _ _ _ _ _ (by omega) rfl
set_option maxRecDepth 20000 in
theorem c_mlo {M : fmM} {Q : fmR → fmM → Prop} {f : Nat → Nat → Nat → Nat} {s : Nat → Nat} {g : Nat → Nat → Nat → Option Nat} {i wk hl : Nat} (hi8 : i < 8) (hwk : wk < 8) (hs : ∀ k, k < 3 → (M.1 13 k).toInt = ((s k : Nat) : Int) ∧ s k ≤ 9) (hhl : (M.2 0 43).toInt = ((hl : Nat) : Int)) (hlb : hl ≤ 14948499456) (hf : leP M f) (hfk : ∀ x y z, f x y z % 16777216 + kyN i wk 3 < 16777216) (hfb : ∀ x y z, f x y z ≤ 2100000000000000000) (hgb : ∀ x y z w, g x y z = some w → w ≤ 2400000000000000000) (hC : nxP M g) (hq : ∀ M' : fmM, loFr M M' → nxP M' (upO f s (hl * 16777216 + kyN i wk 3) g) → Q (.inl none) M') : pvGood Tm 3 qX11_laysOption [.ref 0, .int (nI i), .int (nI wk)] M Q := by
  refine pvGood_of (Nat.le_of_ble_eq_true rfl) ?_
  show pvEv Tm 3 qX11_laysOption 0 [some (.ref 0), some (.int (nI i)), some (.int (nI wk)), none, none, none, none, none, none, none, none, none, none, none] [] M Q
  refine pv_lconst (pc := 0) (v := 0) (by decide) (fm_dec dtX11_laysOption 0 rfl) ?_
  refine pv_lstoren (pc := 1) (n := 3) 3 rfl (by decide) rfl (fm_dec dtX11_laysOption 1 rfl) ?_
  dsimp only [List.set_cons_zero, List.set_cons_succ]
  refine pv_iconst (pc := 2) (v := 0) (by decide) (fm_dec dtX11_laysOption 2 rfl) ?_
  refine pv_istore (pc := 3) (i := 5) (by decide) rfl (fm_dec dtX11_laysOption 3 rfl) ?_
  dsimp only [List.set_cons_zero, List.set_cons_succ]
  rw [show (0 : Int64) = jZ ((kyN i wk 0 : Nat) : Int) from (by show (0 : Int64) = jZ ((0 : Nat) : Int); decide)]
  refine lq_0 hi8 hwk (fun k9 w6 w7 w8 w9 w10 w11 w12 w13 => ?_) 3 0 _ _ _ _ _ _ _ _ (by decide) rfl
  refine pv_aloadn (pc := 44) (n := 0) 0 rfl rfl (fm_dec dtX11_laysOption 27 rfl) ?_
  refine pv_getR (k := 0) (j := 42) (ci := 11) (pc := 45) 13 rfl (by decide) pfl_X11_86 (by decide) rfl (by decide) (fm_dec dtX11_laysOption 28 rfl) ?_
  refine pv_iconst (pc := 48) (v := 0) (by decide) (fm_dec dtX11_laysOption 29 rfl) ?_
  refine pv_iald (k := 13) (n := 3) (pc := 49) (by decide) rfl rfl (fm_inl (by decide)) (fm_dec dtX11_laysOption 30 rfl) ?_
  refine pv_istore (pc := 50) (i := 5) (by decide) rfl (fm_dec dtX11_laysOption 31 rfl) ?_
  dsimp only [List.set_cons_zero, List.set_cons_succ]
  exact lq_1 hi8 hwk hs hhl hlb hf hfk hfb hgb hq (13 - s 0) M (s 0) _ _ _ _ _ _ _ _ _ (hs 0 (by decide)).1 (Nat.le_refl _) (by have := (hs 0 (by decide)).2; omega) ⟨rfl, fun _ _ _ => rfl⟩ (hC.of rfl rfl (fun x' y' z' p q r => by by_cases e : s 0 ≤ x'; exact mw_f (by omega); exact (mw_s (a' := 0) (b' := 0) (c' := 0) (Or.inr (up_n (fun h => e h.1)))).trans (mw_f (by omega))))
set_option maxRecDepth 20000 in
theorem mlb_a {Q : fmR → fmM → Prop} {M0 : fmM} {n : Nat} (hq : ∀ (M : fmM) (k9 : Int32) (v3 : Option Value), (∀ j, j < 2197 → M.2 9 j = 0 ∧ M.2 10 j = 0) → M.1 = M0.1 → (∀ k j, k ≠ 9 → k ≠ 10 → M.2 k j = M0.2 k j) → pvEv Tm 9 qX11_laysBest 29 [some (.ref 0), some (.int (nI n)), some (.int k9), v3] [] M Q) : ∀ (m : Nat) (k : Nat) (M : fmM) (v3 : Option Value), k ≤ 2197 → 2197 - k = m → (∀ j, j < k → M.2 9 j = 0 ∧ M.2 10 j = 0) → M.1 = M0.1 → (∀ k j, k ≠ 9 → k ≠ 10 → M.2 k j = M0.2 k j) → pvEv Tm 9 qX11_laysBest 2 [some (.ref 0), some (.int (nI n)), some (.int (nI k)), v3] [] M Q := by
  intro m
  induction m using Nat.strongRecOn with
  | _ m ih =>
    intro k M v3 hk9n hm h h1 h2
    have hk9 : (nI k).toInt = (k : Int) := nI_toInt (by omega)
    refine pv_iloadn (pc := 2) (n := 2) 2 rfl rfl (fm_dec dtX11_laysBest 2 rfl) ?_
    refine pv_sipush (pc := 3) (v := 2197) (by decide) (fm_dec dtX11_laysBest 3 rfl) ?_
    refine pv_icmp_ge (pc := 6) 29 (by decide) (fm_dec dtX11_laysBest 4 rfl) (fun hc6 => ?_) (fun hc6 => ?_)
    · have e9 : 2197 ≤ k := (by rw [sc_le] at hc6; have z9 : (2197 : Int32).toInt = 2197 := (by decide); omega)
      exact hq M _ _ (fun j hj => h j (by omega)) h1 h2
    · have hk : k < 2197 := (by rw [sc_le] at hc6; have z9 : (2197 : Int32).toInt = 2197 := (by decide); omega)
      refine pv_aloadn (pc := 9) (n := 0) 0 rfl rfl (fm_dec dtX11_laysBest 5 rfl) ?_
      refine pv_getR (k := 0) (j := 38) (ci := 11) (pc := 10) 9 rfl (by decide) pfl_X11_73 (by decide) rfl (by decide) (fm_dec dtX11_laysBest 6 rfl) ?_
      refine pv_iloadn (pc := 13) (n := 2) 2 rfl rfl (fm_dec dtX11_laysBest 7 rfl) ?_
      refine pv_lconst (pc := 14) (v := 0) (by decide) (fm_dec dtX11_laysBest 8 rfl) ?_
      refine pv_last (k := 9) (n := 2197) (pc := 15) (by decide) rfl rfl (ix_in hk9 (by omega)) (fm_dec dtX11_laysBest 9 rfl) ?_
      refine pv_aloadn (pc := 16) (n := 0) 0 rfl rfl (fm_dec dtX11_laysBest 10 rfl) ?_
      refine pv_getR (k := 0) (j := 39) (ci := 11) (pc := 17) 10 rfl (by decide) pfl_X11_77 (by decide) rfl (by decide) (fm_dec dtX11_laysBest 11 rfl) ?_
      refine pv_iloadn (pc := 20) (n := 2) 2 rfl rfl (fm_dec dtX11_laysBest 12 rfl) ?_
      refine pv_lconst (pc := 21) (v := 0) (by decide) (fm_dec dtX11_laysBest 13 rfl) ?_
      refine pv_last (k := 10) (n := 2197) (pc := 22) (by decide) rfl rfl (ix_in hk9 (by omega)) (fm_dec dtX11_laysBest 14 rfl) ?_
      refine pv_iincc (pc := 23) 2 1 (by decide) rfl (by decide) rfl (fm_dec dtX11_laysBest 15 rfl) ?_
      dsimp only [List.set_cons_zero, List.set_cons_succ]
      refine pv_goto (pc := 26) 2 (by decide) (fm_dec dtX11_laysBest 16 rfl) ?_
      rw [nI_succ1, i32_cl hk9]
      refine ih (2197 - (k + 1)) (by omega) (k + 1) _ _ (by omega) rfl (fun j hj => ?_) h1 (fun k' j a b => by rw [fmJ_k2 b, fmJ_k2 a]; exact h2 k' j a b)
      by_cases e : j = k
      · subst e
        exact ⟨by rw [fmJ_k2 (show (9 : Nat) ≠ 10 by decide), fmJ_s2], fmJ_s2⟩
      · have h9 := h j (by omega)
        exact ⟨by rw [fmJ_k2 (show (9 : Nat) ≠ 10 by decide), fmJ_j _ _ e]; exact h9.1, by rw [fmJ_j _ _ e, fmJ_k2 (show (10 : Nat) ≠ 9 by decide)]; exact h9.2⟩
set_option maxRecDepth 20000 in
theorem mlb_b {Q : fmR → fmM → Prop} {M0 : fmM} {n l : Nat} (hq : ∀ (M : fmM) (k9 : Int32), (∀ j, j < 2197 → M.2 11 j = -1) → M.1 = M0.1 → (∀ k j, k ≠ 11 → M.2 k j = M0.2 k j) → pvEv Tm 9 qX11_laysBest 65 [some (.ref 0), some (.int (nI n)), some (.int (nI l)), some (.int k9)] [] M Q) : ∀ (m : Nat) (k : Nat) (M : fmM), k ≤ 2197 → 2197 - k = m → (∀ j, j < k → M.2 11 j = -1) → M.1 = M0.1 → (∀ k j, k ≠ 11 → M.2 k j = M0.2 k j) → pvEv Tm 9 qX11_laysBest 43 [some (.ref 0), some (.int (nI n)), some (.int (nI l)), some (.int (nI k))] [] M Q := by
  intro m
  induction m using Nat.strongRecOn with
  | _ m ih =>
    intro k M hk9n hm h h1 h2
    have hk9 : (nI k).toInt = (k : Int) := nI_toInt (by omega)
    refine pv_iloadn (pc := 43) (n := 3) 3 rfl rfl (fm_dec dtX11_laysBest 27 rfl) ?_
    refine pv_sipush (pc := 44) (v := 2197) (by decide) (fm_dec dtX11_laysBest 28 rfl) ?_
    refine pv_icmp_ge (pc := 47) 65 (by decide) (fm_dec dtX11_laysBest 29 rfl) (fun hc47 => ?_) (fun hc47 => ?_)
    · have e9 : 2197 ≤ k := (by rw [sc_le] at hc47; have z9 : (2197 : Int32).toInt = 2197 := (by decide); omega)
      exact hq M _ (fun j hj => h j (by omega)) h1 h2
    · have hk : k < 2197 := (by rw [sc_le] at hc47; have z9 : (2197 : Int32).toInt = 2197 := (by decide); omega)
      refine pv_aloadn (pc := 50) (n := 0) 0 rfl rfl (fm_dec dtX11_laysBest 30 rfl) ?_
      refine pv_getR (k := 0) (j := 40) (ci := 11) (pc := 51) 11 rfl (by decide) pfl_X11_80 (by decide) rfl (by decide) (fm_dec dtX11_laysBest 31 rfl) ?_
      refine pv_iloadn (pc := 54) (n := 3) 3 rfl rfl (fm_dec dtX11_laysBest 32 rfl) ?_
      refine pv_ldc2 (pc := 55) pkc_X11_372 (fm_dec dtX11_laysBest 33 rfl) ?_
      refine pv_last (k := 11) (n := 2197) (pc := 58) (by decide) rfl rfl (ix_in hk9 (by omega)) (fm_dec dtX11_laysBest 34 rfl) ?_
      refine pv_iincc (pc := 59) 3 1 (by decide) rfl (by decide) rfl (fm_dec dtX11_laysBest 35 rfl) ?_
      dsimp only [List.set_cons_zero, List.set_cons_succ]
      refine pv_goto (pc := 62) 43 (by decide) (fm_dec dtX11_laysBest 36 rfl) ?_
      rw [nI_succ1, i32_cl hk9]
      refine ih (2197 - (k + 1)) (by omega) (k + 1) _ (by omega) rfl (fun j hj => ?_) h1 (fun k' j a => by rw [fmJ_k2 a]; exact h2 k' j a)
      by_cases e : j = k
      · subst e
        exact fmJ_s2
      · rw [fmJ_j _ _ e]
        exact h j (by omega)
set_option maxRecDepth 20000 in
theorem mlb_d {Q : fmR → fmM → Prop} {M0 : fmM} {n l : Nat} (hq : ∀ (M : fmM) (k9 : Int32), (∀ j, j < 2197 → M.2 9 j = M0.2 11 j ∧ M.2 10 j = M0.2 12 j) → M.1 = M0.1 → (∀ k j, k ≠ 9 → k ≠ 10 → M.2 k j = M0.2 k j) → pvEv Tm 9 qX11_laysBest 135 [some (.ref 0), some (.int (nI n)), some (.int (nI l)), some (.int k9)] [] M Q) : ∀ (m : Nat) (k : Nat) (M : fmM), k ≤ 2197 → 2197 - k = m → (∀ j, j < k → M.2 9 j = M0.2 11 j ∧ M.2 10 j = M0.2 12 j) → M.1 = M0.1 → (∀ k j, k ≠ 9 → k ≠ 10 → M.2 k j = M0.2 k j) → pvEv Tm 9 qX11_laysBest 98 [some (.ref 0), some (.int (nI n)), some (.int (nI l)), some (.int (nI k))] [] M Q := by
  intro m
  induction m using Nat.strongRecOn with
  | _ m ih =>
    intro k M hk9n hm h h1 h2
    have hk9 : (nI k).toInt = (k : Int) := nI_toInt (by omega)
    refine pv_iloadn (pc := 98) (n := 3) 3 rfl rfl (fm_dec dtX11_laysBest 58 rfl) ?_
    refine pv_sipush (pc := 99) (v := 2197) (by decide) (fm_dec dtX11_laysBest 59 rfl) ?_
    refine pv_icmp_ge (pc := 102) 135 (by decide) (fm_dec dtX11_laysBest 60 rfl) (fun hc102 => ?_) (fun hc102 => ?_)
    · have e9 : 2197 ≤ k := (by rw [sc_le] at hc102; have z9 : (2197 : Int32).toInt = 2197 := (by decide); omega)
      exact hq M _ (fun j hj => h j (by omega)) h1 h2
    · have hk : k < 2197 := (by rw [sc_le] at hc102; have z9 : (2197 : Int32).toInt = 2197 := (by decide); omega)
      refine pv_aloadn (pc := 105) (n := 0) 0 rfl rfl (fm_dec dtX11_laysBest 61 rfl) ?_
      refine pv_getR (k := 0) (j := 38) (ci := 11) (pc := 106) 9 rfl (by decide) pfl_X11_73 (by decide) rfl (by decide) (fm_dec dtX11_laysBest 62 rfl) ?_
      refine pv_iloadn (pc := 109) (n := 3) 3 rfl rfl (fm_dec dtX11_laysBest 63 rfl) ?_
      refine pv_aloadn (pc := 110) (n := 0) 0 rfl rfl (fm_dec dtX11_laysBest 64 rfl) ?_
      refine pv_getR (k := 0) (j := 40) (ci := 11) (pc := 111) 11 rfl (by decide) pfl_X11_80 (by decide) rfl (by decide) (fm_dec dtX11_laysBest 65 rfl) ?_
      refine pv_iloadn (pc := 114) (n := 3) 3 rfl rfl (fm_dec dtX11_laysBest 66 rfl) ?_
      refine pv_lald (k := 11) (n := 2197) (pc := 115) (by decide) rfl rfl (ix_in hk9 (by omega)) (fm_dec dtX11_laysBest 67 rfl) ?_
      rw [i32_cl hk9]
      refine pv_last (k := 9) (n := 2197) (pc := 116) (by decide) rfl rfl (ix_in hk9 (by omega)) (fm_dec dtX11_laysBest 68 rfl) ?_
      refine pv_aloadn (pc := 117) (n := 0) 0 rfl rfl (fm_dec dtX11_laysBest 69 rfl) ?_
      refine pv_getR (k := 0) (j := 39) (ci := 11) (pc := 118) 10 rfl (by decide) pfl_X11_77 (by decide) rfl (by decide) (fm_dec dtX11_laysBest 70 rfl) ?_
      refine pv_iloadn (pc := 121) (n := 3) 3 rfl rfl (fm_dec dtX11_laysBest 71 rfl) ?_
      refine pv_aloadn (pc := 122) (n := 0) 0 rfl rfl (fm_dec dtX11_laysBest 72 rfl) ?_
      refine pv_getR (k := 0) (j := 41) (ci := 11) (pc := 123) 12 rfl (by decide) pfl_X11_83 (by decide) rfl (by decide) (fm_dec dtX11_laysBest 73 rfl) ?_
      refine pv_iloadn (pc := 126) (n := 3) 3 rfl rfl (fm_dec dtX11_laysBest 74 rfl) ?_
      refine pv_lald (k := 12) (n := 2197) (pc := 127) (by decide) rfl rfl (ix_in hk9 (by omega)) (fm_dec dtX11_laysBest 75 rfl) ?_
      rw [i32_cl hk9]
      refine pv_last (k := 10) (n := 2197) (pc := 128) (by decide) rfl rfl (ix_in hk9 (by omega)) (fm_dec dtX11_laysBest 76 rfl) ?_
      refine pv_iincc (pc := 129) 3 1 (by decide) rfl (by decide) rfl (fm_dec dtX11_laysBest 77 rfl) ?_
      dsimp only [List.set_cons_zero, List.set_cons_succ]
      refine pv_goto (pc := 132) 98 (by decide) (fm_dec dtX11_laysBest 78 rfl) ?_
      rw [nI_succ1, i32_cl hk9]
      refine ih (2197 - (k + 1)) (by omega) (k + 1) _ (by omega) rfl (fun j hj => ?_) h1 (fun k' j a b => by rw [fmJ_k2 b, fmJ_k2 a]; exact h2 k' j a b)
      have q11 : M.2 11 k = M0.2 11 k := h2 11 k (by decide) (by decide)
      have q12 : M.2 12 k = M0.2 12 k := h2 12 k (by decide) (by decide)
      by_cases e : j = k
      · subst e
        exact ⟨by rw [fmJ_k2 (show (9 : Nat) ≠ 10 by decide), fmJ_s2]; exact q11, by rw [fmJ_s2]; exact q12⟩
      · have h9 := h j (by omega)
        exact ⟨by rw [fmJ_k2 (show (9 : Nat) ≠ 10 by decide), fmJ_j _ _ e]; exact h9.1, by rw [fmJ_j _ _ e, fmJ_k2 (show (10 : Nat) ≠ 9 by decide)]; exact h9.2⟩
set_option maxRecDepth 20000 in
theorem mlb_c {Q : fmR → fmM → Prop} {M0 : fmM} {D : dD} {cs : tC} {S : aS} {n l : Nat} (hl : l < D.1) (h1n : 1 ≤ n) (h3n : n ≤ 3) (hq : ∀ (M : fmM) (k9 : Int32), mAq M D cs S → leP M (bfS D cs S n l) → nxP M (fun x y z => some (bfS D cs S n (l + 1) x y z)) → (∀ k j, k ≠ 5 → k ≠ 6 → k ≠ 13 → M.1 k j = M0.1 k j) →  pvEv Tm 9 qX11_laysBest 96 [some (.ref 0), some (.int (nI n)), some (.int (nI l)), some (.int k9)] [] M Q) : ∀ (m : Nat) (w : Nat) (M : fmM), mAq M D cs S → w ≤ 2 ^ n → 2 ^ n - w = m → leP M (bfS D cs S n l) → nxP M (gsO D cs S n l w) → (∀ k j, k ≠ 5 → k ≠ 6 → k ≠ 13 → M.1 k j = M0.1 k j) → pvEv Tm 9 qX11_laysBest 67 [some (.ref 0), some (.int (nI n)), some (.int (nI l)), some (.int (nI w))] [] M Q := by
  intro m
  induction m using Nat.strongRecOn with
  | _ m ih =>
    intro w M h hwn hm hf hC f1
    have d8 := h.1.1
    have p8 := p2_n h1n h3n
    have hw9 : (nI w).toInt = (w : Int) := nI_toInt (by omega)
    refine pv_iloadn (pc := 67) (n := 3) 3 rfl rfl (fm_dec dtX11_laysBest 39 rfl) ?_
    refine pv_iconst (pc := 68) (v := 1) (by decide) (fm_dec dtX11_laysBest 40 rfl) ?_
    refine pv_iloadn (pc := 69) (n := 1) 1 rfl rfl (fm_dec dtX11_laysBest 41 rfl) ?_
    refine pv_ishl (pc := 70) (fm_dec dtX11_laysBest 42 rfl) ?_
    rw [p2n n (by omega)]
    refine pv_icmp_ge (pc := 71) 96 (by decide) (fm_dec dtX11_laysBest 43 rfl) (fun hc71 => ?_) (fun hc71 => ?_)
    · have e9 : w = 2 ^ n := (by rw [sc_le] at hc71; have e9 : (nI (2 ^ n)).toInt = ((2 ^ n : Nat) : Int) := nI_toInt (by omega); omega)
      exact hq M _ h hf (hC.of rfl rfl (fun x y z p q r => by rw [e9]; exact gs_e.symm)) f1
    · have hw : w < 2 ^ n := (by rw [sc_le] at hc71; have e9 : (nI (2 ^ n)).toInt = ((2 ^ n : Nat) : Int) := nI_toInt (by omega); omega)
      refine pv_aloadn (pc := 74) (n := 0) 0 rfl rfl (fm_dec dtX11_laysBest 44 rfl) ?_
      refine pv_iloadn (pc := 75) (n := 2) 2 rfl rfl (fm_dec dtX11_laysBest 45 rfl) ?_
      refine pv_iloadn (pc := 76) (n := 1) 1 rfl rfl (fm_dec dtX11_laysBest 46 rfl) ?_
      refine pv_iloadn (pc := 77) (n := 3) 3 rfl rfl (fm_dec dtX11_laysBest 47 rfl) ?_
      refine pv_invV3 (k := 0) (d' := 8) (pc := 78) pcv_X11_374 (by decide) rfl (Nat.le_of_ble_eq_true rfl) (by decide) (fm_dec dtX11_laysBest 48 rfl) ?_
      refine c_misO (n := n) h hl h3n hw (by omega) (fun M81 d81 s81 b81 l81 f81 => ?_) (fun M81 n81 f81 => ?_)  
      · refine pv_then1 ?_
        refine pv_if_eq (pc := 81) 90 (by decide) (fm_dec dtX11_laysBest 49 rfl) (fun hc81 => by exfalso; revert hc81; decide) (fun _ => ?_)
        have h81 : leP M81 (bfS D cs S n l) := (fun x y z p q r => by rw [show M81.2 9 = M.2 9 from funext (fun j => f81.2 9 j (by omega)), show M81.2 10 = M.2 10 from funext (fun j => f81.2 10 j (by omega))]; exact hf x y z p q r)
        refine pv_aloadn (pc := 84) (n := 0) 0 rfl rfl (fm_dec dtX11_laysBest 50 rfl) ?_
        refine pv_iloadn (pc := 85) (n := 2) 2 rfl rfl (fm_dec dtX11_laysBest 51 rfl) ?_
        refine pv_iloadn (pc := 86) (n := 3) 3 rfl rfl (fm_dec dtX11_laysBest 52 rfl) ?_
        refine pv_invV2 (k := 0) (d' := 3) (pc := 87) pcv_X11_377 (by decide) rfl (Nat.le_of_ble_eq_true rfl) (by decide) (fm_dec dtX11_laysBest 53 rfl) ?_
        refine c_mlo (f := bfS D cs S n l) (s := fun k => ndS D S l w k) (g := gsO D cs S n l w) (hl := if S.1.2.2.1.testBit l = true then 0 else hnN D cs S l w n) (by omega) (by omega) (fun k hk => ⟨s81 k hk, b81 k hk⟩) l81 (by have h9 := hn_3 (cs := cs) (S := S) (wk := w) h.1 hl h3n; split <;> omega) (fun x y z p q r => by rw [show M81.2 9 = M.2 9 from funext (fun j => f81.2 9 j (by omega)), show M81.2 10 = M.2 10 from funext (fun j => f81.2 10 j (by omega))]; exact hf x y z p q r) (fun x y z => by have h9 := bf_k (D := D) (cs := cs) (S := S) h1n h3n l (by omega) x y z; have h8 := ky_b l (by omega) w (by omega); have h7 : 2 ^ l ≤ 128 := p2i l (by omega); omega) (fun x y z => by have h9 := bf_b (cs := cs) (S := S) h.1 h3n l (by omega) x y z; omega) (fun x y z v hv => gs_b h.1 hl h3n hv) (hC.of (funext (fun j => f81.2 11 j (by omega))) (funext (fun j => f81.2 12 j (by omega))) (fun x y z p q r => rfl)) (fun M87 w87 c87 => ?_)
        refine pv_then0 ?_
        refine pv_iincc (pc := 90) 3 1 (by decide) rfl (by decide) rfl (fm_dec dtX11_laysBest 54 rfl) ?_
        dsimp only [List.set_cons_zero, List.set_cons_succ]
        refine pv_goto (pc := 93) 67 (by decide) (fm_dec dtX11_laysBest 55 rfl) ?_
        rw [nI_succ1]
        exact ih (2 ^ n - (w + 1)) (by omega) (w + 1) M87 ((h.pk (fun k j a b c d9 => f81.1 k j b c d9) (f81.1 0 17 (by decide) (by decide) (by decide))).pk (fun k j a b c d9 => by rw [w87.1]) (by rw [w87.1])) (by omega) rfl (fun x y z p q r => by rw [show M87.2 9 = M81.2 9 from funext (fun j => w87.2 9 j (by omega)), show M87.2 10 = M81.2 10 from funext (fun j => w87.2 10 j (by omega))]; exact h81 x y z p q r) (c87.of rfl rfl (fun x y z p q r => gs_y d81)) (fun k j a b c => by rw [w87.1]; exact (f81.1 k j a b c).trans (f1 k j a b c))
      · refine pv_then1 ?_
        refine pv_if_eq (pc := 81) 90 (by decide) (fm_dec dtX11_laysBest 49 rfl) (fun _ => ?_) (fun hc81 => by exfalso; revert hc81; decide)
        refine pv_iincc (pc := 90) 3 1 (by decide) rfl (by decide) rfl (fm_dec dtX11_laysBest 54 rfl) ?_
        dsimp only [List.set_cons_zero, List.set_cons_succ]
        refine pv_goto (pc := 93) 67 (by decide) (fm_dec dtX11_laysBest 55 rfl) ?_
        rw [nI_succ1]
        exact ih (2 ^ n - (w + 1)) (by omega) (w + 1) M81 (h.pk (fun k j a b c d9 => f81.1 k j b c d9) (f81.1 0 17 (by decide) (by decide) (by decide))) (by omega) rfl (fun x y z p q r => by rw [show M81.2 9 = M.2 9 from funext (fun j => f81.2 9 j (by omega)), show M81.2 10 = M.2 10 from funext (fun j => f81.2 10 j (by omega))]; exact hf x y z p q r) (hC.of (funext (fun j => f81.2 11 j (by omega))) (funext (fun j => f81.2 12 j (by omega))) (fun x y z p q r => gs_n p q r n81)) (fun k j a b c => (f81.1 k j a b c).trans (f1 k j a b c))
set_option maxRecDepth 20000 in
theorem mlb_e {Q : fmR → fmM → Prop} {M0 : fmM} {D : dD} {cs : tC} {S : aS} {n : Nat} (h1n : 1 ≤ n) (h3n : n ≤ 3) (hq : ∀ (M : fmM) (r : Int32) (x : Nat), r.toInt = ((x : Nat) : Int) → x < 2197 → (M.2 9 x).toInt = ((plV D cs S n / 16777216 : Nat) : Int) → (M.2 10 x).toInt = ((plV D cs S n % 16777216 : Nat) : Int) → M.1 0 0 = M0.1 0 0 → Q (.inl (some (.int r))) M) : ∀ (m : Nat) (l : Nat) (M : fmM) (v3 : Option Value), mAq M D cs S → l ≤ D.1 → D.1 - l = m → leP M (bfS D cs S n l) → (∀ k j, k ≠ 5 → k ≠ 6 → k ≠ 13 → M.1 k j = M0.1 k j) → pvEv Tm 9 qX11_laysBest 31 [some (.ref 0), some (.int (nI n)), some (.int (nI l)), v3] [] M Q := by
  intro m
  induction m using Nat.strongRecOn with
  | _ m ih =>
    intro l M v3 h hlD hm hf f1
    have d8 := h.1.1
    have hl9 : (nI l).toInt = (l : Int) := nI_toInt (by omega)
    have h39 : (M.1 4 (Int32.toNatClampNeg 0)).toInt = (D.1 : Int) := h.2.1.1
    refine pv_iloadn (pc := 31) (n := 2) 2 rfl rfl (fm_dec dtX11_laysBest 19 rfl) ?_
    refine pv_aloadn (pc := 32) (n := 0) 0 rfl rfl (fm_dec dtX11_laysBest 20 rfl) ?_
    refine pv_getR (k := 0) (j := 12) (ci := 11) (pc := 33) 4 rfl (by decide) pfl_X11_23 (by decide) rfl (by decide) (fm_dec dtX11_laysBest 21 rfl) ?_
    refine pv_iconst (pc := 36) (v := 0) (by decide) (fm_dec dtX11_laysBest 22 rfl) ?_
    refine pv_iald (k := 4) (n := 6) (pc := 37) (by decide) rfl rfl (fm_inl (by decide)) (fm_dec dtX11_laysBest 23 rfl) ?_
    refine pv_icmp_ge (pc := 38) 141 (by decide) (fm_dec dtX11_laysBest 24 rfl) (fun hc38 => ?_) (fun hc38 => ?_)
    · have e9 : l = D.1 := (by rw [sc_le] at hc38; omega)
      have hb2 := h.1.2.2.2.2.1
      have g9 : (M.1 7 (Int32.toNatClampNeg 9)).toInt = ((S.1.2.1 : Nat) : Int) := h.2.2.2.2.1.2.2.1
      have g2 : (M.1 4 (Int32.toNatClampNeg 2)).toInt = (((D.2.2.2.2 2).toNat : Nat) : Int) := (by have h9 : (M.1 4 2).toInt = D.2.2.2.2 2 := h.2.1.2.2.1 2 (by decide) (by decide); show (M.1 4 2).toInt = _; omega)
      have ho9 := h.2.2.2.2.2.2.1
      refine pv_aloadn (pc := 141) (n := 0) 0 rfl rfl (fm_dec dtX11_laysBest 81 rfl) ?_
      refine pv_getR (k := 0) (j := 27) (ci := 11) (pc := 142) 7 rfl (by decide) pfl_X11_61 (by decide) rfl (by decide) (fm_dec dtX11_laysBest 82 rfl) ?_
      refine pv_bipush (pc := 145) (v := 9) (by decide) (fm_dec dtX11_laysBest 83 rfl) ?_
      refine pv_iald (k := 7) (n := 14) (pc := 147) (by decide) rfl rfl (fm_inl (by decide)) (fm_dec dtX11_laysBest 84 rfl) ?_
      refine pv_aloadn (pc := 148) (n := 0) 0 rfl rfl (fm_dec dtX11_laysBest 85 rfl) ?_
      refine pv_getR (k := 0) (j := 12) (ci := 11) (pc := 149) 4 rfl (by decide) pfl_X11_23 (by decide) rfl (by decide) (fm_dec dtX11_laysBest 86 rfl) ?_
      refine pv_iconst (pc := 152) (v := 2) (by decide) (fm_dec dtX11_laysBest 87 rfl) ?_
      refine pv_iald (k := 4) (n := 6) (pc := 153) (by decide) rfl rfl (fm_inl (by decide)) (fm_dec dtX11_laysBest 88 rfl) ?_
      refine pv_aloadn (pc := 154) (n := 0) 0 rfl rfl (fm_dec dtX11_laysBest 89 rfl) ?_
      refine pv_getR (k := 0) (j := 12) (ci := 11) (pc := 155) 4 rfl (by decide) pfl_X11_23 (by decide) rfl (by decide) (fm_dec dtX11_laysBest 90 rfl) ?_
      refine pv_iconst (pc := 158) (v := 2) (by decide) (fm_dec dtX11_laysBest 91 rfl) ?_
      refine pv_iald (k := 4) (n := 6) (pc := 159) (by decide) rfl rfl (fm_inl (by decide)) (fm_dec dtX11_laysBest 92 rfl) ?_
      refine pv_iS3 (d' := 0) (pc := 160) pcs_X11_369 (Nat.le_of_ble_eq_true rfl) (by decide) (fm_dec dtX11_laysBest 93 rfl) ?_
      refine c_roomOf (x := S.1.2.1) (y := (D.2.2.2.2 2).toNat) (z := (D.2.2.2.2 2).toNat) g9 g2 g2 ho9 (by omega) (by omega) (fun r160 h160 => ?_)
      refine pv_then1 ?_
      exact pv_ireturn (pc := 163) rfl (fm_dec dtX11_laysBest 94 rfl) (by have h9 := hf _ _ _ ho9 (show (D.2.2.2.2 2).toNat ≤ 12 by omega) (show (D.2.2.2.2 2).toNat ≤ 12 by omega); rw [e9, pl_e h3n] at h9; exact hq M _ _ h160 (ci_b ho9 (by omega) (by omega)) h9.1 h9.2 (f1 0 0 (by decide) (by decide) (by decide)))
    · refine pv_iconst (pc := 41) (v := 0) (by decide) (fm_dec dtX11_laysBest 25 rfl) ?_
      refine pv_istoren (pc := 42) (n := 3) 3 rfl (by decide) rfl (fm_dec dtX11_laysBest 26 rfl) ?_
      dsimp only [List.set_cons_zero, List.set_cons_succ]
      have hl : l < D.1 := (by rw [sc_le] at hc38; omega)
      refine mlb_b (fun M65 k65 g65 l65 m65 => ?_) 2197 0 M (Nat.zero_le _) rfl (fun j hj => absurd hj (Nat.not_lt_zero _)) rfl (fun _ _ _ => rfl)
      refine pv_iconst (pc := 65) (v := 0) (by decide) (fm_dec dtX11_laysBest 37 rfl) ?_
      refine pv_istoren (pc := 66) (n := 3) 3 rfl (by decide) rfl (fm_dec dtX11_laysBest 38 rfl) ?_
      dsimp only [List.set_cons_zero, List.set_cons_succ]
      refine mlb_c (M0 := M) hl h1n h3n (fun M96 k96 q96 a96 b96 c96 => ?_) (2 ^ n) 0 M65 (h.pk (fun k j a b c d9 => by rw [l65]) (by rw [l65])) (Nat.zero_le _) rfl (fun x y z p q r => by rw [show M65.2 9 = M.2 9 from funext (fun j => m65 9 j (by decide)), show M65.2 10 = M.2 10 from funext (fun j => m65 10 j (by decide))]; exact hf x y z p q r) (fun x y z p q r => g65 _ (ci_b p q r)) (fun k j a b c => by rw [l65])
      refine pv_iconst (pc := 96) (v := 0) (by decide) (fm_dec dtX11_laysBest 56 rfl) ?_
      refine pv_istoren (pc := 97) (n := 3) 3 rfl (by decide) rfl (fm_dec dtX11_laysBest 57 rfl) ?_
      dsimp only [List.set_cons_zero, List.set_cons_succ]
      refine mlb_d (fun M135 k135 a135 l135 m135 => ?_) 2197 0 M96 (Nat.zero_le _) rfl (fun j hj => absurd hj (Nat.not_lt_zero _)) rfl (fun _ _ _ _ => rfl)
      refine pv_iincc (pc := 135) 2 1 (by decide) rfl (by decide) rfl (fm_dec dtX11_laysBest 79 rfl) ?_
      dsimp only [List.set_cons_zero, List.set_cons_succ]
      refine pv_goto (pc := 138) 31 (by decide) (fm_dec dtX11_laysBest 80 rfl) ?_
      rw [nI_succ1]
      exact ih (D.1 - (l + 1)) (by omega) (l + 1) M135 _ (q96.pk (fun k j a b c d9 => by rw [l135]) (by rw [l135])) (by omega) rfl (fun x y z p q r => by have h9 := a135 _ (ci_b p q r); have h8 := b96 x y z p q r; rw [h9.1, h9.2]; exact h8) (fun k j a b c => by rw [l135]; exact (c96 k j a b c).trans (f1 k j a b c))
set_option maxRecDepth 20000 in
theorem c_mlb {M : fmM} {Q : fmR → fmM → Prop} {D : dD} {cs : tC} {S : aS} {n : Nat} (h : mAq M D cs S) (h1n : 1 ≤ n) (h3n : n ≤ 3) (hq : ∀ (M' : fmM) (r : Int32) (x : Nat), r.toInt = ((x : Nat) : Int) → x < 2197 → (M'.2 9 x).toInt = ((plV D cs S n / 16777216 : Nat) : Int) → (M'.2 10 x).toInt = ((plV D cs S n % 16777216 : Nat) : Int) → M'.1 0 0 = M.1 0 0 → Q (.inl (some (.int r))) M') : pvGood Tm 9 qX11_laysBest [.ref 0, .int (nI n)] M Q := by
  refine pvGood_of (Nat.le_of_ble_eq_true rfl) ?_
  show pvEv Tm 9 qX11_laysBest 0 [some (.ref 0), some (.int (nI n)), none, none] [] M Q
  refine pv_iconst (pc := 0) (v := 0) (by decide) (fm_dec dtX11_laysBest 0 rfl) ?_
  refine pv_istoren (pc := 1) (n := 2) 2 rfl (by decide) rfl (fm_dec dtX11_laysBest 1 rfl) ?_
  dsimp only [List.set_cons_zero, List.set_cons_succ]
  refine mlb_a (fun M29 k29 v29 g29 l29 m29 => ?_) 2197 0 M _ (Nat.zero_le _) rfl (fun j hj => absurd hj (Nat.not_lt_zero _)) rfl (fun _ _ _ _ => rfl)
  refine pv_iconst (pc := 29) (v := 0) (by decide) (fm_dec dtX11_laysBest 17 rfl) ?_
  refine pv_istoren (pc := 30) (n := 2) 2 rfl (by decide) rfl (fm_dec dtX11_laysBest 18 rfl) ?_
  dsimp only [List.set_cons_zero, List.set_cons_succ]
  exact mlb_e h1n h3n hq D.1 0 M29 _ (h.pk (fun k j a b c d9 => by rw [l29]) (by rw [l29])) (Nat.zero_le _) rfl (fun x y z p q r => by have h9 := g29 _ (ci_b p q r); rw [h9.1, h9.2]; exact ⟨(show (0 : Int64).toInt = ((0 / 16777216 : Nat) : Int) by decide), (show (0 : Int64).toInt = ((0 % 16777216 : Nat) : Int) by decide)⟩) (fun k j a b c => by rw [l29])
set_option maxRecDepth 20000 in
theorem c_xll {M : fmM} {Q : fmR → fmM → Prop}  (hq : Q (.inl (some (.long (M.2 34 6 >>> ((24 : Int32).toInt64 &&& 63))))) M) : pvGood Tx 0 qX3_leastLoss [.ref 34] M Q := by
  refine pvGood_of (Nat.le_of_ble_eq_true rfl) ?_
  show pvEv Tx 0 qX3_leastLoss 0 [some (.ref 34)] [] M Q
  refine pv_aloadn (pc := 0) (n := 0) 0 rfl rfl (fm_dec dtX3_leastLoss 0 rfl) ?_
  refine pv_getJ (k := 34) (j := 6) (ci := 3) (pc := 1) pfl_X3_33 (by decide) rfl (by decide) (fm_dec dtX3_leastLoss 1 rfl) ?_
  refine pv_bipush (pc := 4) (v := 24) (by decide) (fm_dec dtX3_leastLoss 2 rfl) ?_
  refine pv_lshr (pc := 6) (fm_dec dtX3_leastLoss 3 rfl) ?_
  exact pv_lreturn (pc := 7) rfl (fm_dec dtX3_leastLoss 4 rfl) hq
set_option maxRecDepth 20000 in
theorem c_xwi {M : fmM} {Q : fmR → fmM → Prop} {k : Int32} (hq : Q (.inl (some (.int ((M.2 34 6 >>> ((8 * (2 - k)).toInt64 &&& 63)).toInt32 &&& 255)))) M) : pvGood Tx 1 qX3_writtenIn [.ref 34, .int k] M Q := by
  refine pvGood_of (Nat.le_of_ble_eq_true rfl) ?_
  show pvEv Tx 1 qX3_writtenIn 0 [some (.ref 34), some (.int k)] [] M Q
  refine pv_aloadn (pc := 0) (n := 0) 0 rfl rfl (fm_dec dtX3_writtenIn 0 rfl) ?_
  refine pv_getJ (k := 34) (j := 6) (ci := 3) (pc := 1) pfl_X3_33 (by decide) rfl (by decide) (fm_dec dtX3_writtenIn 1 rfl) ?_
  refine pv_iloadn (pc := 4) (n := 1) 1 rfl rfl (fm_dec dtX3_writtenIn 2 rfl) ?_
  refine pv_iS1 (d' := 0) (pc := 5) pcs_X3_37 (Nat.le_of_ble_eq_true rfl) (by decide) (fm_dec dtX3_writtenIn 3 rfl) ?_
  refine c_xks ?_
  refine pv_then1 ?_
  refine pv_lshr (pc := 8) (fm_dec dtX3_writtenIn 4 rfl) ?_
  refine pv_l2i (pc := 9) (fm_dec dtX3_writtenIn 5 rfl) ?_
  refine pv_sipush (pc := 10) (v := 255) (by decide) (fm_dec dtX3_writtenIn 6 rfl) ?_
  refine pv_iand (pc := 13) (fm_dec dtX3_writtenIn 7 rfl) ?_
  exact pv_ireturn (pc := 14) rfl (fm_dec dtX3_writtenIn 8 rfl) hq
set_option maxRecDepth 20000 in
theorem c_xqbest {M : fmM} {Q : fmR → fmM → Prop} {D : dD} {cs : tC} {S : aS} {x y : Int32} (h : xAq M D cs S) (hc : ∀ n : Nat, 1 ≤ n → n ≤ 3 → (M.1 34 5).toInt = (n : Int) → (M.2 34 6).toInt = ((plV D cs S n : Nat) : Int)) (hn2 : ¬ (inW x 1 3 ∧ inW y 0 1) → Q (.inr fmIAE) (fmI M 0 16 (M.1 0 16 + 1))) (hq : (inW x 1 3 ∧ inW y 0 1) → ∀ M' : fmM, (M'.1 34 5).toInt = x.toInt → (M'.2 34 6).toInt = ((plV D cs S x.toInt.toNat : Nat) : Int) → Q (.inl (some (.long (frV (jZ ((plV D cs S x.toInt.toNat / 16777216 : Nat) : Int)) (pwS 64 (x.toInt.toNat + 1)) y)))) M') : pvGood Tx 41 qX10_best [.ref 0, .int x, .int y] M Q := by
  refine pvGood_of (Nat.le_of_ble_eq_true rfl) ?_
  show pvEv Tx 41 qX10_best 0 [some (.ref 0), some (.int x), some (.int y)] [] M Q
  have hxq := h
  obtain ⟨hD, hX, hL, hs, ho⟩ := h
  have d8 := hD.1
  have hl9 : (M.1 3 9).toInt = (D.1 : Int) := hX.1.1
  refine pv_aloadn (pc := 0) (n := 0) 0 rfl rfl (fm_dec dtX10_best 0 rfl) ?_
  refine pv_iloadn (pc := 1) (n := 1) 1 rfl rfl (fm_dec dtX10_best 1 rfl) ?_
  refine pv_iconst (pc := 2) (v := 1) (by decide) (fm_dec dtX10_best 2 rfl) ?_
  refine pv_iconst (pc := 3) (v := 3) (by decide) (fm_dec dtX10_best 3 rfl) ?_
  refine pv_invV3 (k := 0) (d' := 0) (pc := 4) pcv_X10_169 (by decide) rfl (Nat.le_of_ble_eq_true rfl) (by decide) (fm_dec dtX10_best 4 rfl) ?_
  refine c_needW (fun h4a h4b => ?_) (fun h4 => ?_)
  · refine pv_then0 ?_
    refine pv_aloadn (pc := 7) (n := 0) 0 rfl rfl (fm_dec dtX10_best 5 rfl) ?_
    refine pv_iloadn (pc := 8) (n := 2) 2 rfl rfl (fm_dec dtX10_best 6 rfl) ?_
    refine pv_invV1 (k := 0) (d' := 1) (pc := 9) pcv_X10_244 (by decide) rfl (Nat.le_of_ble_eq_true rfl) (by decide) (fm_dec dtX10_best 7 rfl) ?_
    refine c_needP (fun h9 => ?_) (fun h9 => ?_)
    · refine pv_then0 ?_
      have hP : inW x 1 3 ∧ inW y 0 1 := ⟨⟨h4a, h4b⟩, h9⟩
      obtain ⟨n, h1n, h3n, rfl, en⟩ : ∃ n : Nat, 1 ≤ n ∧ n ≤ 3 ∧ x = nI n ∧ x.toInt.toNat = n := (by have z1 : (1 : Int32).toInt = 1 := (by decide); have z3 : (3 : Int32).toInt = 3 := (by decide); have h9 := hP.1.1; have h8 := hP.1.2; exact ⟨x.toInt.toNat, by omega, by omega, nI_is (by omega) (by omega), rfl⟩)
      rw [en] at hq
      have hn9 : (nI n).toInt = (n : Int) := nI_toInt (by omega)
      refine pv_aloadn (pc := 12) (n := 0) 0 rfl rfl (fm_dec dtX10_best 8 rfl) ?_
      refine pv_getR (k := 0) (j := 7) (ci := 10) (pc := 13) 34 rfl (by decide) pfl_X10_61 (by decide) rfl (by decide) (fm_dec dtX10_best 9 rfl) ?_
      refine pv_aloadn (pc := 16) (n := 0) 0 rfl rfl (fm_dec dtX10_best 10 rfl) ?_
      refine pv_getR (k := 0) (j := 9) (ci := 10) (pc := 17) 46 rfl (by decide) pfl_X10_75 (by decide) rfl (by decide) (fm_dec dtX10_best 11 rfl) ?_
      refine pv_getR (k := 46) (j := 0) (ci := 5) (pc := 20) 47 rfl (by decide) pfl_X10_90 (by decide) rfl (by decide) (fm_dec dtX10_best 12 rfl) ?_
      refine pv_iloadn (pc := 23) (n := 1) 1 rfl rfl (fm_dec dtX10_best 13 rfl) ?_
      refine pv_invV2 (k := 34) (d' := 23) (pc := 24) pcv_X10_289 (by decide) rfl (Nat.le_of_ble_eq_true rfl) (by decide) (fm_dec dtX10_best 14 rfl) ?_
      refine c_xprep hxq h1n h3n (hc n h1n h3n) (fun M24 a24 b24 f24 g24 => ?_)
      refine pv_then0 ?_
      refine pv_aloadn (pc := 27) (n := 0) 0 rfl rfl (fm_dec dtX10_best 15 rfl) ?_
      refine pv_getR (k := 0) (j := 7) (ci := 10) (pc := 28) 34 rfl (by decide) pfl_X10_61 (by decide) rfl (by decide) (fm_dec dtX10_best 16 rfl) ?_
      refine pv_invV0 (k := 34) (d' := 0) (pc := 31) pcv_X10_293 (by decide) rfl (Nat.le_of_ble_eq_true rfl) (by decide) (fm_dec dtX10_best 17 rfl) ?_
      refine c_xll ?_
      refine pv_then1 ?_
      have e31 : (M24.2 34 6 >>> ((24 : Int32).toInt64 &&& 63)).toInt = ((plV D cs S n / 16777216 : Nat) : Int) := (by rw [sar24, a24]; omega)
      refine pv_lconst (pc := 34) (v := 1) (by decide) (fm_dec dtX10_best 18 rfl) ?_
      refine pv_bipush (pc := 35) (v := 6) (by decide) (fm_dec dtX10_best 19 rfl) ?_
      refine pv_iloadn (pc := 37) (n := 1) 1 rfl rfl (fm_dec dtX10_best 20 rfl) ?_
      refine pv_iconst (pc := 38) (v := 1) (by decide) (fm_dec dtX10_best 21 rfl) ?_
      refine pv_iadd (pc := 39) (fm_dec dtX10_best 22 rfl) ?_
      rw [nI_succ1]
      refine pv_imul (pc := 40) (fm_dec dtX10_best 23 rfl) ?_
      refine pv_lshl (pc := 41) (fm_dec dtX10_best 24 rfl) ?_
      rw [pw_64 (n + 1) (by omega), jZ_is e31]
      refine pv_iloadn (pc := 42) (n := 2) 2 rfl rfl (fm_dec dtX10_best 25 rfl) ?_
      refine pv_iS3 (d' := 0) (pc := 43) pcs_X10_253 (Nat.le_of_ble_eq_true rfl) (by decide) (fm_dec dtX10_best 26 rfl) ?_
      refine c_xterm (by rw [jl_j hD h3n]; exact Int.natCast_nonneg _) (pw_p (by omega)) ?_
      refine pv_then1 ?_
      exact pv_lreturn (pc := 46) rfl (fm_dec dtX10_best 27 rfl) (hq hP M24 (by rw [b24, hn9]) a24)
    · refine pv_thenX ?_
      first | exact hn2 (fun h8 => h9 h8.2) | exact hn2 (fun h8 => h4 ⟨h8.1.1, h8.1.2⟩)
  · refine pv_thenX ?_
    first | exact hn2 (fun h8 => h9 h8.2) | exact hn2 (fun h8 => h4 ⟨h8.1.1, h8.1.2⟩)
set_option maxRecDepth 20000 in
theorem c_xqbestIn {M : fmM} {Q : fmR → fmM → Prop} {D : dD} {cs : tC} {S : aS} {x y : Int32} (h : xAq M D cs S) (hc : ∀ n : Nat, 1 ≤ n → n ≤ 3 → (M.1 34 5).toInt = (n : Int) → (M.2 34 6).toInt = ((plV D cs S n : Nat) : Int)) (hn2 : ¬ (inW x 1 3 ∧ inW y 0 (x - 1)) → Q (.inr fmIAE) (fmI M 0 16 (M.1 0 16 + 1))) (hq : (inW x 1 3 ∧ inW y 0 (x - 1)) → ∀ (r : Int32) (M' : fmM), (M'.1 34 5).toInt = x.toInt → (M'.2 34 6).toInt = ((plV D cs S x.toInt.toNat : Nat) : Int) → r.toInt = ((plV D cs S x.toInt.toNat / kyP y.toInt.toNat % 256 : Nat) : Int) → Q (.inl (some (.int r))) M') : pvGood Tx 41 qX10_bestIn [.ref 0, .int x, .int y] M Q := by
  refine pvGood_of (Nat.le_of_ble_eq_true rfl) ?_
  show pvEv Tx 41 qX10_bestIn 0 [some (.ref 0), some (.int x), some (.int y)] [] M Q
  have hxq := h
  obtain ⟨hD, hX, hL, hs, ho⟩ := h
  have d8 := hD.1
  have hl9 : (M.1 3 9).toInt = (D.1 : Int) := hX.1.1
  refine pv_aloadn (pc := 0) (n := 0) 0 rfl rfl (fm_dec dtX10_bestIn 0 rfl) ?_
  refine pv_iloadn (pc := 1) (n := 1) 1 rfl rfl (fm_dec dtX10_bestIn 1 rfl) ?_
  refine pv_iconst (pc := 2) (v := 1) (by decide) (fm_dec dtX10_bestIn 2 rfl) ?_
  refine pv_iconst (pc := 3) (v := 3) (by decide) (fm_dec dtX10_bestIn 3 rfl) ?_
  refine pv_invV3 (k := 0) (d' := 0) (pc := 4) pcv_X10_169 (by decide) rfl (Nat.le_of_ble_eq_true rfl) (by decide) (fm_dec dtX10_bestIn 4 rfl) ?_
  refine c_needW (fun h4a h4b => ?_) (fun h4 => ?_)
  · refine pv_then0 ?_
    refine pv_aloadn (pc := 7) (n := 0) 0 rfl rfl (fm_dec dtX10_bestIn 5 rfl) ?_
    refine pv_iloadn (pc := 8) (n := 2) 2 rfl rfl (fm_dec dtX10_bestIn 6 rfl) ?_
    refine pv_iconst (pc := 9) (v := 0) (by decide) (fm_dec dtX10_bestIn 7 rfl) ?_
    refine pv_iloadn (pc := 10) (n := 1) 1 rfl rfl (fm_dec dtX10_bestIn 8 rfl) ?_
    refine pv_iconst (pc := 11) (v := 1) (by decide) (fm_dec dtX10_bestIn 9 rfl) ?_
    refine pv_isub (pc := 12) (fm_dec dtX10_bestIn 10 rfl) ?_
    refine pv_invV3 (k := 0) (d' := 0) (pc := 13) pcv_X10_169 (by decide) rfl (Nat.le_of_ble_eq_true rfl) (by decide) (fm_dec dtX10_bestIn 11 rfl) ?_
    refine c_needW (fun h13a h13b => ?_) (fun h13 => ?_)
    · refine pv_then0 ?_
      have hP : inW x 1 3 ∧ inW y 0 (x - 1) := ⟨⟨h4a, h4b⟩, ⟨h13a, h13b⟩⟩
      obtain ⟨n, h1n, h3n, rfl, en⟩ : ∃ n : Nat, 1 ≤ n ∧ n ≤ 3 ∧ x = nI n ∧ x.toInt.toNat = n := (by have z1 : (1 : Int32).toInt = 1 := (by decide); have z3 : (3 : Int32).toInt = 3 := (by decide); have h9 := hP.1.1; have h8 := hP.1.2; exact ⟨x.toInt.toNat, by omega, by omega, nI_is (by omega) (by omega), rfl⟩)
      rw [en] at hq
      have hn9 : (nI n).toInt = (n : Int) := nI_toInt (by omega)
      obtain ⟨k, hk3, rfl, ek⟩ : ∃ k : Nat, k < 3 ∧ y = nI k ∧ y.toInt.toNat = k := (by have z0 : (0 : Int32).toInt = 0 := (by decide); have z1 : (1 : Int32).toInt = 1 := (by decide); have h9 := hP.2.1; have h8 := hP.2.2; have h7 : (nI n - 1).toInt = (n : Int) - 1 := (by rw [sc_sub (by omega) (by omega)]; omega); exact ⟨y.toInt.toNat, by omega, nI_is (by omega) (by omega), rfl⟩)
      rw [ek] at hq
      refine pv_aloadn (pc := 16) (n := 0) 0 rfl rfl (fm_dec dtX10_bestIn 12 rfl) ?_
      refine pv_getR (k := 0) (j := 7) (ci := 10) (pc := 17) 34 rfl (by decide) pfl_X10_61 (by decide) rfl (by decide) (fm_dec dtX10_bestIn 13 rfl) ?_
      refine pv_aloadn (pc := 20) (n := 0) 0 rfl rfl (fm_dec dtX10_bestIn 14 rfl) ?_
      refine pv_getR (k := 0) (j := 9) (ci := 10) (pc := 21) 46 rfl (by decide) pfl_X10_75 (by decide) rfl (by decide) (fm_dec dtX10_bestIn 15 rfl) ?_
      refine pv_getR (k := 46) (j := 0) (ci := 5) (pc := 24) 47 rfl (by decide) pfl_X10_90 (by decide) rfl (by decide) (fm_dec dtX10_bestIn 16 rfl) ?_
      refine pv_iloadn (pc := 27) (n := 1) 1 rfl rfl (fm_dec dtX10_bestIn 17 rfl) ?_
      refine pv_invV2 (k := 34) (d' := 23) (pc := 28) pcv_X10_289 (by decide) rfl (Nat.le_of_ble_eq_true rfl) (by decide) (fm_dec dtX10_bestIn 18 rfl) ?_
      refine c_xprep hxq h1n h3n (hc n h1n h3n) (fun M28 a28 b28 f28 g28 => ?_)
      refine pv_then0 ?_
      refine pv_aloadn (pc := 31) (n := 0) 0 rfl rfl (fm_dec dtX10_bestIn 19 rfl) ?_
      refine pv_getR (k := 0) (j := 7) (ci := 10) (pc := 32) 34 rfl (by decide) pfl_X10_61 (by decide) rfl (by decide) (fm_dec dtX10_bestIn 20 rfl) ?_
      refine pv_iloadn (pc := 35) (n := 2) 2 rfl rfl (fm_dec dtX10_bestIn 21 rfl) ?_
      refine pv_invV1 (k := 34) (d' := 1) (pc := 36) pcv_X10_297 (by decide) rfl (Nat.le_of_ble_eq_true rfl) (by decide) (fm_dec dtX10_bestIn 22 rfl) ?_
      refine c_xwi ?_
      refine pv_then1 ?_
      exact pv_ireturn (pc := 39) rfl (fm_dec dtX10_bestIn 23 rfl) (hq hP _ M28 (by rw [b28, hn9]) a28 (by rw [l2i255, sarK _ k hk3, a28]; norm_cast))
    · refine pv_thenX ?_
      first | exact hn2 (fun h8 => h13 ⟨h8.2.1, h8.2.2⟩) | exact hn2 (fun h8 => h4 ⟨h8.1.1, h8.1.2⟩)
  · refine pv_thenX ?_
    first | exact hn2 (fun h8 => h13 ⟨h8.2.1, h8.2.2⟩) | exact hn2 (fun h8 => h4 ⟨h8.1.1, h8.1.2⟩)
set_option maxRecDepth 20000 in
theorem c_mqbest {M : fmM} {Q : fmR → fmM → Prop} {D : dD} {cs : tC} {S : aS} {x y : Int32} (h : mAq M D cs S) (hn2 : ¬ (inW x 1 3 ∧ inW y 0 1) → ∀ (z : Int64) (M' : fmM), M'.1 0 0 = 1 → Q (.inl (some (.long z))) M') (hq : (inW x 1 3 ∧ inW y 0 1) → ∀ M' : fmM, M'.1 0 0 = 0 → Q (.inl (some (.long (frV (jZ ((plV D cs S x.toInt.toNat / 16777216 : Nat) : Int)) (pwS 64 (x.toInt.toNat + 1)) y)))) M') : pvGood Tm 41 qX11_best [.ref 0, .int x, .int y] M Q := by
  refine pvGood_of (Nat.le_of_ble_eq_true rfl) ?_
  show pvEv Tm 41 qX11_best 0 [some (.ref 0), some (.int x), some (.int y)] [] M Q
  have hmq := h.z (x := 0)
  obtain ⟨hD, hY, hM, hd, ht, ho⟩ := hmq
  have d8 := hD.1
  have h4 : (M.1 4 0).toInt = (D.1 : Int) := hY.1
  have hl := hD.1
  refine pv_aloadn (pc := 0) (n := 0) 0 rfl rfl (fm_dec dtX11_best 0 rfl) ?_
  refine pv_iconst (pc := 1) (v := 0) (by decide) (fm_dec dtX11_best 1 rfl) ?_
  refine pv_putI (k := 0) (j := 0) (ci := 11) (pc := 2) pfl_X11_101 (by decide) rfl (by decide) (fm_dec dtX11_best 2 rfl) ?_
  refine pv_aloadn (pc := 5) (n := 0) 0 rfl rfl (fm_dec dtX11_best 3 rfl) ?_
  refine pv_iloadn (pc := 6) (n := 1) 1 rfl rfl (fm_dec dtX11_best 4 rfl) ?_
  refine pv_iconst (pc := 7) (v := 1) (by decide) (fm_dec dtX11_best 5 rfl) ?_
  refine pv_iconst (pc := 8) (v := 3) (by decide) (fm_dec dtX11_best 6 rfl) ?_
  refine pv_iS3 (d' := 0) (pc := 9) pcs_X11_135 (Nat.le_of_ble_eq_true rfl) (by decide) (fm_dec dtX11_best 7 rfl) ?_
  refine c_in (fun h9a h9b => ?_) (fun h9 => ?_)
  · refine pv_then1 ?_
    refine pv_if_ne (pc := 12) 19 (by decide) (fm_dec dtX11_best 8 rfl) (fun _ => ?_) (fun hc12 => by exfalso; revert hc12; decide)
    refine pv_iconst (pc := 19) (v := 0) (by decide) (fm_dec dtX11_best 11 rfl) ?_
    refine pv_iconst (pc := 20) (v := 1) (by decide) (fm_dec dtX11_best 12 rfl) ?_
    refine pv_iconst (pc := 21) (v := 1) (by decide) (fm_dec dtX11_best 13 rfl) ?_
    refine pv_invV3 (k := 0) (d' := 0) (pc := 22) pcv_X11_177 (by decide) rfl (Nat.le_of_ble_eq_true rfl) (by decide) (fm_dec dtX11_best 14 rfl) ?_
    refine c_badF1 rfl ?_
    refine pv_then1 ?_
    refine pv_if_ne (pc := 25) 37 (by decide) (fm_dec dtX11_best 15 rfl) (fun hc25 => by exfalso; revert hc25; decide) (fun _ => ?_)
    refine pv_aloadn (pc := 28) (n := 0) 0 rfl rfl (fm_dec dtX11_best 16 rfl) ?_
    refine pv_iloadn (pc := 29) (n := 2) 2 rfl rfl (fm_dec dtX11_best 17 rfl) ?_
    refine pv_iconst (pc := 30) (v := 1) (by decide) (fm_dec dtX11_best 18 rfl) ?_
    refine pv_invV2 (k := 0) (d' := 1) (pc := 31) pcv_X11_340 (by decide) rfl (Nat.le_of_ble_eq_true rfl) (by decide) (fm_dec dtX11_best 19 rfl) ?_
    refine c_noP rfl (by decide) (fun h31 => ?_) (fun h31 => ?_)
    · refine pv_then1 ?_
      refine pv_if_eq (pc := 34) 39 (by decide) (fm_dec dtX11_best 20 rfl) (fun _ => ?_) (fun hc34 => by exfalso; revert hc34; decide)
      have hP : inW x 1 3 ∧ inW y 0 1 := ⟨⟨h9a, h9b⟩, h31⟩
      obtain ⟨n, h1n, h3n, rfl, en⟩ : ∃ n : Nat, 1 ≤ n ∧ n ≤ 3 ∧ x = nI n ∧ x.toInt.toNat = n := (by have z1 : (1 : Int32).toInt = 1 := (by decide); have z3 : (3 : Int32).toInt = 3 := (by decide); have h9 := hP.1.1; have h8 := hP.1.2; exact ⟨x.toInt.toNat, by omega, by omega, nI_is (by omega) (by omega), rfl⟩)
      rw [en] at hq
      have hn9 : (nI n).toInt = (n : Int) := nI_toInt (by omega)
      refine pv_aloadn (pc := 39) (n := 0) 0 rfl rfl (fm_dec dtX11_best 23 rfl) ?_
      refine pv_getR (k := 0) (j := 38) (ci := 11) (pc := 40) 9 rfl (by decide) pfl_X11_73 (by decide) rfl (by decide) (fm_dec dtX11_best 24 rfl) ?_
      refine pv_aloadn (pc := 43) (n := 0) 0 rfl rfl (fm_dec dtX11_best 25 rfl) ?_
      refine pv_iloadn (pc := 44) (n := 1) 1 rfl rfl (fm_dec dtX11_best 26 rfl) ?_
      refine pv_invV1 (k := 0) (d' := 9) (pc := 45) pcv_X11_380 (by decide) rfl (Nat.le_of_ble_eq_true rfl) (by decide) (fm_dec dtX11_best 27 rfl) ?_
      refine c_mlb ⟨hD, hY, hM, hd, ht, ho⟩ h1n h3n (fun M45 r45 x45 e45 b45 g45 w45 z45 => ?_)
      refine pv_then1 ?_
      refine pv_lald (k := 9) (n := 2197) (pc := 48) (by decide) rfl rfl (ix_in e45 b45) (fm_dec dtX11_best 28 rfl) ?_
      rw [i32_cl e45, jZ_is g45]
      refine pv_ldc2 (pc := 49) pkc_X11_343 (fm_dec dtX11_best 29 rfl) ?_
      refine pv_iloadn (pc := 52) (n := 1) 1 rfl rfl (fm_dec dtX11_best 30 rfl) ?_
      refine pv_iconst (pc := 53) (v := 1) (by decide) (fm_dec dtX11_best 31 rfl) ?_
      refine pv_iadd (pc := 54) (fm_dec dtX11_best 32 rfl) ?_
      rw [nI_succ1]
      refine pv_iS2 (d' := 1) (pc := 55) pcs_X11_365 (Nat.le_of_ble_eq_true rfl) (by decide) (fm_dec dtX11_best 33 rfl) ?_
      refine c_mpow (N := n + 1) (nI_toInt (by omega)) (by omega) ?_
      refine pv_then1 ?_
      refine pv_iloadn (pc := 58) (n := 2) 2 rfl rfl (fm_dec dtX11_best 34 rfl) ?_
      refine pv_iS3 (d' := 0) (pc := 59) pcs_X11_345 (Nat.le_of_ble_eq_true rfl) (by decide) (fm_dec dtX11_best 35 rfl) ?_
      refine c_mterm (by rw [jl_j hD h3n]; exact Int.natCast_nonneg _) (pw_p (by omega)) ?_
      refine pv_then1 ?_
      exact pv_lreturn (pc := 62) rfl (fm_dec dtX11_best 36 rfl) (hq hP M45 (z45.trans rfl))
    · refine pv_then1 ?_
      refine pv_if_eq (pc := 34) 39 (by decide) (fm_dec dtX11_best 20 rfl) (fun hc34 => by exfalso; revert hc34; decide) (fun _ => ?_)
      refine pv_lconst (pc := 37) (v := 0) (by decide) (fm_dec dtX11_best 21 rfl) ?_
      exact pv_lreturn (pc := 38) rfl (fm_dec dtX11_best 22 rfl) (hn2 (fun h8 => h31 h8.2) _ _ rfl)
  · refine pv_then1 ?_
    refine pv_if_ne (pc := 12) 19 (by decide) (fm_dec dtX11_best 8 rfl) (fun hc12 => by exfalso; revert hc12; decide) (fun _ => ?_)
    refine pv_iconst (pc := 15) (v := 1) (by decide) (fm_dec dtX11_best 9 rfl) ?_
    refine pv_goto (pc := 16) 20 (by decide) (fm_dec dtX11_best 10 rfl) ?_
    refine pv_iconst (pc := 20) (v := 1) (by decide) (fm_dec dtX11_best 12 rfl) ?_
    refine pv_iconst (pc := 21) (v := 1) (by decide) (fm_dec dtX11_best 13 rfl) ?_
    refine pv_invV3 (k := 0) (d' := 0) (pc := 22) pcv_X11_177 (by decide) rfl (Nat.le_of_ble_eq_true rfl) (by decide) (fm_dec dtX11_best 14 rfl) ?_
    refine c_badT1 rfl (by decide) ?_
    refine pv_then1 ?_
    refine pv_if_ne (pc := 25) 37 (by decide) (fm_dec dtX11_best 15 rfl) (fun _ => ?_) (fun hc25 => by exfalso; revert hc25; decide)
    refine pv_lconst (pc := 37) (v := 0) (by decide) (fm_dec dtX11_best 21 rfl) ?_
    exact pv_lreturn (pc := 38) rfl (fm_dec dtX11_best 22 rfl) (hn2 (fun h8 => h9 ⟨h8.1.1, h8.1.2⟩) _ _ rfl)
set_option maxRecDepth 20000 in
theorem c_mqbestIn {M : fmM} {Q : fmR → fmM → Prop} {D : dD} {cs : tC} {S : aS} {x y : Int32} (h : mAq M D cs S) (hn2 : ¬ (inW x 1 3 ∧ inW y 0 (x - 1)) → ∀ (z : Int32) (M' : fmM), M'.1 0 0 = 1 → Q (.inl (some (.int z))) M') (hq : (inW x 1 3 ∧ inW y 0 (x - 1)) → ∀ (r : Int32) (M' : fmM), M'.1 0 0 = 0 → r.toInt = ((plV D cs S x.toInt.toNat / kyP y.toInt.toNat % 256 : Nat) : Int) → Q (.inl (some (.int r))) M') : pvGood Tm 41 qX11_bestIn [.ref 0, .int x, .int y] M Q := by
  refine pvGood_of (Nat.le_of_ble_eq_true rfl) ?_
  show pvEv Tm 41 qX11_bestIn 0 [some (.ref 0), some (.int x), some (.int y)] [] M Q
  have hmq := h.z (x := 0)
  obtain ⟨hD, hY, hM, hd, ht, ho⟩ := hmq
  have d8 := hD.1
  have h4 : (M.1 4 0).toInt = (D.1 : Int) := hY.1
  have hl := hD.1
  refine pv_aloadn (pc := 0) (n := 0) 0 rfl rfl (fm_dec dtX11_bestIn 0 rfl) ?_
  refine pv_iconst (pc := 1) (v := 0) (by decide) (fm_dec dtX11_bestIn 1 rfl) ?_
  refine pv_putI (k := 0) (j := 0) (ci := 11) (pc := 2) pfl_X11_101 (by decide) rfl (by decide) (fm_dec dtX11_bestIn 2 rfl) ?_
  refine pv_aloadn (pc := 5) (n := 0) 0 rfl rfl (fm_dec dtX11_bestIn 3 rfl) ?_
  refine pv_iloadn (pc := 6) (n := 1) 1 rfl rfl (fm_dec dtX11_bestIn 4 rfl) ?_
  refine pv_iconst (pc := 7) (v := 1) (by decide) (fm_dec dtX11_bestIn 5 rfl) ?_
  refine pv_iconst (pc := 8) (v := 3) (by decide) (fm_dec dtX11_bestIn 6 rfl) ?_
  refine pv_iS3 (d' := 0) (pc := 9) pcs_X11_135 (Nat.le_of_ble_eq_true rfl) (by decide) (fm_dec dtX11_bestIn 7 rfl) ?_
  refine c_in (fun h9a h9b => ?_) (fun h9 => ?_)
  · refine pv_then1 ?_
    refine pv_if_eq (pc := 12) 26 (by decide) (fm_dec dtX11_bestIn 8 rfl) (fun hc12 => by exfalso; revert hc12; decide) (fun _ => ?_)
    refine pv_iloadn (pc := 15) (n := 2) 2 rfl rfl (fm_dec dtX11_bestIn 9 rfl) ?_
    refine pv_iconst (pc := 16) (v := 0) (by decide) (fm_dec dtX11_bestIn 10 rfl) ?_
    refine pv_iloadn (pc := 17) (n := 1) 1 rfl rfl (fm_dec dtX11_bestIn 11 rfl) ?_
    refine pv_iconst (pc := 18) (v := 1) (by decide) (fm_dec dtX11_bestIn 12 rfl) ?_
    refine pv_isub (pc := 19) (fm_dec dtX11_bestIn 13 rfl) ?_
    refine pv_iS3 (d' := 0) (pc := 20) pcs_X11_135 (Nat.le_of_ble_eq_true rfl) (by decide) (fm_dec dtX11_bestIn 14 rfl) ?_
    refine c_in (fun h20a h20b => ?_) (fun h20 => ?_)
    · refine pv_then1 ?_
      refine pv_if_ne (pc := 23) 30 (by decide) (fm_dec dtX11_bestIn 15 rfl) (fun _ => ?_) (fun hc23 => by exfalso; revert hc23; decide)
      refine pv_iconst (pc := 30) (v := 0) (by decide) (fm_dec dtX11_bestIn 18 rfl) ?_
      refine pv_iconst (pc := 31) (v := 1) (by decide) (fm_dec dtX11_bestIn 19 rfl) ?_
      refine pv_iconst (pc := 32) (v := 1) (by decide) (fm_dec dtX11_bestIn 20 rfl) ?_
      refine pv_invV3 (k := 0) (d' := 0) (pc := 33) pcv_X11_177 (by decide) rfl (Nat.le_of_ble_eq_true rfl) (by decide) (fm_dec dtX11_bestIn 21 rfl) ?_
      refine c_badF1 rfl ?_
      refine pv_then1 ?_
      refine pv_if_eq (pc := 36) 41 (by decide) (fm_dec dtX11_bestIn 22 rfl) (fun _ => ?_) (fun hc36 => by exfalso; revert hc36; decide)
      have hP : inW x 1 3 ∧ inW y 0 (x - 1) := ⟨⟨h9a, h9b⟩, ⟨h20a, h20b⟩⟩
      obtain ⟨n, h1n, h3n, rfl, en⟩ : ∃ n : Nat, 1 ≤ n ∧ n ≤ 3 ∧ x = nI n ∧ x.toInt.toNat = n := (by have z1 : (1 : Int32).toInt = 1 := (by decide); have z3 : (3 : Int32).toInt = 3 := (by decide); have h9 := hP.1.1; have h8 := hP.1.2; exact ⟨x.toInt.toNat, by omega, by omega, nI_is (by omega) (by omega), rfl⟩)
      rw [en] at hq
      have hn9 : (nI n).toInt = (n : Int) := nI_toInt (by omega)
      obtain ⟨k, hk3, rfl, ek⟩ : ∃ k : Nat, k < 3 ∧ y = nI k ∧ y.toInt.toNat = k := (by have z0 : (0 : Int32).toInt = 0 := (by decide); have z1 : (1 : Int32).toInt = 1 := (by decide); have h9 := hP.2.1; have h8 := hP.2.2; have h7 : (nI n - 1).toInt = (n : Int) - 1 := (by rw [sc_sub (by omega) (by omega)]; omega); exact ⟨y.toInt.toNat, by omega, nI_is (by omega) (by omega), rfl⟩)
      rw [ek] at hq
      refine pv_aloadn (pc := 41) (n := 0) 0 rfl rfl (fm_dec dtX11_bestIn 25 rfl) ?_
      refine pv_getR (k := 0) (j := 39) (ci := 11) (pc := 42) 10 rfl (by decide) pfl_X11_77 (by decide) rfl (by decide) (fm_dec dtX11_bestIn 26 rfl) ?_
      refine pv_aloadn (pc := 45) (n := 0) 0 rfl rfl (fm_dec dtX11_bestIn 27 rfl) ?_
      refine pv_iloadn (pc := 46) (n := 1) 1 rfl rfl (fm_dec dtX11_bestIn 28 rfl) ?_
      refine pv_invV1 (k := 0) (d' := 9) (pc := 47) pcv_X11_380 (by decide) rfl (Nat.le_of_ble_eq_true rfl) (by decide) (fm_dec dtX11_bestIn 29 rfl) ?_
      refine c_mlb ⟨hD, hY, hM, hd, ht, ho⟩ h1n h3n (fun M46 r46 x46 e46 b46 g46 w46 z46 => ?_)
      refine pv_then1 ?_
      refine pv_lald (k := 10) (n := 2197) (pc := 50) (by decide) rfl rfl (ix_in e46 b46) (fm_dec dtX11_bestIn 30 rfl) ?_
      rw [i32_cl e46]
      refine pv_bipush (pc := 51) (v := 8) (by decide) (fm_dec dtX11_bestIn 31 rfl) ?_
      refine pv_iconst (pc := 53) (v := 2) (by decide) (fm_dec dtX11_bestIn 32 rfl) ?_
      refine pv_iloadn (pc := 54) (n := 2) 2 rfl rfl (fm_dec dtX11_bestIn 33 rfl) ?_
      refine pv_isub (pc := 55) (fm_dec dtX11_bestIn 34 rfl) ?_
      refine pv_imul (pc := 56) (fm_dec dtX11_bestIn 35 rfl) ?_
      refine pv_lshr (pc := 57) (fm_dec dtX11_bestIn 36 rfl) ?_
      refine pv_ldc2 (pc := 58) pkc_X11_383 (fm_dec dtX11_bestIn 37 rfl) ?_
      refine pv_land (pc := 61) (fm_dec dtX11_bestIn 38 rfl) ?_
      refine pv_l2i (pc := 62) (fm_dec dtX11_bestIn 39 rfl) ?_
      exact pv_ireturn (pc := 63) rfl (fm_dec dtX11_bestIn 40 rfl) (hq hP _ M46 (z46.trans rfl) (l2iS (by rw [and255J, sarK _ k hk3, w46, bi_g hk3]; norm_cast) (by omega) (by omega)))
    · refine pv_then1 ?_
      refine pv_if_ne (pc := 23) 30 (by decide) (fm_dec dtX11_bestIn 15 rfl) (fun hc23 => by exfalso; revert hc23; decide) (fun _ => ?_)
      refine pv_iconst (pc := 26) (v := 1) (by decide) (fm_dec dtX11_bestIn 16 rfl) ?_
      refine pv_goto (pc := 27) 31 (by decide) (fm_dec dtX11_bestIn 17 rfl) ?_
      refine pv_iconst (pc := 31) (v := 1) (by decide) (fm_dec dtX11_bestIn 19 rfl) ?_
      refine pv_iconst (pc := 32) (v := 1) (by decide) (fm_dec dtX11_bestIn 20 rfl) ?_
      refine pv_invV3 (k := 0) (d' := 0) (pc := 33) pcv_X11_177 (by decide) rfl (Nat.le_of_ble_eq_true rfl) (by decide) (fm_dec dtX11_bestIn 21 rfl) ?_
      refine c_badT1 rfl (by decide) ?_
      refine pv_then1 ?_
      refine pv_if_eq (pc := 36) 41 (by decide) (fm_dec dtX11_bestIn 22 rfl) (fun hc36 => by exfalso; revert hc36; decide) (fun _ => ?_)
      refine pv_iconst (pc := 39) (v := 0) (by decide) (fm_dec dtX11_bestIn 23 rfl) ?_
      exact pv_ireturn (pc := 40) rfl (fm_dec dtX11_bestIn 24 rfl) (hn2 (fun h8 => h20 ⟨h8.2.1, h8.2.2⟩) _ _ rfl)
  · refine pv_then1 ?_
    refine pv_if_eq (pc := 12) 26 (by decide) (fm_dec dtX11_bestIn 8 rfl) (fun _ => ?_) (fun hc12 => by exfalso; revert hc12; decide)
    refine pv_iconst (pc := 26) (v := 1) (by decide) (fm_dec dtX11_bestIn 16 rfl) ?_
    refine pv_goto (pc := 27) 31 (by decide) (fm_dec dtX11_bestIn 17 rfl) ?_
    refine pv_iconst (pc := 31) (v := 1) (by decide) (fm_dec dtX11_bestIn 19 rfl) ?_
    refine pv_iconst (pc := 32) (v := 1) (by decide) (fm_dec dtX11_bestIn 20 rfl) ?_
    refine pv_invV3 (k := 0) (d' := 0) (pc := 33) pcv_X11_177 (by decide) rfl (Nat.le_of_ble_eq_true rfl) (by decide) (fm_dec dtX11_bestIn 21 rfl) ?_
    refine c_badT1 rfl (by decide) ?_
    refine pv_then1 ?_
    refine pv_if_eq (pc := 36) 41 (by decide) (fm_dec dtX11_bestIn 22 rfl) (fun hc36 => by exfalso; revert hc36; decide) (fun _ => ?_)
    refine pv_iconst (pc := 39) (v := 0) (by decide) (fm_dec dtX11_bestIn 23 rfl) ?_
    exact pv_ireturn (pc := 40) rfl (fm_dec dtX11_bestIn 24 rfl) (hn2 (fun h8 => h9 ⟨h8.1.1, h8.1.2⟩) _ _ rfl)
set_option maxRecDepth 20000 in
theorem c_xwoP {M : fmM} {Q : fmR → fmM → Prop} {T : Nat → tX} {nn : Int32} {D : dD} {cs : tC} {S : aS} {w : Nat} (hI : scInv Tx invX M) (hT : txF M T) (hD : dOk D) (hX : xdw 3 M D) (hL : lwX M cs) (hs : xst M D S) (ho : stO D S) (hw : (M.1 46 2).toInt = (w : Int)) (h16 : w ≤ 16) (hrf : ¬ txP nn 150 (M.1 1 1).toInt → Q (.inr fmIAE) (fmI M 0 16 (M.1 0 16 + 1))) (hful : txP nn 150 (M.1 1 1).toInt → w = 16 → Q (.inl (some (.int (-20)))) (opM M nn)) (hbad : ∀ (n k a : Nat) (r : Int32) (M' : fmM), nn.toInt = (n : Int) → txP nn 150 (M.1 1 1).toInt → w < 16 → spWork (T n) n D.1 = .inl (k, a) → r.toInt = (k : Int) - 10 → wFr 0 (rdM (opM M nn)) M' → Q (.inl (some (.int r))) M') (hok : ∀ (r : Int32) (M' : fmM), M'.1 34 5 = 0 → Q (.inl (some (.int r))) M') : pvGood Tx 214 qX10_work [.ref 0, .int nn] M Q := by
  refine pvGood_of (Nat.le_of_ble_eq_true rfl) ?_
  show pvEv Tx 214 qX10_work 0 [some (.ref 0), some (.int nn)] [] M Q
  refine pv_aloadn (pc := 0) (n := 0) 0 rfl rfl (fm_dec dtX10_work 0 rfl) ?_
  refine pv_iloadn (pc := 1) (n := 1) 1 rfl rfl (fm_dec dtX10_work 1 rfl) ?_
  refine pv_sipush (pc := 2) (v := 150) (by decide) (fm_dec dtX10_work 2 rfl) ?_
  refine pv_invV2 (k := 0) (d' := 1) (pc := 5) pcv_X10_108 (by decide) rfl (Nat.le_of_ble_eq_true rfl) (by decide) (fm_dec dtX10_work 3 rfl) ?_
  refine c_openT (fun h5 => ?_) (fun h5 => ?_)
  · refine pv_then0 ?_
    have h56 : nn.toInt ≤ 150 := h5.2.1
    obtain ⟨n, hn⟩ : ∃ n : Nat, nn.toInt = (n : Int) := ⟨nn.toInt.toNat, by have := h5.1; omega⟩
    have hn9 : n ≤ 150 := (by omega)
    have hI5 := inv_open (n := nn) hI h5.1 (by omega)
    have hT9 := hT n (by have := h5.2.2; omega)
    have hS := op_S hn hT9.1 hT9.2
    have hf5 : (opM M nn).1 1 4 = 0 := rfl
    have z16 : (16 : Int32).toInt = 16 := (by decide)
    have hw5 : ((opM M nn).1 46 2).toInt = (w : Int) := hw
    refine pv_aloadn (pc := 8) (n := 0) 0 rfl rfl (fm_dec dtX10_work 4 rfl) ?_
    refine pv_getR (k := 0) (j := 9) (ci := 10) (pc := 9) 46 rfl (by decide) pfl_X10_75 (by decide) rfl (by decide) (fm_dec dtX10_work 5 rfl) ?_
    refine pv_getI (k := 46) (j := 2) (ci := 5) (pc := 12) pfl_X10_126 (by decide) rfl (by decide) (fm_dec dtX10_work 6 rfl) ?_
    refine pv_bipush (pc := 15) (v := 16) (by decide) (fm_dec dtX10_work 7 rfl) ?_
    refine pv_icmp_lt (pc := 17) 23 (by decide) (fm_dec dtX10_work 8 rfl) (fun hc17 => ?_) (fun hc17 => ?_)
    · have hlt : w < 16 := (by have h9 := hc17; rw [sc_lt] at h9; omega)
      refine pv_aloadn (pc := 23) (n := 0) 0 rfl rfl (fm_dec dtX10_work 11 rfl) ?_
      refine pv_getR (k := 0) (j := 5) (ci := 10) (pc := 24) 28 rfl (by decide) pfl_X10_43 (by decide) rfl (by decide) (fm_dec dtX10_work 12 rfl) ?_
      refine pv_aloadn (pc := 27) (n := 0) 0 rfl rfl (fm_dec dtX10_work 13 rfl) ?_
      refine pv_getR (k := 0) (j := 0) (ci := 10) (pc := 28) 1 rfl (by decide) pfl_X10_12 (by decide) rfl (by decide) (fm_dec dtX10_work 14 rfl) ?_
      refine pv_aloadn (pc := 31) (n := 0) 0 rfl rfl (fm_dec dtX10_work 15 rfl) ?_
      refine pv_getR (k := 0) (j := 1) (ci := 10) (pc := 32) 3 rfl (by decide) pfl_X10_19 (by decide) rfl (by decide) (fm_dec dtX10_work 16 rfl) ?_
      refine pv_getI (k := 3) (j := 9) (ci := 8) (pc := 35) pfl_X10_138 (by decide) rfl (by decide) (fm_dec dtX10_work 17 rfl) ?_
      refine pv_invV2 (k := 28) (d' := 27) (pc := 38) pcv_X10_142 (by decide) rfl (Nat.le_of_ble_eq_true rfl) (by decide) (fm_dec dtX10_work 18 rfl) ?_
      refine c_wread (M := opM M nn) (l := D.1) hX.1.1 hD.1 hS hf5 hI5 hn9 (fun M38 ss q38 e38 k38 => ?_) (fun M38 kb ab e38 b38 => ?_)  
      · refine pv_then1 ?_
        refine pv_if_ne (pc := 41) 55 (by decide) (fm_dec dtX10_work 19 rfl) (fun _ => ?_) (fun hc41 => by exfalso; revert hc41; decide)
        have hw38 : (M38.1 46 2).toInt = (w : Int) := (by rw [(wo_38 k38.2.2.2.2.2 46 (by decide) (by decide) 2).1]; exact hw)
        have hN := spWork_nu hT9.1 hn9 hD.1 e38
        obtain ⟨g9, hg9⟩ := spWork_wn e38
        refine pv_aloadn (pc := 55) (n := 0) 0 rfl rfl (fm_dec dtX10_work 26 rfl) ?_
        refine pv_getR (k := 0) (j := 9) (ci := 10) (pc := 56) 46 rfl (by decide) pfl_X10_75 (by decide) rfl (by decide) (fm_dec dtX10_work 27 rfl) ?_
        refine pv_invV0 (k := 46) (d' := 1) (pc := 59) pcv_X10_145 (by decide) rfl (Nat.le_of_ble_eq_true rfl) (by decide) (fm_dec dtX10_work 28 rfl) ?_
        refine c_keepS hw38 hlt (fun M59 c59 => ?_) 
        refine pv_then0 ?_
        have hA9 := wo_A hX hL hs ho k38.2.2.2.2.2 c59
        have hW9 : wRep (fmI M59 46 2 (M38.1 46 2 + 1)) 0 ss := (fun i c hi => by rw [fmI_k _ _ (by decide), fmI_k _ _ (by decide), fmI_k _ _ (by decide), c59.2.1 29 _ (by omega) (by omega), c59.2.1 30 _ (by omega) (by omega), c59.2.1 31 _ (by omega) (by omega)]; exact k38.2.2.2.2.1 i c hi)
        have hz9 : ((fmI M59 46 2 (M38.1 46 2 + 1)).1 28 3).toInt = ((0 + ss.length : Nat) : Int) := (by rw [fmI_k _ _ (by decide), c59.2.1 28 3 (by omega) (by omega)]; exact k38.2.2.2.1)
        refine pv_aloadn (pc := 62) (n := 0) 0 rfl rfl (fm_dec dtX10_work 29 rfl) ?_
        refine pv_getR (k := 0) (j := 5) (ci := 10) (pc := 63) 28 rfl (by decide) pfl_X10_43 (by decide) rfl (by decide) (fm_dec dtX10_work 30 rfl) ?_
        refine pv_aloadn (pc := 66) (n := 0) 0 rfl rfl (fm_dec dtX10_work 31 rfl) ?_
        refine pv_getR (k := 0) (j := 6) (ci := 10) (pc := 67) 32 rfl (by decide) pfl_X10_52 (by decide) rfl (by decide) (fm_dec dtX10_work 32 rfl) ?_
        refine pv_aloadn (pc := 70) (n := 0) 0 rfl rfl (fm_dec dtX10_work 33 rfl) ?_
        refine pv_getR (k := 0) (j := 9) (ci := 10) (pc := 71) 46 rfl (by decide) pfl_X10_75 (by decide) rfl (by decide) (fm_dec dtX10_work 34 rfl) ?_
        refine pv_getR (k := 46) (j := 0) (ci := 5) (pc := 74) 47 rfl (by decide) pfl_X10_90 (by decide) rfl (by decide) (fm_dec dtX10_work 35 rfl) ?_
        refine pv_iconst (pc := 77) (v := 0) (by decide) (fm_dec dtX10_work 36 rfl) ?_
        refine pv_aloadn (pc := 78) (n := 0) 0 rfl rfl (fm_dec dtX10_work 37 rfl) ?_
        refine pv_getR (k := 0) (j := 5) (ci := 10) (pc := 79) 28 rfl (by decide) pfl_X10_43 (by decide) rfl (by decide) (fm_dec dtX10_work 38 rfl) ?_
        refine pv_getI (k := 28) (j := 3) (ci := 9) (pc := 82) pfl_X10_148 (by decide) rfl (by decide) (fm_dec dtX10_work 39 rfl) ?_
        refine pv_iconst (pc := 85) (v := 0) (by decide) (fm_dec dtX10_work 40 rfl) ?_
        refine pv_invV5 (k := 28) (d' := (12 + 201)) (pc := 86) pcv_X10_151 (by decide) rfl (Nat.le_of_ble_eq_true rfl) (by decide) (fm_dec dtX10_work 41 rfl) ?_
        refine (xp_E (cs := cs) hD hN.1 201).go (a := 0) (o := 0) hA9 hW9 seg_0 (by omega) hg9 (by decide) (by decide) hz9 (by decide) (by show 200 - 0 < 201; decide) (fun M86 h86 f86 => ?_) 
        refine pv_then0 ?_
        refine pv_aloadn (pc := 89) (n := 0) 0 rfl rfl (fm_dec dtX10_work 42 rfl) ?_
        refine pv_aloadn (pc := 90) (n := 0) 0 rfl rfl (fm_dec dtX10_work 43 rfl) ?_
        refine pv_getR (k := 0) (j := 5) (ci := 10) (pc := 91) 28 rfl (by decide) pfl_X10_43 (by decide) rfl (by decide) (fm_dec dtX10_work 44 rfl) ?_
        refine pv_getI (k := 28) (j := 6) (ci := 9) (pc := 94) pfl_X10_155 (by decide) rfl (by decide) (fm_dec dtX10_work 45 rfl) ?_
        refine pv_putI (k := 0) (j := 14) (ci := 10) (pc := 97) pfl_X10_132 (by decide) rfl (by decide) (fm_dec dtX10_work 46 rfl) ?_
        refine pv_aloadn (pc := 100) (n := 0) 0 rfl rfl (fm_dec dtX10_work 47 rfl) ?_
        refine pv_getR (k := 0) (j := 7) (ci := 10) (pc := 101) 34 rfl (by decide) pfl_X10_61 (by decide) rfl (by decide) (fm_dec dtX10_work 48 rfl) ?_
        refine pv_invV0 (k := 34) (d' := 0) (pc := 104) pcv_X10_135 (by decide) rfl (Nat.le_of_ble_eq_true rfl) (by decide) (fm_dec dtX10_work 49 rfl) ?_
        refine c_fgt ?_
        refine pv_then0 ?_
        refine pv_aloadn (pc := 107) (n := 0) 0 rfl rfl (fm_dec dtX10_work 50 rfl) ?_
        refine pv_getR (k := 0) (j := 5) (ci := 10) (pc := 108) 28 rfl (by decide) pfl_X10_43 (by decide) rfl (by decide) (fm_dec dtX10_work 51 rfl) ?_
        refine pv_getI (k := 28) (j := 5) (ci := 9) (pc := 111) pfl_X10_158 (by decide) rfl (by decide) (fm_dec dtX10_work 52 rfl) ?_
        exact pv_ireturn (pc := 114) rfl (fm_dec dtX10_work 53 rfl) (hok _ _ (fmI_s _ _ _ _))
      · refine pv_then1 ?_
        refine pv_if_ne (pc := 41) 55 (by decide) (fm_dec dtX10_work 19 rfl) (fun hc41 => by exfalso; revert hc41; decide) (fun _ => ?_)
        refine pv_aloadn (pc := 44) (n := 0) 0 rfl rfl (fm_dec dtX10_work 20 rfl) ?_
        refine pv_getR (k := 0) (j := 0) (ci := 10) (pc := 45) 1 rfl (by decide) pfl_X10_12 (by decide) rfl (by decide) (fm_dec dtX10_work 21 rfl) ?_
        refine pv_getI (k := 1) (j := 4) (ci := 7) (pc := 48) pfl_X10_116 (by decide) rfl (by decide) (fm_dec dtX10_work 22 rfl) ?_
        refine pv_bipush (pc := 51) (v := 10) (by decide) (fm_dec dtX10_work 23 rfl) ?_
        refine pv_isub (pc := 53) (fm_dec dtX10_work 24 rfl) ?_
        exact pv_ireturn (pc := 54) rfl (fm_dec dtX10_work 25 rfl) (hbad n kb ab _ M38 hn h5 hlt e38 (law_r b38.1 (by have h9 : (M38.1 1 4).toInt ≤ 3 := (b38.2.2.2.1.1 1 4 (by decide)).2; have h8 := b38.1; omega)) b38.2.2.2.2)
    · refine pv_bipush (pc := 20) (v := (-20)) (by decide) (fm_dec dtX10_work 9 rfl) ?_
      exact pv_ireturn (pc := 22) rfl (fm_dec dtX10_work 10 rfl) (hful h5 (by have h9 := hc17; rw [sc_lt] at h9; omega))
  · refine pv_thenX ?_
    exact hrf h5
set_option maxRecDepth 20000 in
theorem c_xdrawB {M : fmM} {Q : fmR → fmM → Prop} {T : Nat → tX} {nn : Int32} (hI : scInv Tx invX M) (hT : txF M T) (hrf : ¬ txP nn 600 (M.1 1 1).toInt → Q (.inr fmIAE) (fmI M 0 16 (M.1 0 16 + 1))) (hok : ∀ (r : Int32) (M' : fmM), M'.1 34 5 = 0 → Q (.inl (some (.int r))) M') (hbad : ∀ (n k a : Nat) (M' : fmM) (r : Int32), nn.toInt = (n : Int) → txP nn 600 (M.1 1 1).toInt → spDrawer (T n) n = .inl (k, a) → r.toInt = (k : Int) - 10 → tbad (opM M nn) M' k a → Q (.inl (some (.int r))) M') : pvGood Tx 41 qX10_drawer [.ref 0, .int nn] M Q := by
  refine pvGood_of (Nat.le_of_ble_eq_true rfl) ?_
  show pvEv Tx 41 qX10_drawer 0 [some (.ref 0), some (.int nn)] [] M Q
  refine pv_aloadn (pc := 0) (n := 0) 0 rfl rfl (fm_dec dtX10_drawer 0 rfl) ?_
  refine pv_iloadn (pc := 1) (n := 1) 1 rfl rfl (fm_dec dtX10_drawer 1 rfl) ?_
  refine pv_sipush (pc := 2) (v := 600) (by decide) (fm_dec dtX10_drawer 2 rfl) ?_
  refine pv_invV2 (k := 0) (d' := 1) (pc := 5) pcv_X10_108 (by decide) rfl (Nat.le_of_ble_eq_true rfl) (by decide) (fm_dec dtX10_drawer 3 rfl) ?_
  refine c_openT (fun h5 => ?_) (fun h5 => ?_)
  · refine pv_then0 ?_
    have h56 : nn.toInt ≤ 600 := h5.2.1
    obtain ⟨n, hn⟩ : ∃ n : Nat, nn.toInt = (n : Int) := ⟨nn.toInt.toNat, by have := h5.1; omega⟩
    have hI5 := inv_open (n := nn) hI h5.1 (by omega)
    have hT9 := hT n (by have := h5.2.2; omega)
    have hS := op_S hn hT9.1 hT9.2
    have hf5 : (opM M nn).1 1 4 = 0 := rfl
    refine pv_aloadn (pc := 8) (n := 0) 0 rfl rfl (fm_dec dtX10_drawer 4 rfl) ?_
    refine pv_getR (k := 0) (j := 2) (ci := 10) (pc := 9) 13 rfl (by decide) pfl_X10_23 (by decide) rfl (by decide) (fm_dec dtX10_drawer 5 rfl) ?_
    refine pv_aloadn (pc := 12) (n := 0) 0 rfl rfl (fm_dec dtX10_drawer 6 rfl) ?_
    refine pv_getR (k := 0) (j := 0) (ci := 10) (pc := 13) 1 rfl (by decide) pfl_X10_12 (by decide) rfl (by decide) (fm_dec dtX10_drawer 7 rfl) ?_
    refine pv_invV1 (k := 13) (d' := 7) (pc := 16) pcv_X10_112 (by decide) rfl (Nat.le_of_ble_eq_true rfl) (by decide) (fm_dec dtX10_drawer 8 rfl) ?_
    refine c_xdread hS hf5 hI5 (fun M16 D16 e16 k16 => ?_) (fun Mb kb ab eb hB => ?_)  
    · refine pv_then1 ?_
      refine pv_if_ne (pc := 19) 33 (by decide) (fm_dec dtX10_drawer 9 rfl) (fun _ => ?_) (fun hc19 => by exfalso; revert hc19; decide)
      refine pv_aloadn (pc := 33) (n := 0) 0 rfl rfl (fm_dec dtX10_drawer 16 rfl) ?_
      refine pv_getR (k := 0) (j := 1) (ci := 10) (pc := 34) 3 rfl (by decide) pfl_X10_19 (by decide) rfl (by decide) (fm_dec dtX10_drawer 17 rfl) ?_
      refine pv_aloadn (pc := 37) (n := 0) 0 rfl rfl (fm_dec dtX10_drawer 18 rfl) ?_
      refine pv_getR (k := 0) (j := 2) (ci := 10) (pc := 38) 13 rfl (by decide) pfl_X10_23 (by decide) rfl (by decide) (fm_dec dtX10_drawer 19 rfl) ?_
      refine pv_invV1 (k := 3) (d' := 0) (pc := 41) pcv_X10_119 (by decide) rfl (Nat.le_of_ble_eq_true rfl) (by decide) (fm_dec dtX10_drawer 20 rfl) ?_
      refine x_copy k16.2.2.2.2 k16.1 k16.2.1 (fun M41 hI41 hW41 f41 => ?_)
      refine pv_then0 ?_
      refine pv_aloadn (pc := 44) (n := 0) 0 rfl rfl (fm_dec dtX10_drawer 21 rfl) ?_
      refine pv_getR (k := 0) (j := 3) (ci := 10) (pc := 45) 23 rfl (by decide) pfl_X10_29 (by decide) rfl (by decide) (fm_dec dtX10_drawer 22 rfl) ?_
      refine pv_invV0 (k := 23) (d' := 0) (pc := 48) pcv_X10_122 (by decide) rfl (Nat.le_of_ble_eq_true rfl) (by decide) (fm_dec dtX10_drawer 23 rfl) ?_
      refine x_clr1 hI41 (fun M48 hI48 f48 c48 => ?_)
      refine pv_then0 ?_
      refine pv_aloadn (pc := 51) (n := 0) 0 rfl rfl (fm_dec dtX10_drawer 24 rfl) ?_
      refine pv_getR (k := 0) (j := 4) (ci := 10) (pc := 52) 27 rfl (by decide) pfl_X10_36 (by decide) rfl (by decide) (fm_dec dtX10_drawer 25 rfl) ?_
      refine pv_invV0 (k := 27) (d' := 0) (pc := 55) pcv_X10_125 (by decide) rfl (Nat.le_of_ble_eq_true rfl) (by decide) (fm_dec dtX10_drawer 26 rfl) ?_
      refine x_clr2 hI48 (fun M55 hI55 f55 c55 => ?_)
      refine pv_then0 ?_
      refine pv_aloadn (pc := 58) (n := 0) 0 rfl rfl (fm_dec dtX10_drawer 27 rfl) ?_
      refine pv_getR (k := 0) (j := 9) (ci := 10) (pc := 59) 46 rfl (by decide) pfl_X10_75 (by decide) rfl (by decide) (fm_dec dtX10_drawer 28 rfl) ?_
      refine pv_getR (k := 46) (j := 0) (ci := 5) (pc := 62) 47 rfl (by decide) pfl_X10_90 (by decide) rfl (by decide) (fm_dec dtX10_drawer 29 rfl) ?_
      refine pv_aloadn (pc := 65) (n := 0) 0 rfl rfl (fm_dec dtX10_drawer 30 rfl) ?_
      refine pv_getR (k := 0) (j := 1) (ci := 10) (pc := 66) 3 rfl (by decide) pfl_X10_19 (by decide) rfl (by decide) (fm_dec dtX10_drawer 31 rfl) ?_
      refine pv_invV1 (k := 47) (d' := 0) (pc := 69) pcv_X10_94 (by decide) rfl (Nat.le_of_ble_eq_true rfl) (by decide) (fm_dec dtX10_drawer 32 rfl) ?_
      refine x_begin hI55 (fun M69 hI69 f69 c69 => ?_)
      refine pv_then0 ?_
      refine pv_aloadn (pc := 72) (n := 0) 0 rfl rfl (fm_dec dtX10_drawer 33 rfl) ?_
      refine pv_getR (k := 0) (j := 9) (ci := 10) (pc := 73) 46 rfl (by decide) pfl_X10_75 (by decide) rfl (by decide) (fm_dec dtX10_drawer 34 rfl) ?_
      refine pv_iconst (pc := 76) (v := 0) (by decide) (fm_dec dtX10_drawer 35 rfl) ?_
      refine pv_putI (k := 46) (j := 2) (ci := 5) (pc := 77) pfl_X10_126 (by decide) rfl (by decide) (fm_dec dtX10_drawer 36 rfl) ?_
      refine pv_aloadn (pc := 80) (n := 0) 0 rfl rfl (fm_dec dtX10_drawer 37 rfl) ?_
      refine pv_iconst (pc := 81) (v := 0) (by decide) (fm_dec dtX10_drawer 38 rfl) ?_
      refine pv_putI (k := 0) (j := 13) (ci := 10) (pc := 82) pfl_X10_129 (by decide) rfl (by decide) (fm_dec dtX10_drawer 39 rfl) ?_
      refine pv_aloadn (pc := 85) (n := 0) 0 rfl rfl (fm_dec dtX10_drawer 40 rfl) ?_
      refine pv_iconst (pc := 86) (v := 0) (by decide) (fm_dec dtX10_drawer 41 rfl) ?_
      refine pv_putI (k := 0) (j := 14) (ci := 10) (pc := 87) pfl_X10_132 (by decide) rfl (by decide) (fm_dec dtX10_drawer 42 rfl) ?_
      refine pv_aloadn (pc := 90) (n := 0) 0 rfl rfl (fm_dec dtX10_drawer 43 rfl) ?_
      refine pv_getR (k := 0) (j := 7) (ci := 10) (pc := 91) 34 rfl (by decide) pfl_X10_61 (by decide) rfl (by decide) (fm_dec dtX10_drawer 44 rfl) ?_
      refine pv_invV0 (k := 34) (d' := 0) (pc := 94) pcv_X10_135 (by decide) rfl (Nat.le_of_ble_eq_true rfl) (by decide) (fm_dec dtX10_drawer 45 rfl) ?_
      refine c_fgt ?_
      refine pv_then0 ?_
      refine pv_aloadn (pc := 97) (n := 0) 0 rfl rfl (fm_dec dtX10_drawer 46 rfl) ?_
      refine pv_getR (k := 0) (j := 1) (ci := 10) (pc := 98) 3 rfl (by decide) pfl_X10_19 (by decide) rfl (by decide) (fm_dec dtX10_drawer 47 rfl) ?_
      refine pv_getI (k := 3) (j := 9) (ci := 8) (pc := 101) pfl_X10_138 (by decide) rfl (by decide) (fm_dec dtX10_drawer 48 rfl) ?_
      exact pv_ireturn (pc := 104) rfl (fm_dec dtX10_drawer 49 rfl) (hok _ _ (fmI_s _ _ _ _))
    · refine pv_then1 ?_
      refine pv_if_ne (pc := 19) 33 (by decide) (fm_dec dtX10_drawer 9 rfl) (fun hc19 => by exfalso; revert hc19; decide) (fun _ => ?_)
      refine pv_aloadn (pc := 22) (n := 0) 0 rfl rfl (fm_dec dtX10_drawer 10 rfl) ?_
      refine pv_getR (k := 0) (j := 0) (ci := 10) (pc := 23) 1 rfl (by decide) pfl_X10_12 (by decide) rfl (by decide) (fm_dec dtX10_drawer 11 rfl) ?_
      refine pv_getI (k := 1) (j := 4) (ci := 7) (pc := 26) pfl_X10_116 (by decide) rfl (by decide) (fm_dec dtX10_drawer 12 rfl) ?_
      refine pv_bipush (pc := 29) (v := 10) (by decide) (fm_dec dtX10_drawer 13 rfl) ?_
      refine pv_isub (pc := 31) (fm_dec dtX10_drawer 14 rfl) ?_
      exact pv_ireturn (pc := 32) rfl (fm_dec dtX10_drawer 15 rfl) (hbad n kb ab Mb _ hn h5 eb (law_r hB.1 (by have h9 : (Mb.1 1 4).toInt ≤ 3 := (hB.2.2.2.2.1 1 4 (by decide)).2; have h8 := hB.1; omega)) hB)
  · refine pv_thenX ?_
    exact hrf h5
/-- what is planned is right -/
def pB (M : fmM) : Prop := ∀ (D : dD) (cs : tC) (S : aS) (n : Nat), xAq M D cs S → 1 ≤ n → n ≤ 3 → (M.1 34 5).toInt = (n : Int) → (M.2 34 6).toInt = ((plV D cs S n : Nat) : Int)
def kB (M M' : fmM) : Prop := (∀ k j, (3 ≤ k ∧ k ≤ 12) ∨ k = 24 ∨ k = 34 ∨ k = 47 ∨ k = 48 ∨ (k = 23 ∧ j = 3) → M'.1 k j = M.1 k j) ∧ M'.2 47 6 = M.2 47 6 ∧ M'.2 34 6 = M.2 34 6
theorem xAq.b {M M' : fmM} {D : dD} {cs : tC} {S : aS} (h : xAq M' D cs S) (k : ∀ k j, (3 ≤ k ∧ k ≤ 12) ∨ k = 24 ∨ k = 47 ∨ k = 48 ∨ (k = 23 ∧ j = 3) → M'.1 k j = M.1 k j) (k2 : M'.2 47 6 = M.2 47 6) : xAq M D cs S := ⟨h.1, h.2.1.of (fun q j a b => (k q j (by omega)).symm), h.2.2.1.f (k 23 3 (by omega)).symm (fun i => (k 24 i (by omega)).symm), h.2.2.2.1.of (fun q j a => (k q j (by omega)).symm) k2.symm, h.2.2.2.2⟩
theorem pB.k {M M' : fmM} (h : pB M) (k : kB M M') : pB M' := fun D cs S n hx h1 h3 hn => by
  rw [k.1 34 5 (by omega)] at hn
  rw [k.2.2]
  exact h D cs S n (hx.b (fun q j a => k.1 q j (by omega)) k.2.1) h1 h3 hn
theorem pB.z {M : fmM} (h : M.1 34 5 = 0) : pB M := fun D cs S n _ h1 _ hn => by
  rw [h] at hn
  have z0 : (0 : Int32).toInt = 0 := by decide
  omega
theorem kB.op {M : fmM} {nn : Int32} : kB M (opM M nn) := ⟨fun k j a => by
  unfold opM
  rw [fmI_k _ _ (by omega), fmI_k _ _ (by omega), fmI_k _ _ (by omega), fmI_k _ _ (by omega), fmI_k _ _ (by omega)], rfl, rfl⟩
theorem kB.tr {M M1 M2 : fmM} (h : kB M M1) (h' : kB M1 M2) : kB M M2 := ⟨fun k j a => (h'.1 k j a).trans (h.1 k j a), h'.2.1.trans h.2.1, h'.2.2.trans h.2.2⟩
theorem kB.p0 {M : fmM} {j : Nat} {x : Int32} : kB M (fmI M 0 j x) := ⟨fun k j a => by rw [fmI_k _ _ (by omega)], rfl, rfl⟩
/-- contracts of one call, as many as you like, are met by the one run -/
theorem pvGood.all {T : fmT} {d : Nat} {y : fmY} {args : List Value} {M : fmM} {ι : Type} {Q0 : fmR → fmM → Prop} {Q1 : ι → fmR → fmM → Prop} (h0 : pvGood T d y args M Q0) (h : ∀ i, pvGood T d y args M (Q1 i)) : pvGood T d y args M (fun o M' => Q0 o M' ∧ ∀ i, Q1 i o M') := by
  obtain ⟨hl, n, r, hr, hq⟩ := h0
  refine ⟨hl, n, r, hr, hq, fun i => ?_⟩
  have h1 : pvGood T d y args M (fun o M' => o = r.1 ∧ M' = r.2) := ⟨hl, n, r, hr, rfl, rfl⟩
  obtain ⟨_, n2, r2, _, ⟨e1, e2⟩, h3⟩ := h1.and (h i)
  rw [← e1, ← e2]
  exact h3
theorem xe_bestIn {M : fmM} {D : dD} {cs : tC} {S : aS} {x y : Int32} (h : xAq M D cs S) (hc : ∀ n : Nat, 1 ≤ n → n ≤ 3 → (M.1 34 5).toInt = (n : Int) → (M.2 34 6).toInt = ((plV D cs S n : Nat) : Int)) : pvGood Tx 250 qX10_bestIn [.ref 0, .int x, .int y] M (fun r _ => ((inW x 1 3 ∧ inW y 0 (x - 1)) ∧ r = .inl (some (.int (iZ (((plV D cs S x.toInt.toNat / kyP y.toInt.toNat % 256 : Nat) : Int)))))) ∨ (¬ (inW x 1 3 ∧ inW y 0 (x - 1)) ∧ r = .inr fmIAE)) := (c_xqbestIn h hc (fun h => Or.inr ⟨h, rfl⟩) (fun h r M' _ _ e => Or.inl ⟨h, by rw [iZ_is e]⟩)).up (by decide)
theorem me_bestIn {M : fmM} {D : dD} {cs : tC} {S : aS} {x y : Int32} (h : mAq M D cs S) : pvGood Tm 250 qX11_bestIn [.ref 0, .int x, .int y] M (fun r M' => ((inW x 1 3 ∧ inW y 0 (x - 1)) ∧ r = .inl (some (.int (iZ (((plV D cs S x.toInt.toNat / kyP y.toInt.toNat % 256 : Nat) : Int))))) ∧ M'.1 0 0 = 0) ∨ (¬ (inW x 1 3 ∧ inW y 0 (x - 1)) ∧ M'.1 0 0 = 1)) := (c_mqbestIn h (fun h z M' e => Or.inr ⟨h, e⟩) (fun h r M' z e => Or.inl ⟨h, by rw [iZ_is e], z⟩)).up (by decide)
