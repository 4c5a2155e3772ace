set_option maxRecDepth 20000 in
theorem c_needP {M : fmM} {Q : fmR → fmM → Prop} {x : Int32} (hq : inW x 0 1 → Q (.inl none) M) (hf : ¬ inW x 0 1 → Q (.inr fmIAE) (fmI M 0 16 (M.1 0 16 + 1))) : pvGood Tx 1 qX10_needPart [.ref 0, .int x] M Q := by
  refine pvGood_of (Nat.le_of_ble_eq_true rfl) ?_
  show pvEv Tx 1 qX10_needPart 0 [some (.ref 0), some (.int x)] [] M Q
  refine pv_aloadn (pc := 0) (n := 0) 0 rfl rfl (fm_dec dtX10_needPart 0 rfl) ?_
  refine pv_iloadn (pc := 1) (n := 1) 1 rfl rfl (fm_dec dtX10_needPart 1 rfl) ?_
  refine pv_iconst (pc := 2) (v := 0) (by decide) (fm_dec dtX10_needPart 2 rfl) ?_
  refine pv_iconst (pc := 3) (v := 1) (by decide) (fm_dec dtX10_needPart 3 rfl) ?_
  refine pv_invV3 (k := 0) (d' := 0) (pc := 4) pcv_X10_169 (by decide) rfl (Nat.le_of_ble_eq_true rfl) (by decide) (fm_dec dtX10_needPart 4 rfl) ?_
  refine c_needW (fun h4a h4b => ?_) (fun h4 => ?_)
  · refine pv_then0 ?_
    exact pv_return (pc := 7) rfl (fm_dec dtX10_needPart 5 rfl) (hq ⟨h4a, h4b⟩)
  · refine pv_thenX ?_
    exact hf h4
set_option maxRecDepth 20000 in
theorem c_noP {M : fmM} {Q : fmR → fmM → Prop} {x w : Int32} (hth : M.1 0 0 = 0) (hw : ¬ w = 0) (hq : inW x 0 1 → Q (.inl (some (.int 0))) M) (hf : ¬ inW x 0 1 → Q (.inl (some (.int 1))) (fmI (fmI M 0 0 w) 2 1 (M.1 2 1 + 1))) : pvGood Tm 1 qX11_noPart [.ref 0, .int x, .int w] M Q := by
  refine pvGood_of (Nat.le_of_ble_eq_true rfl) ?_
  show pvEv Tm 1 qX11_noPart 0 [some (.ref 0), some (.int x), some (.int w)] [] M Q
  refine pv_aloadn (pc := 0) (n := 0) 0 rfl rfl (fm_dec dtX11_noPart 0 rfl) ?_
  refine pv_iloadn (pc := 1) (n := 1) 1 rfl rfl (fm_dec dtX11_noPart 1 rfl) ?_
  refine pv_iconst (pc := 2) (v := 0) (by decide) (fm_dec dtX11_noPart 2 rfl) ?_
  refine pv_iconst (pc := 3) (v := 1) (by decide) (fm_dec dtX11_noPart 3 rfl) ?_
  refine pv_iS3 (d' := 0) (pc := 4) pcs_X11_135 (Nat.le_of_ble_eq_true rfl) (by decide) (fm_dec dtX11_noPart 4 rfl) ?_
  refine c_in (fun h4a h4b => ?_) (fun h4 => ?_)
  · refine pv_then1 ?_
    refine pv_if_ne (pc := 7) 14 (by decide) (fm_dec dtX11_noPart 5 rfl) (fun _ => ?_) (fun hc7 => by exfalso; revert hc7; decide)
    refine pv_iconst (pc := 14) (v := 0) (by decide) (fm_dec dtX11_noPart 8 rfl) ?_
    refine pv_iloadn (pc := 15) (n := 2) 2 rfl rfl (fm_dec dtX11_noPart 9 rfl) ?_
    refine pv_iconst (pc := 16) (v := 1) (by decide) (fm_dec dtX11_noPart 10 rfl) ?_
    refine pv_invV3 (k := 0) (d' := 0) (pc := 17) pcv_X11_177 (by decide) rfl (Nat.le_of_ble_eq_true rfl) (by decide) (fm_dec dtX11_noPart 11 rfl) ?_
    refine c_badF1 hth ?_
    refine pv_then1 ?_
    exact pv_zreturn (pc := 20) rfl (by first | exact Or.inr rfl | exact Or.inl rfl) (fm_dec dtX11_noPart 12 rfl) (hq ⟨h4a, h4b⟩)
  · refine pv_then1 ?_
    refine pv_if_ne (pc := 7) 14 (by decide) (fm_dec dtX11_noPart 5 rfl) (fun hc7 => by exfalso; revert hc7; decide) (fun _ => ?_)
    refine pv_iconst (pc := 10) (v := 1) (by decide) (fm_dec dtX11_noPart 6 rfl) ?_
    refine pv_goto (pc := 11) 15 (by decide) (fm_dec dtX11_noPart 7 rfl) ?_
    refine pv_iloadn (pc := 15) (n := 2) 2 rfl rfl (fm_dec dtX11_noPart 9 rfl) ?_
    refine pv_iconst (pc := 16) (v := 1) (by decide) (fm_dec dtX11_noPart 10 rfl) ?_
    refine pv_invV3 (k := 0) (d' := 0) (pc := 17) pcv_X11_177 (by decide) rfl (Nat.le_of_ble_eq_true rfl) (by decide) (fm_dec dtX11_noPart 11 rfl) ?_
    refine c_badT1 hth hw ?_
    refine pv_then1 ?_
    exact pv_zreturn (pc := 20) rfl (by first | exact Or.inr rfl | exact Or.inl rfl) (fm_dec dtX11_noPart 12 rfl) (hf h4)
def pwS (a : Int64) : Nat → Int64
  | 0 => 1
  | n + 1 => pwS a n * a
theorem pw_b {a : Int64} {b : Nat} (ha : a.toInt = (b : Int)) (hb : b ≤ 64) : ∀ n, n ≤ 9 → (pwS a n).toInt = ((b ^ n : Nat) : Int) := by
  intro n
  induction n with
  | zero => intro _; rfl
  | succ n ih =>
    intro hn
    have h1 : b ^ (n + 1) ≤ 64 ^ (n + 1) := Nat.pow_le_pow_left hb (n + 1)
    have h2 : 64 ^ (n + 1) ≤ 64 ^ 9 := Nat.pow_le_pow_right (by decide) hn
    have h3 : (64 : Nat) ^ 9 = 18014398509481984 := by decide
    show (pwS a n * a).toInt = _
    have h4 : b ^ n * b = b ^ (n + 1) := (Nat.pow_succ b n).symm
    rw [Int64.toInt_mul, ih (by omega), ha, ← Int.natCast_mul, h4]
    exact Int.bmod_eq_of_le (by omega) (by omega)
theorem pw_64 : ∀ n, n < 10 → (1 : Int64) <<< ((6 * nI n).toInt64 &&& 63) = pwS 64 n := by decide +kernel
theorem pw_p {n : Nat} (h : n ≤ 9) : 0 < (pwS 64 n).toInt := by
  rw [pw_b (b := 64) (by decide) (by decide) n h]
  exact Int.natCast_pos.mpr (Nat.pow_pos (by decide))
theorem fr_zn : ∀ n, n < 10 → (0 : Int64) / jZ ((Nat.gcd (0 : Int64).toInt.toNat (pwS 64 n).toInt.toNat : Nat) : Int) = 0 / jZ ((Nat.gcd (0 : Int64).toInt.toNat (64 : Int64).toInt.toNat : Nat) : Int) ∧ pwS 64 n / jZ ((Nat.gcd (0 : Int64).toInt.toNat (pwS 64 n).toInt.toNat : Nat) : Int) = 64 / jZ ((Nat.gcd (0 : Int64).toInt.toNat (64 : Int64).toInt.toNat : Nat) : Int) := by decide +kernel
theorem frV_zn {n : Nat} {p : Int32} (h : n ≤ 9) : frV 0 (pwS 64 n) p = frV 0 64 p := by
  have h9 := fr_zn n (by omega)
  unfold frV
  by_cases e : p = 0
  · rw [if_pos e, if_pos e]
    exact h9.1
  · rw [if_neg e, if_neg e]
    exact h9.2
set_option maxRecDepth 20000 in
theorem mpw_loop {Q : fmR → fmM → Prop} {M : fmM} {a : Int64} {n : Int32} {N : Nat} (hn : n.toInt = (N : Int)) (h100 : N ≤ 100) (hq : Q (.inl (some (.long (pwS a N)))) M) : ∀ (m : Nat) (k : Nat), k ≤ N → N - k = m → pvEv Tm 1 qX11_power 5 [some (.long a), none, some (.int n), some (.long (pwS a k)), none, some (.int (nI k))] [] M Q := by
  intro m
  induction m using Nat.strongRecOn with
  | _ m ih =>
    intro k hk hm
    have hk9 : (nI k).toInt = (k : Int) := nI_toInt (by omega)
    refine pv_iload (pc := 5) (i := 5) rfl (fm_dec dtX11_power 4 rfl) ?_
    refine pv_iloadn (pc := 7) (n := 2) 2 rfl rfl (fm_dec dtX11_power 5 rfl) ?_
    refine pv_icmp_ge (pc := 8) 21 (by decide) (fm_dec dtX11_power 6 rfl) (fun hc8 => ?_) (fun hc8 => ?_)
    · refine pv_lloadn (pc := 21) (n := 3) 3 rfl rfl (fm_dec dtX11_power 13 rfl) ?_
      exact pv_lreturn (pc := 22) rfl (fm_dec dtX11_power 14 rfl) (by have e9 : k = N := (by rw [sc_le] at hc8; omega); subst e9; exact hq)
    · refine pv_lloadn (pc := 11) (n := 3) 3 rfl rfl (fm_dec dtX11_power 7 rfl) ?_
      refine pv_lloadn (pc := 12) (n := 0) 0 rfl rfl (fm_dec dtX11_power 8 rfl) ?_
      refine pv_lmul (pc := 13) (fm_dec dtX11_power 9 rfl) ?_
      refine pv_lstoren (pc := 14) (n := 3) 3 rfl (by decide) rfl (fm_dec dtX11_power 10 rfl) ?_
      dsimp only [List.set_cons_zero, List.set_cons_succ]
      refine pv_iincc (pc := 15) 5 1 (by decide) rfl (by decide) rfl (fm_dec dtX11_power 11 rfl) ?_
      dsimp only [List.set_cons_zero, List.set_cons_succ]
      refine pv_goto (pc := 18) 5 (by decide) (fm_dec dtX11_power 12 rfl) ?_
      rw [nI_succ1]
      exact ih (N - (k + 1)) (by rw [sc_le] at hc8; omega) (k + 1) (by rw [sc_le] at hc8; omega) rfl
set_option maxRecDepth 20000 in
theorem c_mpow {M : fmM} {Q : fmR → fmM → Prop} {a : Int64} {n : Int32} {N : Nat} (hn : n.toInt = (N : Int)) (h100 : N ≤ 100) (hq : Q (.inl (some (.long (pwS a N)))) M) : pvGood Tm 1 qX11_power [.long a, .int n] M Q := by
  refine pvGood_of (Nat.le_of_ble_eq_true rfl) ?_
  show pvEv Tm 1 qX11_power 0 [some (.long a), none, some (.int n), none, none, none] [] M Q
  refine pv_lconst (pc := 0) (v := 1) (by decide) (fm_dec dtX11_power 0 rfl) ?_
  refine pv_lstoren (pc := 1) (n := 3) 3 rfl (by decide) rfl (fm_dec dtX11_power 1 rfl) ?_
  dsimp only [List.set_cons_zero, List.set_cons_succ]
  refine pv_iconst (pc := 2) (v := 0) (by decide) (fm_dec dtX11_power 2 rfl) ?_
  refine pv_istore (pc := 3) (i := 5) (by decide) rfl (fm_dec dtX11_power 3 rfl) ?_
  dsimp only [List.set_cons_zero, List.set_cons_succ]
  exact mpw_loop hn h100 hq N 0 (Nat.zero_le _) rfl
theorem al_b {t : Bool} (h : bI (!t) = 0) : t = true := by
  cases t with
  | true => rfl
  | false => exact absurd h (by decide)
theorem al_n {t : Bool} (h : ¬ bI (!t) = 0) : t = false := by
  cases t with
  | false => rfl
  | true => exact absurd (by decide) h
/-- how old the piece is in k weeks, ahead of what is written then; wk: the weeks of writing -/
def agW (S : aS) (i wk : Nat) : Nat → Int
  | 0 => S.2 i
  | k + 1 => if wk.testBit k = true then 1 else if agW S i wk k = -1 then -1 else agW S i wk k + 1
/-- and behind it -/
def agP (S : aS) (i wk k : Nat) : Int := if wk.testBit k = true then 0 else agW S i wk k
theorem agW_s {S : aS} {i wk k : Nat} : agW S i wk (k + 1) = if agP S i wk k = -1 then -1 else agP S i wk k + 1 := by
  show (if wk.testBit k = true then (1 : Int) else if agW S i wk k = -1 then -1 else agW S i wk k + 1) = _
  unfold agP
  by_cases e : wk.testBit k = true
  · rw [if_pos e, if_pos e, if_neg (by decide)]
    decide
  · rw [if_neg e, if_neg e]
theorem agW_b {D : dD} {S : aS} {i wk : Nat} (ho : stO D S) (hi : i < D.1) : ∀ k, -1 ≤ agW S i wk k ∧ agW S i wk k ≤ 240 + (k : Int) := by
  intro k
  induction k with
  | zero =>
    have h := ag_b ho hi
    exact ⟨h.1, by show S.2 i ≤ 240 + ((0 : Nat) : Int); omega⟩
  | succ k ih =>
    show -1 ≤ (if wk.testBit k = true then (1 : Int) else if agW S i wk k = -1 then -1 else agW S i wk k + 1) ∧ (if wk.testBit k = true then (1 : Int) else if agW S i wk k = -1 then -1 else agW S i wk k + 1) ≤ _
    split
    · omega
    · split <;> omega
theorem agP_b {D : dD} {S : aS} {i wk k : Nat} (ho : stO D S) (hi : i < D.1) : -1 ≤ agP S i wk k ∧ agP S i wk k ≤ 240 + (k : Int) := by
  have h := agW_b (wk := wk) ho hi k
  unfold agP
  split <;> omega
theorem agP_0 {S : aS} {i k : Nat} : agP S i 0 k = agW S i 0 k := if_neg (by rw [Nat.zero_testBit]; decide)
theorem agW_0 {D : dD} {S : aS} {i : Nat} (ho : stO D S) (hi : i < D.1) : ∀ k, agW S i 0 k = if S.2 i = -1 then -1 else S.2 i + (k : Int) := by
  have hb := ag_b ho hi
  intro k
  induction k with
  | zero =>
    show S.2 i = _
    split <;> omega
  | succ k ih =>
    rw [agW_s, agP_0, ih]
    by_cases e : S.2 i = -1
    · rw [if_pos e, if_pos rfl, if_pos e]
    · rw [if_neg e, if_neg (by omega), if_neg e]
      omega
/-- what a death in k weeks would lose -/
def ccN (D : dD) (cs : tC) (S : aS) (i wk k : Nat) : Nat := (coA D cs S.1.2.2.1 (S.1.1 + k) i (agP S i wk k)).toNat
def tcN (D : dD) (cs : tC) (S : aS) (i wk k : Nat) : Nat := (64 - (D.2.1 i 1).toNat) ^ k * (D.2.1 i 1).toNat * ccN D cs S i wk k
/-- the loss on the mean in the first k weeks, by 64 to the k -/
def hnN (D : dD) (cs : tC) (S : aS) (i wk : Nat) : Nat → Nat
  | 0 => 0
  | k + 1 => hnN D cs S i wk k * 64 + tcN D cs S i wk k
theorem cc_b {D : dD} {cs : tC} {S : aS} {i wk k : Nat} (hD : dOk D) (hi : i < D.1) : (coA D cs S.1.2.2.1 (S.1.1 + k) i (agP S i wk k)) = ((ccN D cs S i wk k : Nat) : Int) ∧ ccN D cs S i wk k ≤ 57024 := by
  have h := coA_b (cs := cs) (dead := S.1.2.2.1) (w := S.1.1 + k) (age := agP S i wk k) hD hi
  unfold ccN
  omega
theorem hn_b {D : dD} {cs : tC} {S : aS} {i wk : Nat} (hD : dOk D) (hi : i < D.1) : ∀ k, hnN D cs S i wk k + 57024 * (64 - (D.2.1 i 1).toNat) ^ k ≤ 57024 * 64 ^ k := by
  have b1 := (hD.2.2.1 i hi).2.1
  intro k
  induction k with
  | zero => exact Nat.le_of_eq (by show 0 + 57024 * 1 = 57024 * 1; rfl)
  | succ k ih =>
    have hc := (cc_b (cs := cs) (S := S) (wk := wk) (k := k) hD hi).2
    have ht : tcN D cs S i wk k ≤ (64 - (D.2.1 i 1).toNat) ^ k * (D.2.1 i 1).toNat * 57024 := Nat.mul_le_mul_left _ hc
    have hx : (64 - (D.2.1 i 1).toNat) ^ k * (D.2.1 i 1).toNat + (64 - (D.2.1 i 1).toNat) ^ k * (64 - (D.2.1 i 1).toNat) = (64 - (D.2.1 i 1).toNat) ^ k * 64 := by
      rw [← Nat.mul_add, show (D.2.1 i 1).toNat + (64 - (D.2.1 i 1).toNat) = 64 by omega]
    have e1 : (64 - (D.2.1 i 1).toNat) ^ (k + 1) = (64 - (D.2.1 i 1).toNat) ^ k * (64 - (D.2.1 i 1).toNat) := Nat.pow_succ _ _
    have e2 : (64 : Nat) ^ (k + 1) = 64 ^ k * 64 := Nat.pow_succ _ _
    show hnN D cs S i wk k * 64 + tcN D cs S i wk k + 57024 * (64 - (D.2.1 i 1).toNat) ^ (k + 1) ≤ 57024 * 64 ^ (k + 1)
    rw [e1, e2]
    omega
theorem p64_7 {k : Nat} (h : k ≤ 7) : (64 : Nat) ^ k ≤ 4398046511104 := by
  have h1 : (64 : Nat) ^ k ≤ 64 ^ 7 := Nat.pow_le_pow_right (by decide) h
  have h2 : (64 : Nat) ^ 7 = 4398046511104 := by decide
  omega
theorem pe_7 {d k : Nat} (h : k ≤ 7) : (64 - d) ^ k ≤ 4398046511104 := Nat.le_trans (Nat.pow_le_pow_left (Nat.sub_le 64 d) k) (p64_7 h)
theorem jb_n {x y : Int64} {a b : Nat} (hx : x.toInt = (a : Int)) (hy : y.toInt = (b : Int)) (h : a * b ≤ 4000000000000000000) : (x * y).toInt = ((a * b : Nat) : Int) := by
  rw [Int64.toInt_mul, hx, hy, ← Int.natCast_mul]
  exact Int.bmod_eq_of_le (by omega) (by omega)
theorem ja_n {x y : Int64} {a b : Nat} (hx : x.toInt = (a : Int)) (hy : y.toInt = (b : Int)) (h : a + b ≤ 4000000000000000000) : (x + y).toInt = ((a + b : Nat) : Int) := by
  rw [Int64.toInt_add, hx, hy]
  exact (Int.bmod_eq_of_le (by omega) (by omega)).trans (by omega)
set_option maxRecDepth 20000 in
theorem xla_loop {Q : fmR → fmM → Prop} {M0 : fmM} {D : dD} {cs : tC} {S : aS} {i n wk : Nat} {dd : Int64} (hi : i < D.1) (hn7n : n ≤ 7) (hwk : wk < 256) (hdd : dd.toInt = (((D.2.1 i 1).toNat : Nat) : Int)) : ∀ (m : Nat) (k : Nat) (M : fmM) (st lo : Int64) (ag : Int32), xAq M D cs S → k ≤ n → n - k = m → st.toInt = (((64 - (D.2.1 i 1).toNat) ^ k : Nat) : Int) → lo.toInt = ((hnN D cs S i wk k : Nat) : Int) → ag.toInt = agW S i wk k → (∀ k j, k ≠ 26 → M.1 k j = M0.1 k j) → M.2 = M0.2 → (∀ (M' : fmM) (r : Int64), (∀ k j, k ≠ 26 → M'.1 k j = M0.1 k j) → M'.2 = M0.2 → xAq M' D cs S → r.toInt = ((hnN D cs S i wk n : Nat) : Int) → Q (.inl (some (.long r))) M') → pvEv Tx 20 qX0_lossAhead 29 [some (.ref 32), some (.ref 47), some (.int (nI i)), some (.int (nI n)), some (.int (nI wk)), some (.long dd), none, some (.long st), none, some (.long lo), none, some (.int ag), some (.int (nI k))] [] M Q := by
  intro m
  induction m using Nat.strongRecOn with
  | _ m ih =>
    intro k M st lo ag h hkn hm hst hlo hag f1 f2 hq
    have h9q := h
    obtain ⟨hD, hX, hL, hs, ho⟩ := h9q
    have d8 := hD.1
    have b1 := (hD.2.2.1 i hi).2.1
    have hi9 : (nI i).toInt = (i : Int) := nI_toInt (by omega)
    have hk9 : (nI k).toInt = (k : Int) := nI_toInt (by omega)
    have hn9 : (nI n).toInt = (n : Int) := nI_toInt (by omega)
    refine pv_iload (pc := 29) (i := 12) rfl (fm_dec dtX0_lossAhead 18 rfl) ?_
    refine pv_iloadn (pc := 31) (n := 3) 3 rfl rfl (fm_dec dtX0_lossAhead 19 rfl) ?_
    refine pv_icmp_ge (pc := 32) 106 (by decide) (fm_dec dtX0_lossAhead 20 rfl) (fun hc32 => ?_) (fun hc32 => ?_)
    · refine pv_lload (pc := 106) (i := 9) rfl (fm_dec dtX0_lossAhead 61 rfl) ?_
      exact pv_lreturn (pc := 108) rfl (fm_dec dtX0_lossAhead 62 rfl) (by have e9 : k = n := (by rw [sc_le] at hc32; omega); subst e9; exact hq _ _ f1 f2 h hlo)
    · have hn7 : k < n := (by rw [sc_le] at hc32; omega)
      have cb := cc_b (cs := cs) (S := S) (wk := wk) (k := k) h.1 hi
      have hb := hn_b (cs := cs) (S := S) (wk := wk) h.1 hi k
      have hb2 := hn_b (cs := cs) (S := S) (wk := wk) h.1 hi (k + 1)
      have p7 := p64_7 (k := k) (by omega)
      have p8 := p64_7 (k := k + 1) (by omega)
      have q7 := pe_7 (d := (D.2.1 i 1).toNat) (k := k) (by omega)
      have pb := agP_b (wk := wk) (k := k) ho hi
      have wb := agW_b (wk := wk) ho hi k
      have w2 := ho.1
      have ehn : hnN D cs S i wk (k + 1) = hnN D cs S i wk k * 64 + tcN D cs S i wk k := rfl
      have t1 : (64 - (D.2.1 i 1).toNat) ^ k * (D.2.1 i 1).toNat ≤ 4398046511104 * 64 := Nat.mul_le_mul q7 (by omega)
      refine pv_iload (pc := 35) (i := 4) rfl (fm_dec dtX0_lossAhead 21 rfl) ?_
      refine pv_iload (pc := 37) (i := 12) rfl (fm_dec dtX0_lossAhead 22 rfl) ?_
      refine pv_ishr (pc := 39) (fm_dec dtX0_lossAhead 23 rfl) ?_
      refine pv_iconst (pc := 40) (v := 1) (by decide) (fm_dec dtX0_lossAhead 24 rfl) ?_
      refine pv_iand (pc := 41) (fm_dec dtX0_lossAhead 25 rfl) ?_
      refine pv_if_eq (pc := 42) 48 (by decide) (fm_dec dtX0_lossAhead 26 rfl) (fun hc42 => ?_) (fun hc42 => ?_)
      · have hbit : wk.testBit k = false := (has8z wk hwk k (by omega)).mp hc42
        have hagP : ag.toInt = agP S i wk k := (by unfold agP; rw [if_neg (by rw [hbit]; decide)]; exact hag)
        refine pv_lload (pc := 48) (i := 9) rfl (fm_dec dtX0_lossAhead 29 rfl) ?_
        refine pv_ldc2 (pc := 50) pkc_X0_63 (fm_dec dtX0_lossAhead 30 rfl) ?_
        refine pv_lmul (pc := 53) (fm_dec dtX0_lossAhead 31 rfl) ?_
        refine pv_lload (pc := 54) (i := 7) rfl (fm_dec dtX0_lossAhead 32 rfl) ?_
        refine pv_lload (pc := 56) (i := 5) rfl (fm_dec dtX0_lossAhead 33 rfl) ?_
        refine pv_lmul (pc := 58) (fm_dec dtX0_lossAhead 34 rfl) ?_
        refine pv_aloadn (pc := 59) (n := 0) 0 rfl rfl (fm_dec dtX0_lossAhead 35 rfl) ?_
        refine pv_aloadn (pc := 60) (n := 1) 1 rfl rfl (fm_dec dtX0_lossAhead 36 rfl) ?_
        refine pv_iloadn (pc := 61) (n := 2) 2 rfl rfl (fm_dec dtX0_lossAhead 37 rfl) ?_
        refine pv_iload (pc := 62) (i := 12) rfl (fm_dec dtX0_lossAhead 38 rfl) ?_
        refine pv_iload (pc := 64) (i := 11) rfl (fm_dec dtX0_lossAhead 39 rfl) ?_
        refine pv_invV4 (k := 32) (d' := 3) (pc := 66) pcv_X0_84 (by decide) rfl (Nat.le_of_ble_eq_true rfl) (by decide) (fm_dec dtX0_lossAhead 40 rfl) ?_
        refine c_xcostG (w := S.1.1 + k) (ag := agP S i wk k) hD hX hL hs ho hi (by rw [sc_add (by have := hs.2.1; omega) (by have := hs.2.1; omega), hs.2.1, hk9]; omega) (by omega) hagP (by omega) (fun M66 r66 g66 h66 e66 => ?_)
        refine pv_then1 ?_
        refine pv_lmul (pc := 69) (fm_dec dtX0_lossAhead 41 rfl) ?_
        refine pv_ladd (pc := 70) (fm_dec dtX0_lossAhead 42 rfl) ?_
        refine pv_lstore (pc := 71) (i := 9) (by decide) rfl (fm_dec dtX0_lossAhead 43 rfl) ?_
        dsimp only [List.set_cons_zero, List.set_cons_succ]
        refine pv_lload (pc := 73) (i := 7) rfl (fm_dec dtX0_lossAhead 44 rfl) ?_
        refine pv_ldc2 (pc := 75) pkc_X0_63 (fm_dec dtX0_lossAhead 45 rfl) ?_
        refine pv_lload (pc := 78) (i := 5) rfl (fm_dec dtX0_lossAhead 46 rfl) ?_
        refine pv_lsub (pc := 80) (fm_dec dtX0_lossAhead 47 rfl) ?_
        refine pv_lmul (pc := 81) (fm_dec dtX0_lossAhead 48 rfl) ?_
        refine pv_lstore (pc := 82) (i := 7) (by decide) rfl (fm_dec dtX0_lossAhead 49 rfl) ?_
        dsimp only [List.set_cons_zero, List.set_cons_succ]
        refine pv_iload (pc := 84) (i := 11) rfl (fm_dec dtX0_lossAhead 50 rfl) ?_
        refine pv_iconst (pc := 86) (v := (-1)) (by decide) (fm_dec dtX0_lossAhead 51 rfl) ?_
        refine pv_icmp_ne (pc := 87) 94 (by decide) (fm_dec dtX0_lossAhead 52 rfl) (fun hc87 => ?_) (fun hc87 => ?_)
        · have hne9 : ¬ agP S i wk k = -1 := (fun e => hc87 (i32_ext (hagP.trans (by rw [e]; decide))))
          refine pv_iload (pc := 94) (i := 11) rfl (fm_dec dtX0_lossAhead 55 rfl) ?_
          refine pv_iconst (pc := 96) (v := 1) (by decide) (fm_dec dtX0_lossAhead 56 rfl) ?_
          refine pv_iadd (pc := 97) (fm_dec dtX0_lossAhead 57 rfl) ?_
          refine pv_istore (pc := 98) (i := 11) (by decide) rfl (fm_dec dtX0_lossAhead 58 rfl) ?_
          dsimp only [List.set_cons_zero, List.set_cons_succ]
          refine pv_iincc (pc := 100) 12 1 (by decide) rfl (by decide) rfl (fm_dec dtX0_lossAhead 59 rfl) ?_
          dsimp only [List.set_cons_zero, List.set_cons_succ]
          refine pv_goto (pc := 103) 29 (by decide) (fm_dec dtX0_lossAhead 60 rfl) ?_
          have s1 := jb_n hst hdd (by omega)
          have s2 := jb_n s1 (show r66.toInt = ((ccN D cs S i wk k : Nat) : Int) by rw [e66]; exact cb.1) (by show tcN D cs S i wk k ≤ _; omega)
          have s3 := jb_n (b := 64) (y := 64) hlo (by decide) (by omega)
          have s4 := ja_n s3 s2 (by show hnN D cs S i wk k * 64 + tcN D cs S i wk k ≤ _; omega)
          have s5 : ((64 : Int64) - dd).toInt = (((64 - (D.2.1 i 1).toNat) : Nat) : Int) := (by have z : (64 : Int64).toInt = 64 := (by decide); rw [Int64.toInt_sub, z, hdd]; exact (Int.bmod_eq_of_le (by omega) (by omega)).trans (by omega))
          have q8 := pe_7 (d := (D.2.1 i 1).toNat) (k := k + 1) (by omega)
          have e2 : (64 - (D.2.1 i 1).toNat) ^ (k + 1) = (64 - (D.2.1 i 1).toNat) ^ k * (64 - (D.2.1 i 1).toNat) := Nat.pow_succ _ _
          have s6 := jb_n hst s5 (by rw [← e2]; omega)
          rw [← e2] at s6
          rw [nI_succ1]
          exact ih (n - (k + 1)) (by omega) (k + 1) M66 _ _ _ (h.low g66 h66) (by omega) rfl s6 s4 (by rw [agW_s]; rw [if_neg hne9, sc_add (by have z1 : (1 : Int32).toInt = 1 := (by decide); omega) (by have z1 : (1 : Int32).toInt = 1 := (by decide); omega), hagP]; rfl) (fun kk j a => (g66 kk j a).trans (f1 kk j a)) (h66.trans f2) hq
        · have hm9 : agP S i wk k = -1 := (by rw [← hagP, hc87]; decide)
          refine pv_iconst (pc := 90) (v := (-1)) (by decide) (fm_dec dtX0_lossAhead 53 rfl) ?_
          refine pv_goto (pc := 91) 98 (by decide) (fm_dec dtX0_lossAhead 54 rfl) ?_
          refine pv_istore (pc := 98) (i := 11) (by decide) rfl (fm_dec dtX0_lossAhead 58 rfl) ?_
          dsimp only [List.set_cons_zero, List.set_cons_succ]
          refine pv_iincc (pc := 100) 12 1 (by decide) rfl (by decide) rfl (fm_dec dtX0_lossAhead 59 rfl) ?_
          dsimp only [List.set_cons_zero, List.set_cons_succ]
          refine pv_goto (pc := 103) 29 (by decide) (fm_dec dtX0_lossAhead 60 rfl) ?_
          have s1 := jb_n hst hdd (by omega)
          have s2 := jb_n s1 (show r66.toInt = ((ccN D cs S i wk k : Nat) : Int) by rw [e66]; exact cb.1) (by show tcN D cs S i wk k ≤ _; omega)
          have s3 := jb_n (b := 64) (y := 64) hlo (by decide) (by omega)
          have s4 := ja_n s3 s2 (by show hnN D cs S i wk k * 64 + tcN D cs S i wk k ≤ _; omega)
          have s5 : ((64 : Int64) - dd).toInt = (((64 - (D.2.1 i 1).toNat) : Nat) : Int) := (by have z : (64 : Int64).toInt = 64 := (by decide); rw [Int64.toInt_sub, z, hdd]; exact (Int.bmod_eq_of_le (by omega) (by omega)).trans (by omega))
          have q8 := pe_7 (d := (D.2.1 i 1).toNat) (k := k + 1) (by omega)
          have e2 : (64 - (D.2.1 i 1).toNat) ^ (k + 1) = (64 - (D.2.1 i 1).toNat) ^ k * (64 - (D.2.1 i 1).toNat) := Nat.pow_succ _ _
          have s6 := jb_n hst s5 (by rw [← e2]; omega)
          rw [← e2] at s6
          rw [nI_succ1]
          exact ih (n - (k + 1)) (by omega) (k + 1) M66 _ _ _ (h.low g66 h66) (by omega) rfl s6 s4 (by rw [agW_s]; rw [if_pos hm9]; decide) (fun kk j a => (g66 kk j a).trans (f1 kk j a)) (h66.trans f2) hq
      · refine pv_iconst (pc := 45) (v := 0) (by decide) (fm_dec dtX0_lossAhead 27 rfl) ?_
        refine pv_istore (pc := 46) (i := 11) (by decide) rfl (fm_dec dtX0_lossAhead 28 rfl) ?_
        dsimp only [List.set_cons_zero, List.set_cons_succ]
        have hbit : wk.testBit k = true := (by cases h9 : wk.testBit k with | true => rfl | false => exact absurd ((has8z wk hwk k (by omega)).mpr h9) hc42)
        have hagP : (0 : Int32).toInt = agP S i wk k := (by unfold agP; rw [if_pos hbit]; decide)
        refine pv_lload (pc := 48) (i := 9) rfl (fm_dec dtX0_lossAhead 29 rfl) ?_
        refine pv_ldc2 (pc := 50) pkc_X0_63 (fm_dec dtX0_lossAhead 30 rfl) ?_
        refine pv_lmul (pc := 53) (fm_dec dtX0_lossAhead 31 rfl) ?_
        refine pv_lload (pc := 54) (i := 7) rfl (fm_dec dtX0_lossAhead 32 rfl) ?_
        refine pv_lload (pc := 56) (i := 5) rfl (fm_dec dtX0_lossAhead 33 rfl) ?_
        refine pv_lmul (pc := 58) (fm_dec dtX0_lossAhead 34 rfl) ?_
        refine pv_aloadn (pc := 59) (n := 0) 0 rfl rfl (fm_dec dtX0_lossAhead 35 rfl) ?_
        refine pv_aloadn (pc := 60) (n := 1) 1 rfl rfl (fm_dec dtX0_lossAhead 36 rfl) ?_
        refine pv_iloadn (pc := 61) (n := 2) 2 rfl rfl (fm_dec dtX0_lossAhead 37 rfl) ?_
        refine pv_iload (pc := 62) (i := 12) rfl (fm_dec dtX0_lossAhead 38 rfl) ?_
        refine pv_iload (pc := 64) (i := 11) rfl (fm_dec dtX0_lossAhead 39 rfl) ?_
        refine pv_invV4 (k := 32) (d' := 3) (pc := 66) pcv_X0_84 (by decide) rfl (Nat.le_of_ble_eq_true rfl) (by decide) (fm_dec dtX0_lossAhead 40 rfl) ?_
        refine c_xcostG (w := S.1.1 + k) (ag := agP S i wk k) hD hX hL hs ho hi (by rw [sc_add (by have := hs.2.1; omega) (by have := hs.2.1; omega), hs.2.1, hk9]; omega) (by omega) hagP (by omega) (fun M66 r66 g66 h66 e66 => ?_)
        refine pv_then1 ?_
        refine pv_lmul (pc := 69) (fm_dec dtX0_lossAhead 41 rfl) ?_
        refine pv_ladd (pc := 70) (fm_dec dtX0_lossAhead 42 rfl) ?_
        refine pv_lstore (pc := 71) (i := 9) (by decide) rfl (fm_dec dtX0_lossAhead 43 rfl) ?_
        dsimp only [List.set_cons_zero, List.set_cons_succ]
        refine pv_lload (pc := 73) (i := 7) rfl (fm_dec dtX0_lossAhead 44 rfl) ?_
        refine pv_ldc2 (pc := 75) pkc_X0_63 (fm_dec dtX0_lossAhead 45 rfl) ?_
        refine pv_lload (pc := 78) (i := 5) rfl (fm_dec dtX0_lossAhead 46 rfl) ?_
        refine pv_lsub (pc := 80) (fm_dec dtX0_lossAhead 47 rfl) ?_
        refine pv_lmul (pc := 81) (fm_dec dtX0_lossAhead 48 rfl) ?_
        refine pv_lstore (pc := 82) (i := 7) (by decide) rfl (fm_dec dtX0_lossAhead 49 rfl) ?_
        dsimp only [List.set_cons_zero, List.set_cons_succ]
        refine pv_iload (pc := 84) (i := 11) rfl (fm_dec dtX0_lossAhead 50 rfl) ?_
        refine pv_iconst (pc := 86) (v := (-1)) (by decide) (fm_dec dtX0_lossAhead 51 rfl) ?_
        refine pv_icmp_ne (pc := 87) 94 (by decide) (fm_dec dtX0_lossAhead 52 rfl) (fun _ => ?_) (fun hc87 => by exfalso; revert hc87; decide)
        have hne9 : ¬ agP S i wk k = -1 := (by rw [← hagP]; decide)
        refine pv_iload (pc := 94) (i := 11) rfl (fm_dec dtX0_lossAhead 55 rfl) ?_
        refine pv_iconst (pc := 96) (v := 1) (by decide) (fm_dec dtX0_lossAhead 56 rfl) ?_
        refine pv_iadd (pc := 97) (fm_dec dtX0_lossAhead 57 rfl) ?_
        refine pv_istore (pc := 98) (i := 11) (by decide) rfl (fm_dec dtX0_lossAhead 58 rfl) ?_
        dsimp only [List.set_cons_zero, List.set_cons_succ]
        refine pv_iincc (pc := 100) 12 1 (by decide) rfl (by decide) rfl (fm_dec dtX0_lossAhead 59 rfl) ?_
        dsimp only [List.set_cons_zero, List.set_cons_succ]
        refine pv_goto (pc := 103) 29 (by decide) (fm_dec dtX0_lossAhead 60 rfl) ?_
        have s1 := jb_n hst hdd (by omega)
        have s2 := jb_n s1 (show r66.toInt = ((ccN D cs S i wk k : Nat) : Int) by rw [e66]; exact cb.1) (by show tcN D cs S i wk k ≤ _; omega)
        have s3 := jb_n (b := 64) (y := 64) hlo (by decide) (by omega)
        have s4 := ja_n s3 s2 (by show hnN D cs S i wk k * 64 + tcN D cs S i wk k ≤ _; omega)
        have s5 : ((64 : Int64) - dd).toInt = (((64 - (D.2.1 i 1).toNat) : Nat) : Int) := (by have z : (64 : Int64).toInt = 64 := (by decide); rw [Int64.toInt_sub, z, hdd]; exact (Int.bmod_eq_of_le (by omega) (by omega)).trans (by omega))
        have q8 := pe_7 (d := (D.2.1 i 1).toNat) (k := k + 1) (by omega)
        have e2 : (64 - (D.2.1 i 1).toNat) ^ (k + 1) = (64 - (D.2.1 i 1).toNat) ^ k * (64 - (D.2.1 i 1).toNat) := Nat.pow_succ _ _
        have s6 := jb_n hst s5 (by rw [← e2]; omega)
        rw [← e2] at s6
        rw [nI_succ1]
        exact ih (n - (k + 1)) (by omega) (k + 1) M66 _ _ _ (h.low g66 h66) (by omega) rfl s6 s4 (by rw [agW_s]; rw [if_neg hne9, ← hagP]; decide) (fun kk j a => (g66 kk j a).trans (f1 kk j a)) (h66.trans f2) hq
set_option maxRecDepth 20000 in
theorem c_xla {M : fmM} {Q : fmR → fmM → Prop} {D : dD} {cs : tC} {S : aS} {i n wk : Nat} (h : xAq M D cs S) (hi : i < D.1) (hn7n : n ≤ 7) (hwk : wk < 256) (hq : ∀ (M' : fmM) (r : Int64), (∀ k j, k ≠ 26 → M'.1 k j = M.1 k j) → M'.2 = M.2 → xAq M' D cs S → r.toInt = ((hnN D cs S i wk n : Nat) : Int) → Q (.inl (some (.long r))) M') : pvGood Tx 21 qX0_lossAhead [.ref 32, .ref 47, .int (nI i), .int (nI n), .int (nI wk)] M Q := by
  refine pvGood_of (Nat.le_of_ble_eq_true rfl) ?_
  show pvEv Tx 21 qX0_lossAhead 0 [some (.ref 32), some (.ref 47), some (.int (nI i)), some (.int (nI n)), some (.int (nI wk)), none, none, none, none, none, none, none, none] [] M Q
  have h9q := h
  obtain ⟨hD, hX, hL, hs, ho⟩ := h9q
  have d8 := hD.1
  have b1 := (hD.2.2.1 i hi).2.1
  have hi9 : (nI i).toInt = (i : Int) := nI_toInt (by omega)
  have g := ag_x hs hi
  have g5 : (M.1 5 i).toInt = D.2.1 i 1 := hX.2.1 i hi 1 (by decide)
  refine pv_aloadn (pc := 0) (n := 0) 0 rfl rfl (fm_dec dtX0_lossAhead 0 rfl) ?_
  refine pv_getR (k := 32) (j := 0) (ci := 0) (pc := 1) 3 rfl (by decide) pfl_X0_15 (by decide) rfl (by decide) (fm_dec dtX0_lossAhead 1 rfl) ?_
  refine pv_getR (k := 3) (j := 1) (ci := 8) (pc := 4) 5 rfl (by decide) pfl_X0_81 (by decide) rfl (by decide) (fm_dec dtX0_lossAhead 2 rfl) ?_
  refine pv_iloadn (pc := 7) (n := 2) 2 rfl rfl (fm_dec dtX0_lossAhead 3 rfl) ?_
  refine pv_iald (k := 5) (n := 8) (pc := 8) (by decide) rfl rfl (ix_in hi9 (by omega)) (fm_dec dtX0_lossAhead 4 rfl) ?_
  rw [i32_cl hi9]
  refine pv_i2l (pc := 9) (fm_dec dtX0_lossAhead 5 rfl) ?_
  refine pv_lstore (pc := 10) (i := 5) (by decide) rfl (fm_dec dtX0_lossAhead 6 rfl) ?_
  dsimp only [List.set_cons_zero, List.set_cons_succ]
  refine pv_lconst (pc := 12) (v := 1) (by decide) (fm_dec dtX0_lossAhead 7 rfl) ?_
  refine pv_lstore (pc := 13) (i := 7) (by decide) rfl (fm_dec dtX0_lossAhead 8 rfl) ?_
  dsimp only [List.set_cons_zero, List.set_cons_succ]
  refine pv_lconst (pc := 15) (v := 0) (by decide) (fm_dec dtX0_lossAhead 9 rfl) ?_
  refine pv_lstore (pc := 16) (i := 9) (by decide) rfl (fm_dec dtX0_lossAhead 10 rfl) ?_
  dsimp only [List.set_cons_zero, List.set_cons_succ]
  refine pv_aloadn (pc := 18) (n := 1) 1 rfl rfl (fm_dec dtX0_lossAhead 11 rfl) ?_
  refine pv_getR (k := 47) (j := 0) (ci := 6) (pc := 19) 48 rfl (by decide) pfl_X0_78 (by decide) rfl (by decide) (fm_dec dtX0_lossAhead 12 rfl) ?_
  refine pv_iloadn (pc := 22) (n := 2) 2 rfl rfl (fm_dec dtX0_lossAhead 13 rfl) ?_
  refine pv_iald (k := 48) (n := 8) (pc := 23) (by decide) rfl rfl (ix_in hi9 (by omega)) (fm_dec dtX0_lossAhead 14 rfl) ?_
  rw [i32_cl hi9]
  refine pv_istore (pc := 24) (i := 11) (by decide) rfl (fm_dec dtX0_lossAhead 15 rfl) ?_
  dsimp only [List.set_cons_zero, List.set_cons_succ]
  refine pv_iconst (pc := 26) (v := 0) (by decide) (fm_dec dtX0_lossAhead 16 rfl) ?_
  refine pv_istore (pc := 27) (i := 12) (by decide) rfl (fm_dec dtX0_lossAhead 17 rfl) ?_
  dsimp only [List.set_cons_zero, List.set_cons_succ]
  exact (xla_loop hi hn7n hwk (by rw [Int32.toInt_toInt64, g5]; omega) n 0 M _ _ _ h (Nat.zero_le _) rfl (by show (1 : Int64).toInt = ((1 : Nat) : Int); decide) (by show (0 : Int64).toInt = ((0 : Nat) : Int); decide) g (fun _ _ _ => rfl) rfl hq).up (by decide)
def exV (D : dD) (cs : tC) (S : aS) (i n : Nat) (p : Int32) : Int64 := if S.1.2.2.1.testBit i then frV 0 64 p else frV (jZ ((hnN D cs S i 0 n : Nat) : Int)) (pwS 64 (n + 1)) p
theorem hn_j {D : dD} {cs : tC} {S : aS} {i wk n : Nat} (hD : dOk D) (hi : i < D.1) (h : n ≤ 7) : (jZ ((hnN D cs S i wk n : Nat) : Int)).toInt = ((hnN D cs S i wk n : Nat) : Int) := by
  have hb := hn_b (cs := cs) (S := S) (wk := wk) hD hi n
  have p7 := p64_7 h
  unfold jZ
  rw [Int64.toInt_ofInt, show Int64.size = 18446744073709551616 from rfl]
  exact Int.bmod_eq_of_le (by omega) (by omega)
set_option maxRecDepth 20000 in
theorem c_xexpects {M : fmM} {Q : fmR → fmM → Prop} {D : dD} {cs : tC} {S : aS} {x y p : Int32} (h : xAq M D cs S) (hn1 : ¬ inL D x → Q (.inr fmNSE) (fmI M 0 15 (M.1 0 15 + 1))) (hn2 : inL D x → ¬ (inW y 0 7 ∧ inW p 0 1) → Q (.inr fmIAE) (fmI M 0 16 (M.1 0 16 + 1))) (hq : inL D x → inW y 0 7 ∧ inW p 0 1 → ∀ M' : fmM, Q (.inl (some (.long (exV D cs S x.toInt.toNat y.toInt.toNat p)))) M') : pvGood Tx 41 qX10_expects [.ref 0, .int x, .int y, .int p] M Q := by
  refine pvGood_of (Nat.le_of_ble_eq_true rfl) ?_
  show pvEv Tx 41 qX10_expects 0 [some (.ref 0), some (.int x), some (.int y), some (.int p)] [] M Q
  have hxq := h
  obtain ⟨hD, hX, hL, hs, ho⟩ := h
  have d8 := hD.1
  have hl9 : (M.1 3 9).toInt = (D.1 : Int) := hX.1.1
  refine pv_aloadn (pc := 0) (n := 0) 0 rfl rfl (fm_dec dtX10_expects 0 rfl) ?_
  refine pv_iloadn (pc := 1) (n := 1) 1 rfl rfl (fm_dec dtX10_expects 1 rfl) ?_
  refine pv_invV1 (k := 0) (d' := 0) (pc := 2) pcv_X10_197 (by decide) rfl (Nat.le_of_ble_eq_true rfl) (by decide) (fm_dec dtX10_expects 2 rfl) ?_
  refine c_needL (fun h2a h2b => ?_) (fun h2 => ?_)
  · refine pv_then0 ?_
    have hn : inL D x := ⟨h2a, by omega⟩
    obtain ⟨i, hi, rfl, ei⟩ := hn.n hD
    rw [ei] at hq
    have hi9 : (nI i).toInt = (i : Int) := nI_toInt (by omega)
    have hi8 : i < 8 := (by omega)
    refine pv_aloadn (pc := 5) (n := 0) 0 rfl rfl (fm_dec dtX10_expects 3 rfl) ?_
    refine pv_iloadn (pc := 6) (n := 2) 2 rfl rfl (fm_dec dtX10_expects 4 rfl) ?_
    refine pv_iconst (pc := 7) (v := 0) (by decide) (fm_dec dtX10_expects 5 rfl) ?_
    refine pv_bipush (pc := 8) (v := 7) (by decide) (fm_dec dtX10_expects 6 rfl) ?_
    refine pv_invV3 (k := 0) (d' := 0) (pc := 10) pcv_X10_169 (by decide) rfl (Nat.le_of_ble_eq_true rfl) (by decide) (fm_dec dtX10_expects 7 rfl) ?_
    refine c_needW (fun h10a h10b => ?_) (fun h10 => ?_)
    · refine pv_then0 ?_
      refine pv_aloadn (pc := 13) (n := 0) 0 rfl rfl (fm_dec dtX10_expects 8 rfl) ?_
      refine pv_iloadn (pc := 14) (n := 3) 3 rfl rfl (fm_dec dtX10_expects 9 rfl) ?_
      refine pv_invV1 (k := 0) (d' := 1) (pc := 15) pcv_X10_244 (by decide) rfl (Nat.le_of_ble_eq_true rfl) (by decide) (fm_dec dtX10_expects 10 rfl) ?_
      refine c_needP (fun h15 => ?_) (fun h15 => ?_)
      · refine pv_then0 ?_
        have hP : inW y 0 7 ∧ inW p 0 1 := ⟨⟨h10a, h10b⟩, h15⟩
        obtain ⟨n, hn8, rfl, ey⟩ : ∃ n : Nat, n ≤ 7 ∧ y = nI n ∧ y.toInt.toNat = n := (by have z0 : (0 : Int32).toInt = 0 := (by decide); have z8 : (7 : Int32).toInt = 7 := (by decide); exact ⟨y.toInt.toNat, by omega, nI_is (by omega) (by omega), rfl⟩)
        rw [ey] at hq
        have hn9 : (nI n).toInt = (n : Int) := nI_toInt (by omega)
        refine pv_aloadn (pc := 18) (n := 0) 0 rfl rfl (fm_dec dtX10_expects 11 rfl) ?_
        refine pv_getR (k := 0) (j := 9) (ci := 10) (pc := 19) 46 rfl (by decide) pfl_X10_75 (by decide) rfl (by decide) (fm_dec dtX10_expects 12 rfl) ?_
        refine pv_getR (k := 46) (j := 0) (ci := 5) (pc := 22) 47 rfl (by decide) pfl_X10_90 (by decide) rfl (by decide) (fm_dec dtX10_expects 13 rfl) ?_
        refine pv_iloadn (pc := 25) (n := 1) 1 rfl rfl (fm_dec dtX10_expects 14 rfl) ?_
        refine pv_invV1 (k := 47) (d' := 0) (pc := 26) pcv_X10_215 (by decide) rfl (Nat.le_of_ble_eq_true rfl) (by decide) (fm_dec dtX10_expects 15 rfl) ?_
        refine c_xaliv hs ho hi8 ?_
        refine pv_then1 ?_
        refine pv_if_ne (pc := 29) 39 (by decide) (fm_dec dtX10_expects 16 rfl) (fun hc29 => ?_) (fun hc29 => ?_)
        · refine pv_aloadn (pc := 39) (n := 0) 0 rfl rfl (fm_dec dtX10_expects 22 rfl) ?_
          refine pv_getR (k := 0) (j := 6) (ci := 10) (pc := 40) 32 rfl (by decide) pfl_X10_52 (by decide) rfl (by decide) (fm_dec dtX10_expects 23 rfl) ?_
          refine pv_aloadn (pc := 43) (n := 0) 0 rfl rfl (fm_dec dtX10_expects 24 rfl) ?_
          refine pv_getR (k := 0) (j := 9) (ci := 10) (pc := 44) 46 rfl (by decide) pfl_X10_75 (by decide) rfl (by decide) (fm_dec dtX10_expects 25 rfl) ?_
          refine pv_getR (k := 46) (j := 0) (ci := 5) (pc := 47) 47 rfl (by decide) pfl_X10_90 (by decide) rfl (by decide) (fm_dec dtX10_expects 26 rfl) ?_
          refine pv_iloadn (pc := 50) (n := 1) 1 rfl rfl (fm_dec dtX10_expects 27 rfl) ?_
          refine pv_iloadn (pc := 51) (n := 2) 2 rfl rfl (fm_dec dtX10_expects 28 rfl) ?_
          refine pv_iconst (pc := 52) (v := 0) (by decide) (fm_dec dtX10_expects 29 rfl) ?_
          refine pv_invV4 (k := 32) (d' := 21) (pc := 53) pcv_X10_286 (by decide) rfl (Nat.le_of_ble_eq_true rfl) (by decide) (fm_dec dtX10_expects 30 rfl) ?_
          refine c_xla (wk := 0) hxq hi hn8 (by decide) (fun M53 r53 g53 h53 q53 e53 => ?_)
          refine pv_then1 ?_
          refine pv_lconst (pc := 56) (v := 1) (by decide) (fm_dec dtX10_expects 31 rfl) ?_
          refine pv_bipush (pc := 57) (v := 6) (by decide) (fm_dec dtX10_expects 32 rfl) ?_
          refine pv_iloadn (pc := 59) (n := 2) 2 rfl rfl (fm_dec dtX10_expects 33 rfl) ?_
          refine pv_iconst (pc := 60) (v := 1) (by decide) (fm_dec dtX10_expects 34 rfl) ?_
          refine pv_iadd (pc := 61) (fm_dec dtX10_expects 35 rfl) ?_
          rw [nI_succ1]
          refine pv_imul (pc := 62) (fm_dec dtX10_expects 36 rfl) ?_
          refine pv_lshl (pc := 63) (fm_dec dtX10_expects 37 rfl) ?_
          rw [pw_64 (n + 1) (by omega), jZ_is e53]
          refine pv_iloadn (pc := 64) (n := 3) 3 rfl rfl (fm_dec dtX10_expects 38 rfl) ?_
          refine pv_iS3 (d' := 0) (pc := 65) pcs_X10_253 (Nat.le_of_ble_eq_true rfl) (by decide) (fm_dec dtX10_expects 39 rfl) ?_
          refine c_xterm (by rw [hn_j hD hi hn8]; exact Int.natCast_nonneg _) (pw_p (by omega)) ?_
          refine pv_then1 ?_
          exact pv_lreturn (pc := 68) rfl (fm_dec dtX10_expects 40 rfl) (by have h9 := hq hn hP M53; unfold exV at h9; rw [if_neg (by rw [al_n hc29]; decide)] at h9; exact h9)
        · refine pv_lconst (pc := 32) (v := 0) (by decide) (fm_dec dtX10_expects 17 rfl) ?_
          refine pv_lconst (pc := 33) (v := 1) (by decide) (fm_dec dtX10_expects 18 rfl) ?_
          refine pv_iloadn (pc := 34) (n := 3) 3 rfl rfl (fm_dec dtX10_expects 19 rfl) ?_
          refine pv_iS3 (d' := 0) (pc := 35) pcs_X10_253 (Nat.le_of_ble_eq_true rfl) (by decide) (fm_dec dtX10_expects 20 rfl) ?_
          refine c_xterm (by decide) (by decide) ?_
          refine pv_then1 ?_
          exact pv_lreturn (pc := 38) rfl (fm_dec dtX10_expects 21 rfl) (by have h9 := hq hn hP M; unfold exV at h9; rw [if_pos (al_b hc29), ← frV_z] at h9; exact h9)
      · refine pv_thenX ?_
        first | exact hn2 hn (fun h9 => h10 h9.1) | exact hn2 hn (fun h9 => h15 h9.2) | exact hn1 (fun h8 => h2 ⟨h8.1, by have := h8.2; omega⟩)
    · refine pv_thenX ?_
      first | exact hn2 hn (fun h9 => h10 h9.1) | exact hn2 hn (fun h9 => h15 h9.2) | exact hn1 (fun h8 => h2 ⟨h8.1, by have := h8.2; omega⟩)
  · refine pv_thenX ?_
    first | exact hn2 hn (fun h9 => h10 h9.1) | exact hn2 hn (fun h9 => h15 h9.2) | exact hn1 (fun h8 => h2 ⟨h8.1, by have := h8.2; omega⟩)
theorem pw_i {a : Int64} {b n : Nat} (ha : a.toInt = (b : Int)) (hb : b ≤ 64) (hn : n ≤ 9) : (pwS a n).toInt = ((b ^ n : Nat) : Int) := pw_b ha hb n hn
theorem od_x {x : Int32} {d : Int} (h : x.toInt = d) (h0 : 0 ≤ d) (h1 : d ≤ 64) : (64 : Int64) - x.toInt64 = jZ (64 - d) ∧ ((64 : Int32) - x).toInt64 = jZ (64 - d) ∧ (jZ (64 - d)).toInt = ((64 - d.toNat : Nat) : Int) := by
  have z64 : (64 : Int64).toInt = 64 := by decide
  have z32 : (64 : Int32).toInt = 64 := by decide
  have e1 : ((64 : Int64) - x.toInt64).toInt = 64 - d := by
    rw [Int64.toInt_sub, Int32.toInt_toInt64, h, z64]
    exact Int.bmod_eq_of_le (by omega) (by omega)
  have e2 : ((64 : Int32) - x).toInt64.toInt = 64 - d := by
    rw [Int32.toInt_toInt64, sc_sub (by omega) (by omega)]
    omega
  have e3 := jZ_is e1
  refine ⟨e3, jZ_is e2, ?_⟩
  rw [← e3, e1]
  omega
set_option maxRecDepth 20000 in
theorem mex_loop {Q : fmR → fmM → Prop} {D : dD} {cs : tC} {S : aS} {i n : Nat} {p d : Int32} (hi : i < D.1) (hn8 : n ≤ 7) (hdd : d.toInt = D.2.1 i 1) (hal : S.1.2.2.1.testBit i = false) : ∀ (m : Nat) (k : Nat) (M : fmM) (su : Int64), (mAq M D cs S ∧ M.1 0 0 = 0) → k ≤ n → n - k = m → su.toInt = ((hnN D cs S i 0 k * 64 ^ (n - k) : Nat) : Int) → (∀ M' : fmM, M'.1 0 0 = 0 → Q (.inl (some (.long (frV (jZ ((hnN D cs S i 0 n : Nat) : Int)) (pwS 64 (n + 1)) p)))) M') → pvEv Tm 40 qX11_expects 78 [some (.ref 0), some (.int (nI i)), some (.int (nI n)), some (.int p), some (.long su), none, some (.int d), some (.int (nI k))] [] M Q := by
  intro m
  induction m using Nat.strongRecOn with
  | _ m ih =>
    intro k M su h hkn0 hm hsu hq
    have h9q := h.1
    obtain ⟨hD, hY, hM, hd, ht, ho⟩ := h9q
    have d8 := hD.1
    have b1 := (hD.2.2.1 i hi).2.1
    have hi9 : (nI i).toInt = (i : Int) := nI_toInt (by omega)
    have hi8 : i < 8 := by omega
    have h1i := one_i hi8
    have hk9 : (nI k).toInt = (k : Int) := nI_toInt (by omega)
    have hn9 : (nI n).toInt = (n : Int) := nI_toInt (by omega)
    have g10 : (M.1 7 (Int32.toNatClampNeg 10)).toInt = (S.1.1 : Int) := ht.2.1
    have e0 : M.1 7 (Int32.toNatClampNeg 0) = nI S.1.2.2.1 := nI_is ht.1 (by have := ho.2.2.1; omega)
    refine pv_iload (pc := 78) (i := 7) rfl (fm_dec dtX11_expects 46 rfl) ?_
    refine pv_iloadn (pc := 80) (n := 2) 2 rfl rfl (fm_dec dtX11_expects 47 rfl) ?_
    refine pv_icmp_ge (pc := 81) 165 (by decide) (fm_dec dtX11_expects 48 rfl) (fun hc81 => ?_) (fun hc81 => ?_)
    · have e9 : k = n := (by rw [sc_le] at hc81; omega)
      subst e9
      have hsun : su.toInt = ((hnN D cs S i 0 k : Nat) : Int) := (by rw [hsu, Nat.sub_self, Nat.pow_zero, Nat.mul_one])
      refine pv_lload (pc := 165) (i := 4) rfl (fm_dec dtX11_expects 97 rfl) ?_
      refine pv_ldc2 (pc := 167) pkc_X11_343 (fm_dec dtX11_expects 98 rfl) ?_
      refine pv_iloadn (pc := 170) (n := 2) 2 rfl rfl (fm_dec dtX11_expects 99 rfl) ?_
      refine pv_iconst (pc := 171) (v := 1) (by decide) (fm_dec dtX11_expects 100 rfl) ?_
      refine pv_iadd (pc := 172) (fm_dec dtX11_expects 101 rfl) ?_
      rw [nI_succ1]
      refine pv_iS2 (d' := 1) (pc := 173) pcs_X11_365 (Nat.le_of_ble_eq_true rfl) (by decide) (fm_dec dtX11_expects 102 rfl) ?_
      refine c_mpow (N := k + 1) (nI_toInt (by omega)) (by omega) ?_
      refine pv_then1 ?_
      refine pv_iloadn (pc := 176) (n := 3) 3 rfl rfl (fm_dec dtX11_expects 103 rfl) ?_
      refine pv_iS3 (d' := 0) (pc := 177) pcs_X11_345 (Nat.le_of_ble_eq_true rfl) (by decide) (fm_dec dtX11_expects 104 rfl) ?_
      refine c_mterm (by rw [hsun]; exact Int.natCast_nonneg _) (pw_p (by omega)) ?_
      refine pv_then1 ?_
      exact pv_lreturn (pc := 180) rfl (fm_dec dtX11_expects 105 rfl) (by rw [jZ_is hsun]; exact hq M h.2)
    · have hkn : k < n := (by rw [sc_le] at hc81; omega)
      have cb := cc_b (cs := cs) (S := S) (wk := 0) (k := k) hD hi
      have hb := hn_b (cs := cs) (S := S) (wk := 0) hD hi k
      have hb2 := hn_b (cs := cs) (S := S) (wk := 0) hD hi (k + 1)
      have q7 := pe_7 (d := (D.2.1 i 1).toNat) (k := k) (by omega)
      have pb := agP_b (wk := 0) (k := k) ho hi
      have w2 := ho.1
      have ab := ag_b ho hi
      have ehn : hnN D cs S i 0 (k + 1) = hnN D cs S i 0 k * 64 + tcN D cs S i 0 k := rfl
      have p7 := p64_7 (k := n) (by omega)
      have t1 : (64 - (D.2.1 i 1).toNat) ^ k * (D.2.1 i 1).toNat ≤ 4398046511104 * 64 := Nat.mul_le_mul q7 (by omega)
      have pp : (64 : Nat) ^ (k + 1) * 64 ^ (n - 1 - k) = 64 ^ n := (by rw [← Nat.pow_add]; congr 1; omega)
      have pk : (64 : Nat) ^ k * 64 ^ (n - k) = 64 ^ n := (by rw [← Nat.pow_add]; congr 1; omega)
      have b8 : hnN D cs S i 0 (k + 1) * 64 ^ (n - 1 - k) ≤ 57024 * 64 ^ n := (by have h8 : hnN D cs S i 0 (k + 1) * 64 ^ (n - 1 - k) ≤ 57024 * 64 ^ (k + 1) * 64 ^ (n - 1 - k) := Nat.mul_le_mul_right _ (by omega); rw [Nat.mul_assoc, pp] at h8; exact h8)
      have b7 : tcN D cs S i 0 k * 64 ^ (n - 1 - k) ≤ hnN D cs S i 0 (k + 1) * 64 ^ (n - 1 - k) := Nat.mul_le_mul_right _ (by omega)
      have b6 : tcN D cs S i 0 k ≤ 57024 * 64 ^ (k + 1) := (by omega)
      have p8 := p64_7 (k := k + 1) (by omega)
      have hpk : hnN D cs S i 0 k * 64 ^ (n - k) = hnN D cs S i 0 k * 64 * 64 ^ (n - 1 - k) := (by rw [Nat.mul_assoc, ← Nat.pow_succ']; congr 2; omega)
      have hsm : hnN D cs S i 0 k * 64 ^ (n - k) + tcN D cs S i 0 k * 64 ^ (n - 1 - k) = hnN D cs S i 0 (k + 1) * 64 ^ (n - (k + 1)) := (by rw [hpk, ← Nat.add_mul, ← ehn]; congr 2; omega)
      refine pv_aloadn (pc := 84) (n := 0) 0 rfl rfl (fm_dec dtX11_expects 49 rfl) ?_
      refine pv_getR (k := 0) (j := 27) (ci := 11) (pc := 85) 7 rfl (by decide) pfl_X11_61 (by decide) rfl (by decide) (fm_dec dtX11_expects 50 rfl) ?_
      refine pv_iconst (pc := 88) (v := 0) (by decide) (fm_dec dtX11_expects 51 rfl) ?_
      refine pv_iald (k := 7) (n := 14) (pc := 89) (by decide) rfl rfl (fm_inl (by decide)) (fm_dec dtX11_expects 52 rfl) ?_
      refine pv_iloadn (pc := 90) (n := 1) 1 rfl rfl (fm_dec dtX11_expects 53 rfl) ?_
      refine pv_iS2 (d' := 0) (pc := 91) pcs_X11_256 (Nat.le_of_ble_eq_true rfl) (by decide) (fm_dec dtX11_expects 54 rfl) ?_
      refine c_has (fun h91 => absurd ((has8 _ ho.2.2.1 i hi8).mp (by rw [← e0]; exact h91)) (by rw [hal]; decide)) (fun h91 => ?_) 
      refine pv_then1 ?_
      refine pv_if_ne (pc := 94) 165 (by decide) (fm_dec dtX11_expects 55 rfl) (fun hc94 => by exfalso; revert hc94; decide) (fun _ => ?_)
      refine pv_lload (pc := 97) (i := 4) rfl (fm_dec dtX11_expects 56 rfl) ?_
      refine pv_bipush (pc := 99) (v := 64) (by decide) (fm_dec dtX11_expects 57 rfl) ?_
      refine pv_iload (pc := 101) (i := 6) rfl (fm_dec dtX11_expects 58 rfl) ?_
      refine pv_isub (pc := 103) (fm_dec dtX11_expects 59 rfl) ?_
      refine pv_i2l (pc := 104) (fm_dec dtX11_expects 60 rfl) ?_
      rw [(od_x hdd (by omega) (by omega)).2.1]
      refine pv_iload (pc := 105) (i := 7) rfl (fm_dec dtX11_expects 61 rfl) ?_
      refine pv_iS2 (d' := 1) (pc := 107) pcs_X11_365 (Nat.le_of_ble_eq_true rfl) (by decide) (fm_dec dtX11_expects 62 rfl) ?_
      refine c_mpow (N := k) hk9 (by omega) ?_
      refine pv_then1 ?_
      refine pv_iload (pc := 110) (i := 6) rfl (fm_dec dtX11_expects 63 rfl) ?_
      refine pv_i2l (pc := 112) (fm_dec dtX11_expects 64 rfl) ?_
      refine pv_lmul (pc := 113) (fm_dec dtX11_expects 65 rfl) ?_
      refine pv_aloadn (pc := 114) (n := 0) 0 rfl rfl (fm_dec dtX11_expects 66 rfl) ?_
      refine pv_aloadn (pc := 115) (n := 0) 0 rfl rfl (fm_dec dtX11_expects 67 rfl) ?_
      refine pv_getR (k := 0) (j := 27) (ci := 11) (pc := 116) 7 rfl (by decide) pfl_X11_61 (by decide) rfl (by decide) (fm_dec dtX11_expects 68 rfl) ?_
      refine pv_iloadn (pc := 119) (n := 1) 1 rfl rfl (fm_dec dtX11_expects 69 rfl) ?_
      refine pv_aloadn (pc := 120) (n := 0) 0 rfl rfl (fm_dec dtX11_expects 70 rfl) ?_
      refine pv_getR (k := 0) (j := 27) (ci := 11) (pc := 121) 7 rfl (by decide) pfl_X11_61 (by decide) rfl (by decide) (fm_dec dtX11_expects 71 rfl) ?_
      refine pv_iconst (pc := 124) (v := 1) (by decide) (fm_dec dtX11_expects 72 rfl) ?_
      refine pv_iloadn (pc := 125) (n := 1) 1 rfl rfl (fm_dec dtX11_expects 73 rfl) ?_
      refine pv_iadd (pc := 126) (fm_dec dtX11_expects 74 rfl) ?_
      refine pv_iald (k := 7) (n := 14) (pc := 127) (by decide) rfl rfl (ix_in h1i (by omega)) (fm_dec dtX11_expects 75 rfl) ?_
      rw [i32_cl h1i]
      refine pv_aloadn (pc := 128) (n := 0) 0 rfl rfl (fm_dec dtX11_expects 76 rfl) ?_
      refine pv_getR (k := 0) (j := 27) (ci := 11) (pc := 129) 7 rfl (by decide) pfl_X11_61 (by decide) rfl (by decide) (fm_dec dtX11_expects 77 rfl) ?_
      refine pv_bipush (pc := 132) (v := 10) (by decide) (fm_dec dtX11_expects 78 rfl) ?_
      refine pv_iald (k := 7) (n := 14) (pc := 134) (by decide) rfl rfl (fm_inl (by decide)) (fm_dec dtX11_expects 79 rfl) ?_
      refine pv_iload (pc := 135) (i := 7) rfl (fm_dec dtX11_expects 80 rfl) ?_
      refine pv_iadd (pc := 137) (fm_dec dtX11_expects 81 rfl) ?_
      refine pv_invV4 (k := 0) (d' := 6) (pc := 138) pcv_X11_280 (by decide) rfl (Nat.le_of_ble_eq_true rfl) (by decide) (fm_dec dtX11_expects 82 rfl) ?_
      refine c_mcoG (ag := agP S i 0 k) (wN := S.1.1 + k) hD hY hM hd ht ho hi (by rw [sc_add (by rw [g10]; omega) (by rw [g10]; omega), g10, hk9]; omega) (by omega) (by rw [agP_0, agW_0 ho hi]; have g := ht.2.2.2.2.2.2 i hi; by_cases e : S.2 i = -1; (rw [if_pos e] at g; rw [if_pos e, if_pos rfl]; exact g); (rw [if_neg e] at g; rw [if_neg e, if_neg (by omega)]; rw [g]; omega)) (by omega) (fun M138 r138 g138 h138 e138 => ?_)
      refine pv_then1 ?_
      refine pv_i2l (pc := 141) (fm_dec dtX11_expects 83 rfl) ?_
      refine pv_lmul (pc := 142) (fm_dec dtX11_expects 84 rfl) ?_
      refine pv_ldc2 (pc := 143) pkc_X11_343 (fm_dec dtX11_expects 85 rfl) ?_
      refine pv_iloadn (pc := 146) (n := 2) 2 rfl rfl (fm_dec dtX11_expects 86 rfl) ?_
      refine pv_iconst (pc := 147) (v := 1) (by decide) (fm_dec dtX11_expects 87 rfl) ?_
      refine pv_isub (pc := 148) (fm_dec dtX11_expects 88 rfl) ?_
      refine pv_iload (pc := 149) (i := 7) rfl (fm_dec dtX11_expects 89 rfl) ?_
      refine pv_isub (pc := 151) (fm_dec dtX11_expects 90 rfl) ?_
      rw [show nI n - 1 - nI k = nI (n - 1 - k) from nI_is (by have z1 : (1 : Int32).toInt = 1 := (by decide); rw [sc_sub (by rw [sc_sub (by omega) (by omega)]; omega) (by rw [sc_sub (by omega) (by omega)]; omega), sc_sub (by omega) (by omega)]; omega) (by omega)]
      refine pv_iS2 (d' := 1) (pc := 152) pcs_X11_365 (Nat.le_of_ble_eq_true rfl) (by decide) (fm_dec dtX11_expects 91 rfl) ?_
      refine c_mpow (N := n - 1 - k) (nI_toInt (by omega)) (by omega) ?_
      refine pv_then1 ?_
      refine pv_lmul (pc := 155) (fm_dec dtX11_expects 92 rfl) ?_
      refine pv_ladd (pc := 156) (fm_dec dtX11_expects 93 rfl) ?_
      refine pv_lstore (pc := 157) (i := 4) (by decide) rfl (fm_dec dtX11_expects 94 rfl) ?_
      dsimp only [List.set_cons_zero, List.set_cons_succ]
      refine pv_iincc (pc := 159) 7 1 (by decide) rfl (by decide) rfl (fm_dec dtX11_expects 95 rfl) ?_
      dsimp only [List.set_cons_zero, List.set_cons_succ]
      refine pv_goto (pc := 162) 78 (by decide) (fm_dec dtX11_expects 96 rfl) ?_
      have s0 := (pw_i (od_x hdd (by omega) (by omega)).2.2 (by omega) (show k ≤ 9 by omega))
      have sd : d.toInt64.toInt = (((D.2.1 i 1).toNat : Nat) : Int) := (by rw [Int32.toInt_toInt64, hdd]; omega)
      have s1 := jb_n s0 sd (by omega)
      have s2 := jb_n s1 (show r138.toInt64.toInt = ((ccN D cs S i 0 k : Nat) : Int) by rw [Int32.toInt_toInt64, e138]; exact cb.1) (by show tcN D cs S i 0 k ≤ _; omega)
      have s3 := pw_i (a := 64) (b := 64) (by decide) (by decide) (show n - 1 - k ≤ 9 by omega)
      have s4 := jb_n s2 s3 (by show tcN D cs S i 0 k * 64 ^ (n - 1 - k) ≤ _; omega)
      have s5 := ja_n hsu s4 (by show hnN D cs S i 0 k * 64 ^ (n - k) + tcN D cs S i 0 k * 64 ^ (n - 1 - k) ≤ _; rw [hsm, show n - (k + 1) = n - 1 - k by omega]; omega)
      rw [nI_succ1]
      exact ih (n - (k + 1)) (by omega) (k + 1) M138 _ ⟨h.1.low (fun k j _ a b => g138 k j a b) (g138 0 17 (by decide) (by decide)), (g138 0 0 (by decide) (by decide)).trans h.2⟩ (by omega) rfl (by rw [← hsm]; exact s5) hq
set_option maxRecDepth 20000 in
theorem mex_dead {Q : fmR → fmM → Prop} {M : fmM} {D : dD} {cs : tC} {S : aS} {i n : Nat} {p d : Int32} (h : mAq M D cs S) (hi : i < D.1) (hn8 : n ≤ 7) (hal : S.1.2.2.1.testBit i = true) (hq : Q (.inl (some (.long (frV 0 64 p)))) M) : pvEv Tm 40 qX11_expects 78 [some (.ref 0), some (.int (nI i)), some (.int (nI n)), some (.int p), some (.long 0), none, some (.int d), some (.int 0)] [] M Q := by
  obtain ⟨hD, hY, hM, hd, ht, ho⟩ := h
  have d8 := hD.1
  have hi9 : (nI i).toInt = (i : Int) := nI_toInt (by omega)
  have hi8 : i < 8 := (by omega)
  have hn9 : (nI n).toInt = (n : Int) := nI_toInt (by omega)
  have e0 : M.1 7 (Int32.toNatClampNeg 0) = nI S.1.2.2.1 := nI_is ht.1 (by have := ho.2.2.1; omega)
  refine pv_iload (pc := 78) (i := 7) rfl (fm_dec dtX11_expects 46 rfl) ?_
  refine pv_iloadn (pc := 80) (n := 2) 2 rfl rfl (fm_dec dtX11_expects 47 rfl) ?_
  refine pv_icmp_ge (pc := 81) 165 (by decide) (fm_dec dtX11_expects 48 rfl) (fun hc81 => ?_) (fun hc81 => ?_)
  · refine pv_lload (pc := 165) (i := 4) rfl (fm_dec dtX11_expects 97 rfl) ?_
    refine pv_ldc2 (pc := 167) pkc_X11_343 (fm_dec dtX11_expects 98 rfl) ?_
    refine pv_iloadn (pc := 170) (n := 2) 2 rfl rfl (fm_dec dtX11_expects 99 rfl) ?_
    refine pv_iconst (pc := 171) (v := 1) (by decide) (fm_dec dtX11_expects 100 rfl) ?_
    refine pv_iadd (pc := 172) (fm_dec dtX11_expects 101 rfl) ?_
    rw [nI_succ1]
    refine pv_iS2 (d' := 1) (pc := 173) pcs_X11_365 (Nat.le_of_ble_eq_true rfl) (by decide) (fm_dec dtX11_expects 102 rfl) ?_
    refine c_mpow (N := n + 1) (nI_toInt (by omega)) (by omega) ?_
    refine pv_then1 ?_
    refine pv_iloadn (pc := 176) (n := 3) 3 rfl rfl (fm_dec dtX11_expects 103 rfl) ?_
    refine pv_iS3 (d' := 0) (pc := 177) pcs_X11_345 (Nat.le_of_ble_eq_true rfl) (by decide) (fm_dec dtX11_expects 104 rfl) ?_
    refine c_mterm (by decide) (pw_p (by omega)) ?_
    refine pv_then1 ?_
    exact pv_lreturn (pc := 180) rfl (fm_dec dtX11_expects 105 rfl) (by rw [frV_zn (by omega)]; exact hq)
  · refine pv_aloadn (pc := 84) (n := 0) 0 rfl rfl (fm_dec dtX11_expects 49 rfl) ?_
    refine pv_getR (k := 0) (j := 27) (ci := 11) (pc := 85) 7 rfl (by decide) pfl_X11_61 (by decide) rfl (by decide) (fm_dec dtX11_expects 50 rfl) ?_
    refine pv_iconst (pc := 88) (v := 0) (by decide) (fm_dec dtX11_expects 51 rfl) ?_
    refine pv_iald (k := 7) (n := 14) (pc := 89) (by decide) rfl rfl (fm_inl (by decide)) (fm_dec dtX11_expects 52 rfl) ?_
    refine pv_iloadn (pc := 90) (n := 1) 1 rfl rfl (fm_dec dtX11_expects 53 rfl) ?_
    refine pv_iS2 (d' := 0) (pc := 91) pcs_X11_256 (Nat.le_of_ble_eq_true rfl) (by decide) (fm_dec dtX11_expects 54 rfl) ?_
    refine c_has (fun h91 => ?_) (fun h91 => absurd (by rw [e0]; exact (has8 _ ho.2.2.1 i hi8).mpr hal) h91) 
    refine pv_then1 ?_
    refine pv_if_ne (pc := 94) 165 (by decide) (fm_dec dtX11_expects 55 rfl) (fun _ => ?_) (fun hc94 => by exfalso; revert hc94; decide)
    refine pv_lload (pc := 165) (i := 4) rfl (fm_dec dtX11_expects 97 rfl) ?_
    refine pv_ldc2 (pc := 167) pkc_X11_343 (fm_dec dtX11_expects 98 rfl) ?_
    refine pv_iloadn (pc := 170) (n := 2) 2 rfl rfl (fm_dec dtX11_expects 99 rfl) ?_
    refine pv_iconst (pc := 171) (v := 1) (by decide) (fm_dec dtX11_expects 100 rfl) ?_
    refine pv_iadd (pc := 172) (fm_dec dtX11_expects 101 rfl) ?_
    rw [nI_succ1]
    refine pv_iS2 (d' := 1) (pc := 173) pcs_X11_365 (Nat.le_of_ble_eq_true rfl) (by decide) (fm_dec dtX11_expects 102 rfl) ?_
    refine c_mpow (N := n + 1) (nI_toInt (by omega)) (by omega) ?_
    refine pv_then1 ?_
    refine pv_iloadn (pc := 176) (n := 3) 3 rfl rfl (fm_dec dtX11_expects 103 rfl) ?_
    refine pv_iS3 (d' := 0) (pc := 177) pcs_X11_345 (Nat.le_of_ble_eq_true rfl) (by decide) (fm_dec dtX11_expects 104 rfl) ?_
    refine c_mterm (by decide) (pw_p (by omega)) ?_
    refine pv_then1 ?_
    exact pv_lreturn (pc := 180) rfl (fm_dec dtX11_expects 105 rfl) (by rw [frV_zn (by omega)]; exact hq)
set_option maxRecDepth 20000 in
theorem c_mexpects {M : fmM} {Q : fmR → fmM → Prop} {D : dD} {cs : tC} {S : aS} {x y p : Int32} (h : mAq M D cs S) (hn1 : ¬ inL D x → ∀ (z : Int64) (M' : fmM), M'.1 0 0 = 1 → Q (.inl (some (.long z))) M') (hn2 : inL D x → ¬ (inW y 0 7 ∧ inW p 0 1) → ∀ (z : Int64) (M' : fmM), M'.1 0 0 = 2 → Q (.inl (some (.long z))) M') (hq : inL D x → inW y 0 7 ∧ inW p 0 1 → ∀ M' : fmM, M'.1 0 0 = 0 → Q (.inl (some (.long (exV D cs S x.toInt.toNat y.toInt.toNat p)))) M') : pvGood Tm 41 qX11_expects [.ref 0, .int x, .int y, .int p] M Q := by
  refine pvGood_of (Nat.le_of_ble_eq_true rfl) ?_
  show pvEv Tm 41 qX11_expects 0 [some (.ref 0), some (.int x), some (.int y), some (.int p), none, none, none, none] [] M Q
  have hmq := h.z (x := 0)
  obtain ⟨hD, hY, hM, hd, ht, ho⟩ := hmq
  have d8 := hD.1
  have h4 : (M.1 4 0).toInt = (D.1 : Int) := hY.1
  have hl := hD.1
  refine pv_aloadn (pc := 0) (n := 0) 0 rfl rfl (fm_dec dtX11_expects 0 rfl) ?_
  refine pv_iconst (pc := 1) (v := 0) (by decide) (fm_dec dtX11_expects 1 rfl) ?_
  refine pv_putI (k := 0) (j := 0) (ci := 11) (pc := 2) pfl_X11_101 (by decide) rfl (by decide) (fm_dec dtX11_expects 2 rfl) ?_
  refine pv_aloadn (pc := 5) (n := 0) 0 rfl rfl (fm_dec dtX11_expects 3 rfl) ?_
  refine pv_aloadn (pc := 6) (n := 0) 0 rfl rfl (fm_dec dtX11_expects 4 rfl) ?_
  refine pv_iloadn (pc := 7) (n := 1) 1 rfl rfl (fm_dec dtX11_expects 5 rfl) ?_
  refine pv_invV1 (k := 0) (d' := 1) (pc := 8) pcv_X11_331 (by decide) rfl (Nat.le_of_ble_eq_true rfl) (by decide) (fm_dec dtX11_expects 6 rfl) ?_
  refine c_isLife (M := fmI M 0 0 0) h4 hl (fun k hk hkl => ?_) (fun hno => ?_)
  · refine pv_then1 ?_
    refine pv_if_ne (pc := 11) 18 (by decide) (fm_dec dtX11_expects 7 rfl) (fun _ => ?_) (fun hc11 => by exfalso; revert hc11; decide)
    refine pv_iconst (pc := 18) (v := 0) (by decide) (fm_dec dtX11_expects 10 rfl) ?_
    refine pv_iconst (pc := 19) (v := 1) (by decide) (fm_dec dtX11_expects 11 rfl) ?_
    refine pv_iconst (pc := 20) (v := 0) (by decide) (fm_dec dtX11_expects 12 rfl) ?_
    refine pv_invV3 (k := 0) (d' := 0) (pc := 21) pcv_X11_177 (by decide) rfl (Nat.le_of_ble_eq_true rfl) (by decide) (fm_dec dtX11_expects 13 rfl) ?_
    refine c_badF0 rfl ?_
    refine pv_then1 ?_
    refine pv_if_ne (pc := 24) 60 (by decide) (fm_dec dtX11_expects 14 rfl) (fun hc24 => by exfalso; revert hc24; decide) (fun _ => ?_)
    have hn : inL D x := ⟨by omega, by omega⟩
    obtain ⟨i, hi, rfl, ei⟩ := hn.n hD
    rw [ei] at hq
    have hi9 : (nI i).toInt = (i : Int) := nI_toInt (by omega)
    have hi8 : i < 8 := (by omega)
    refine pv_aloadn (pc := 27) (n := 0) 0 rfl rfl (fm_dec dtX11_expects 15 rfl) ?_
    refine pv_iloadn (pc := 28) (n := 2) 2 rfl rfl (fm_dec dtX11_expects 16 rfl) ?_
    refine pv_iconst (pc := 29) (v := 0) (by decide) (fm_dec dtX11_expects 17 rfl) ?_
    refine pv_bipush (pc := 30) (v := 7) (by decide) (fm_dec dtX11_expects 18 rfl) ?_
    refine pv_iS3 (d' := 0) (pc := 32) pcs_X11_135 (Nat.le_of_ble_eq_true rfl) (by decide) (fm_dec dtX11_expects 19 rfl) ?_
    refine c_in (fun h32a h32b => ?_) (fun h32 => ?_)
    · refine pv_then1 ?_
      refine pv_if_ne (pc := 35) 42 (by decide) (fm_dec dtX11_expects 20 rfl) (fun _ => ?_) (fun hc35 => by exfalso; revert hc35; decide)
      refine pv_iconst (pc := 42) (v := 0) (by decide) (fm_dec dtX11_expects 23 rfl) ?_
      refine pv_iconst (pc := 43) (v := 2) (by decide) (fm_dec dtX11_expects 24 rfl) ?_
      refine pv_iconst (pc := 44) (v := 1) (by decide) (fm_dec dtX11_expects 25 rfl) ?_
      refine pv_invV3 (k := 0) (d' := 0) (pc := 45) pcv_X11_177 (by decide) rfl (Nat.le_of_ble_eq_true rfl) (by decide) (fm_dec dtX11_expects 26 rfl) ?_
      refine c_badF1 rfl ?_
      refine pv_then1 ?_
      refine pv_if_ne (pc := 48) 60 (by decide) (fm_dec dtX11_expects 27 rfl) (fun hc48 => by exfalso; revert hc48; decide) (fun _ => ?_)
      refine pv_aloadn (pc := 51) (n := 0) 0 rfl rfl (fm_dec dtX11_expects 28 rfl) ?_
      refine pv_iloadn (pc := 52) (n := 3) 3 rfl rfl (fm_dec dtX11_expects 29 rfl) ?_
      refine pv_iconst (pc := 53) (v := 2) (by decide) (fm_dec dtX11_expects 30 rfl) ?_
      refine pv_invV2 (k := 0) (d' := 1) (pc := 54) pcv_X11_340 (by decide) rfl (Nat.le_of_ble_eq_true rfl) (by decide) (fm_dec dtX11_expects 31 rfl) ?_
      refine c_noP rfl (by decide) (fun h54 => ?_) (fun h54 => ?_)
      · refine pv_then1 ?_
        refine pv_if_eq (pc := 57) 62 (by decide) (fm_dec dtX11_expects 32 rfl) (fun _ => ?_) (fun hc57 => by exfalso; revert hc57; decide)
        have hP : inW y 0 7 ∧ inW p 0 1 := ⟨⟨h32a, h32b⟩, h54⟩
        obtain ⟨n, hn8, rfl, ey⟩ : ∃ n : Nat, n ≤ 7 ∧ y = nI n ∧ y.toInt.toNat = n := (by have z0 : (0 : Int32).toInt = 0 := (by decide); have z8 : (7 : Int32).toInt = 7 := (by decide); exact ⟨y.toInt.toNat, by omega, nI_is (by omega) (by omega), rfl⟩)
        rw [ey] at hq
        have hn9 : (nI n).toInt = (n : Int) := nI_toInt (by omega)
        refine pv_lconst (pc := 62) (v := 0) (by decide) (fm_dec dtX11_expects 35 rfl) ?_
        refine pv_lstore (pc := 63) (i := 4) (by decide) rfl (fm_dec dtX11_expects 36 rfl) ?_
        dsimp only [List.set_cons_zero, List.set_cons_succ]
        refine pv_aloadn (pc := 65) (n := 0) 0 rfl rfl (fm_dec dtX11_expects 37 rfl) ?_
        refine pv_getR (k := 0) (j := 14) (ci := 11) (pc := 66) 17 rfl (by decide) pfl_X11_31 (by decide) rfl (by decide) (fm_dec dtX11_expects 38 rfl) ?_
        refine pv_iloadn (pc := 69) (n := 1) 1 rfl rfl (fm_dec dtX11_expects 39 rfl) ?_
        refine pv_aald (k := 17) (n := 8) (r := (35 + i)) (pc := 70) (by decide) (Or.inr (Or.inr rfl)) rfl (rw_life.inb hi9 hi8) (rw_life.at hi9 hi8) (rw_life.2.2.2 _ hi8).2.1 (fm_dec dtX11_expects 40 rfl) ?_
        refine pv_iconst (pc := 71) (v := 1) (by decide) (fm_dec dtX11_expects 41 rfl) ?_
        refine pv_iald (k := (35 + i)) (n := 6) (pc := 72) (rw_life.2.2.2 _ hi8).2.2.1 (rw_life.2.2.2 _ hi8).2.2.2.1 (rw_life.2.2.2 _ hi8).2.2.2.2 (fm_inl (by decide)) (fm_dec dtX11_expects 42 rfl) ?_
        refine pv_istore (pc := 73) (i := 6) (by decide) rfl (fm_dec dtX11_expects 43 rfl) ?_
        dsimp only [List.set_cons_zero, List.set_cons_succ]
        refine pv_iconst (pc := 75) (v := 0) (by decide) (fm_dec dtX11_expects 44 rfl) ?_
        refine pv_istore (pc := 76) (i := 7) (by decide) rfl (fm_dec dtX11_expects 45 rfl) ?_
        dsimp only [List.set_cons_zero, List.set_cons_succ]
        have hmm : mAq (fmI M 0 0 0) D cs S := ⟨hD, hY, hM, hd, ht, ho⟩
        cases hal : S.1.2.2.1.testBit i with
        | true =>
          refine (mex_dead hmm hi hn8 hal ?_).up (by decide)
          have h9 := hq hn hP (fmI M 0 0 0) rfl
          unfold exV at h9
          rw [if_pos hal] at h9
          exact h9
        | false =>
          refine (mex_loop hi hn8 (hY.2.2.2.1 i hi 1 (by decide)) hal n 0 _ _ ⟨hmm, rfl⟩ (Nat.zero_le _) rfl (by show (0 : Int64).toInt = ((0 * 64 ^ (n - 0) : Nat) : Int); rw [Nat.zero_mul]; decide) (fun M' z => ?_)).up (by decide)
          have h9 := hq hn hP M' z
          unfold exV at h9
          rw [if_neg (by rw [hal]; decide)] at h9
          exact h9
      · refine pv_then1 ?_
        refine pv_if_eq (pc := 57) 62 (by decide) (fm_dec dtX11_expects 32 rfl) (fun hc57 => by exfalso; revert hc57; decide) (fun _ => ?_)
        refine pv_lconst (pc := 60) (v := 0) (by decide) (fm_dec dtX11_expects 33 rfl) ?_
        exact pv_lreturn (pc := 61) rfl (fm_dec dtX11_expects 34 rfl) (hn2 hn (fun h9 => h54 h9.2) _ _ rfl)
    · refine pv_then1 ?_
      refine pv_if_ne (pc := 35) 42 (by decide) (fm_dec dtX11_expects 20 rfl) (fun hc35 => by exfalso; revert hc35; decide) (fun _ => ?_)
      refine pv_iconst (pc := 38) (v := 1) (by decide) (fm_dec dtX11_expects 21 rfl) ?_
      refine pv_goto (pc := 39) 43 (by decide) (fm_dec dtX11_expects 22 rfl) ?_
      refine pv_iconst (pc := 43) (v := 2) (by decide) (fm_dec dtX11_expects 24 rfl) ?_
      refine pv_iconst (pc := 44) (v := 1) (by decide) (fm_dec dtX11_expects 25 rfl) ?_
      refine pv_invV3 (k := 0) (d' := 0) (pc := 45) pcv_X11_177 (by decide) rfl (Nat.le_of_ble_eq_true rfl) (by decide) (fm_dec dtX11_expects 26 rfl) ?_
      refine c_badT1 rfl (by decide) ?_
      refine pv_then1 ?_
      refine pv_if_ne (pc := 48) 60 (by decide) (fm_dec dtX11_expects 27 rfl) (fun _ => ?_) (fun hc48 => by exfalso; revert hc48; decide)
      refine pv_lconst (pc := 60) (v := 0) (by decide) (fm_dec dtX11_expects 33 rfl) ?_
      exact pv_lreturn (pc := 61) rfl (fm_dec dtX11_expects 34 rfl) (hn2 hn (fun h9 => h32 h9.1) _ _ rfl)
  · refine pv_then1 ?_
    refine pv_if_ne (pc := 11) 18 (by decide) (fm_dec dtX11_expects 7 rfl) (fun hc11 => by exfalso; revert hc11; decide) (fun _ => ?_)
    refine pv_iconst (pc := 14) (v := 1) (by decide) (fm_dec dtX11_expects 8 rfl) ?_
    refine pv_goto (pc := 15) 19 (by decide) (fm_dec dtX11_expects 9 rfl) ?_
    refine pv_iconst (pc := 19) (v := 1) (by decide) (fm_dec dtX11_expects 11 rfl) ?_
    refine pv_iconst (pc := 20) (v := 0) (by decide) (fm_dec dtX11_expects 12 rfl) ?_
    refine pv_invV3 (k := 0) (d' := 0) (pc := 21) pcv_X11_177 (by decide) rfl (Nat.le_of_ble_eq_true rfl) (by decide) (fm_dec dtX11_expects 13 rfl) ?_
    refine c_badT0 rfl (by decide) ?_
    refine pv_then1 ?_
    refine pv_if_ne (pc := 24) 60 (by decide) (fm_dec dtX11_expects 14 rfl) (fun _ => ?_) (fun hc24 => by exfalso; revert hc24; decide)
    refine pv_lconst (pc := 60) (v := 0) (by decide) (fm_dec dtX11_expects 33 rfl) ?_
    exact pv_lreturn (pc := 61) rfl (fm_dec dtX11_expects 34 rfl) (hn1 hno _ _ rfl)
theorem xe_expects {M : fmM} {D : dD} {cs : tC} {S : aS} {x y p : Int32} (h : xAq M D cs S) : pvGood Tx 250 qX10_expects [.ref 0, .int x, .int y, .int p] M (fun r _ => (inL D x ∧ (inW y 0 7 ∧ inW p 0 1) ∧ r = .inl (some (.long (exV D cs S x.toInt.toNat y.toInt.toNat p)))) ∨ (¬ inL D x ∧ r = .inr fmNSE) ∨ (inL D x ∧ ¬ (inW y 0 7 ∧ inW p 0 1) ∧ r = .inr fmIAE)) := (c_xexpects h (fun h => Or.inr (Or.inl ⟨h, rfl⟩)) (fun h h' => Or.inr (Or.inr ⟨h, h', rfl⟩)) (fun h h' M' => Or.inl ⟨h, h', rfl⟩)).up (by decide)
theorem me_expects {M : fmM} {D : dD} {cs : tC} {S : aS} {x y p : Int32} (h : mAq M D cs S) : pvGood Tm 250 qX11_expects [.ref 0, .int x, .int y, .int p] M (fun r M' => (inL D x ∧ (inW y 0 7 ∧ inW p 0 1) ∧ r = .inl (some (.long (exV D cs S x.toInt.toNat y.toInt.toNat p))) ∧ M'.1 0 0 = 0) ∨ (¬ inL D x ∧ M'.1 0 0 = 1) ∨ (inL D x ∧ ¬ (inW y 0 7 ∧ inW p 0 1) ∧ M'.1 0 0 = 2)) := (c_mexpects h (fun h z M' e => Or.inr (Or.inl ⟨h, e⟩)) (fun h h' z M' e => Or.inr (Or.inr ⟨h, h', e⟩)) (fun h h' M' z => Or.inl ⟨h, h', rfl, z⟩)).up (by decide)
