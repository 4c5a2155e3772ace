-- FRACTIONS IN LEAST TERMS, exactly
theorem j64_ext {a b : Int64} (h : a.toInt = b.toInt) : a = b := Int64.toInt_inj.mp h
def iZ (v : Int) : Int32 := Int32.ofInt v
theorem iZ_is {x : Int32} {v : Int} (h : x.toInt = v) : x = iZ v := by
  subst h
  exact (Int32.ofInt_toInt x).symm
def jZ (v : Int) : Int64 := Int64.ofInt v
theorem jZ_is {x : Int64} {v : Int} (h : x.toInt = v) : x = jZ v := by
  subst h
  exact (Int64.ofInt_toInt x).symm
/-- above (p 0) or below of a by b, in least terms -/
def frV (a b : Int64) (p : Int32) : Int64 := (if p = 0 then a else b) / jZ ((Nat.gcd a.toInt.toNat b.toInt.toNat : Nat) : Int)
theorem frV_0 {a b g : Int64} {p : Int32} (h : g.toInt = ((Nat.gcd a.toInt.toNat b.toInt.toNat : Nat) : Int)) (hp : p = 0) : a / g = frV a b p := by
  unfold frV
  rw [if_pos hp, ← jZ_is h]
theorem frV_1 {a b g : Int64} {p : Int32} (h : g.toInt = ((Nat.gcd a.toInt.toNat b.toInt.toNat : Nat) : Int)) (hp : ¬ p = 0) : b / g = frV a b p := by
  unfold frV
  rw [if_neg hp, ← jZ_is h]
theorem lcq {x : Int64} : lg_cmp x 0 = 0 ↔ x = 0 := by
  unfold lg_cmp
  split
  · rename_i h
    constructor
    · intro h9
      exact absurd h9 (by decide)
    · intro h9
      rw [h9] at h
      exact absurd h (by decide)
  · split
    · rename_i h
      exact ⟨fun _ => h, fun _ => rfl⟩
    · rename_i h
      exact ⟨fun h9 => absurd h9 (by decide), fun h9 => absurd h9 h⟩
theorem lcp {x : Int64} (h : 0 < x.toInt) : ¬ lg_cmp x 0 ≤ 0 := by
  unfold lg_cmp
  split
  · decide
  · rename_i h9
    have z0 : (0 : Int64).toInt = 0 := by decide
    have h8 : ¬ (0 : Int64).toInt < x.toInt := fun e => h9 (Int64.lt_iff_toInt_lt.mpr e)
    omega
theorem rem_n {x z : Int64} {u v : Nat} (hx : x.toInt = (v : Int)) (hz : z.toInt = (u : Int)) (hu : 0 < u) : (x - x / z * z).toInt = ((v % u : Nat) : Int) := by
  have e1 : (x / z).toInt = ((v / u : Nat) : Int) := by
    rw [Int64.toInt_div, hx, hz, ← Int.ofNat_tdiv]
    have b := x.toInt_lt
    have h1 : v / u ≤ v := Nat.div_le_self _ _
    have h0 : 0 ≤ ((v / u : Nat) : Int) := Int.natCast_nonneg _
    exact Int.bmod_eq_of_le (by omega) (by omega)
  have h2 : v / u * u ≤ v := Nat.div_mul_le_self v u
  have h3 : v % u = v - v / u * u := by
    have h4 := Nat.div_add_mod v u
    rw [Nat.mul_comm] at h4
    omega
  have b := x.toInt_lt
  have e2 : (x / z * z).toInt = ((v / u * u : Nat) : Int) := by
    rw [Int64.toInt_mul, e1, hz, ← Int.natCast_mul]
    exact Int.bmod_eq_of_le (by omega) (by omega)
  rw [Int64.toInt_sub, e2, hx]
  rw [Int.bmod_eq_of_le (by omega) (by omega)]
  omega
/-- so many turns are enough -/
def euB (k u v : Nat) : Prop := (u ≤ v ∧ u * v < 2 ^ k) ∨ (v < u ∧ ∃ k', k = k' + 1 ∧ u * v < 2 ^ k')
theorem eu_0 {u v : Nat} (h : euB 0 u v) (hv : 0 < v) : u = 0 := by
  rcases h with ⟨_, h⟩ | ⟨_, k, h, _⟩
  · rcases Nat.eq_zero_or_pos u with e | e
    · exact e
    · have h9 := Nat.mul_pos e hv
      omega
  · omega
theorem eu_s {k u v : Nat} (h : euB (k + 1) u v) (hu : 0 < u) : euB k (v % u) u := by
  have hm := Nat.mod_lt v hu
  rcases h with ⟨h1, h2⟩ | ⟨h1, k', h3, h2⟩
  · refine Or.inl ⟨by omega, ?_⟩
    have h3 : 2 * (v % u) ≤ v := by
      have h4 := Nat.div_add_mod v u
      have h5 : 1 ≤ v / u := (Nat.one_le_div_iff hu).mpr h1
      have h6 : u * 1 ≤ u * (v / u) := Nat.mul_le_mul_left u h5
      omega
    have h4 : 2 * (v % u) * u ≤ v * u := Nat.mul_le_mul_right u h3
    rw [Nat.mul_comm u v] at h2
    rw [Nat.pow_succ] at h2
    rw [Nat.mul_assoc] at h4
    omega
  · obtain rfl : k = k' := by omega
    refine Or.inl ⟨by omega, ?_⟩
    rw [Nat.mod_eq_of_lt h1, Nat.mul_comm]
    exact h2
theorem eu_st {a b : Int64} (h0 : 0 ≤ a.toInt) (h1 : 0 < b.toInt) : euB 127 a.toInt.toNat b.toInt.toNat := by
  have ba := a.toInt_lt
  have bb := b.toInt_lt
  have h2 : a.toInt.toNat * b.toInt.toNat ≤ (2 ^ 63 - 1) * (2 ^ 63 - 1) := Nat.mul_le_mul (by omega) (by omega)
  by_cases e : a.toInt.toNat ≤ b.toInt.toNat
  · exact Or.inl ⟨e, by omega⟩
  · exact Or.inr ⟨by omega, 126, rfl, by omega⟩
theorem eu_g {u v : Nat} : Nat.gcd (v % u) u = Nat.gcd u v := (Nat.gcd_rec u v).symm
theorem div_nz {x : Int64} (h : 0 < x.toInt) : ¬ x = 0 := by
  intro e
  rw [e] at h
  exact absurd h (by decide)
theorem ge_1 {x : Int64} {u : Nat} (hx : x.toInt = (u : Int)) (hne : ¬ x = 0) : 0 < u := by
  rcases Nat.eq_zero_or_pos u with e | e
  · exact absurd (j64_ext (by rw [hx, e]; decide)) hne
  · exact e
set_option maxRecDepth 20000 in
theorem xtm_loop {Q : fmR → fmM → Prop} {M : fmM} {a b : Int64} {p : Int32} (hq : Q (.inl (some (.long (frV a b p)))) M) : ∀ (k : Nat) (u v : Nat) (i : Nat) (one oth : Int64) (v10 v11 : Option Value), euB k u v → 0 < v → one.toInt = (u : Int) → oth.toInt = (v : Int) → Nat.gcd u v = Nat.gcd a.toInt.toNat b.toInt.toNat → i + k ≤ 200 → pvEv Tx 0 qX10_termOf 9 [some (.long a), none, some (.long b), none, some (.int p), some (.long one), none, some (.long oth), none, some (.int (nI i)), v10, v11] [] M Q := by
  intro k
  induction k using Nat.strongRecOn with
  | _ k ih =>
    intro u v i one oth v10 v11 hE hv h1 h2 hgc hik
    refine pv_iload (pc := 9) (i := 9) rfl (fm_dec dtX10_termOf 6 rfl) ?_
    refine pv_sipush (pc := 11) (v := 200) (by decide) (fm_dec dtX10_termOf 7 rfl) ?_
    refine pv_icmp_ge (pc := 14) 45 (by decide) (fm_dec dtX10_termOf 8 rfl) (fun hc14 => ?_) (fun hc14 => ?_)
    · have hu0 : u = 0 := eu_0 (by have h9 : 200 ≤ i := (by have h8 : (200 : Int32).toInt = 200 := (by decide); have h7 : (nI i).toInt = (i : Int) := nI_toInt (by omega); rw [sc_le] at hc14; omega); have e9 : k = 0 := (by omega); rw [e9] at hE; exact hE) hv
      have hg : oth.toInt = ((Nat.gcd a.toInt.toNat b.toInt.toNat : Nat) : Int) := (by rw [← hgc, hu0, Nat.gcd_zero_left]; exact h2)
      have hp9 : 0 < oth.toInt := (by omega)
      refine pv_lload (pc := 45) (i := 7) rfl (fm_dec dtX10_termOf 23 rfl) ?_
      refine pv_lconst (pc := 47) (v := 0) (by decide) (fm_dec dtX10_termOf 24 rfl) ?_
      refine pv_lcmp (pc := 48) (fm_dec dtX10_termOf 25 rfl) ?_
      refine pv_if_le (pc := 49) 57 (by decide) (fm_dec dtX10_termOf 26 rfl) (fun hc49 => by exfalso; exact lcp hp9 hc49) (fun _ => ?_)
      refine pv_lload (pc := 52) (i := 7) rfl (fm_dec dtX10_termOf 27 rfl) ?_
      refine pv_goto (pc := 54) 58 (by decide) (fm_dec dtX10_termOf 28 rfl) ?_
      refine pv_lstore (pc := 58) (i := 9) (by decide) rfl (fm_dec dtX10_termOf 30 rfl) ?_
      dsimp only [List.set_cons_zero, List.set_cons_succ]
      refine pv_iload (pc := 60) (i := 4) rfl (fm_dec dtX10_termOf 31 rfl) ?_
      refine pv_if_ne (pc := 62) 69 (by decide) (fm_dec dtX10_termOf 32 rfl) (fun hc62 => ?_) (fun hc62 => ?_)
      · refine pv_lloadn (pc := 69) (n := 2) 2 rfl rfl (fm_dec dtX10_termOf 35 rfl) ?_
        refine pv_lload (pc := 70) (i := 9) rfl (fm_dec dtX10_termOf 36 rfl) ?_
        refine pv_ldiv (pc := 72) (div_nz hp9) (fm_dec dtX10_termOf 37 rfl) ?_
        exact pv_lreturn (pc := 73) rfl (fm_dec dtX10_termOf 38 rfl) (by rw [frV_1 hg hc62]; exact hq)
      · refine pv_lloadn (pc := 65) (n := 0) 0 rfl rfl (fm_dec dtX10_termOf 33 rfl) ?_
        refine pv_goto (pc := 66) 70 (by decide) (fm_dec dtX10_termOf 34 rfl) ?_
        refine pv_lload (pc := 70) (i := 9) rfl (fm_dec dtX10_termOf 36 rfl) ?_
        refine pv_ldiv (pc := 72) (div_nz hp9) (fm_dec dtX10_termOf 37 rfl) ?_
        exact pv_lreturn (pc := 73) rfl (fm_dec dtX10_termOf 38 rfl) (by rw [frV_0 hg hc62]; exact hq)
    · refine pv_lload (pc := 17) (i := 5) rfl (fm_dec dtX10_termOf 9 rfl) ?_
      refine pv_lconst (pc := 19) (v := 0) (by decide) (fm_dec dtX10_termOf 10 rfl) ?_
      refine pv_lcmp (pc := 20) (fm_dec dtX10_termOf 11 rfl) ?_
      refine pv_if_eq (pc := 21) 45 (by decide) (fm_dec dtX10_termOf 12 rfl) (fun hc21 => ?_) (fun hc21 => ?_)
      · have hu0 : u = 0 := (by have h9 := lcq.mp hc21; rw [h9] at h1; have h8 : (0 : Int64).toInt = 0 := (by decide); omega)
        have hg : oth.toInt = ((Nat.gcd a.toInt.toNat b.toInt.toNat : Nat) : Int) := (by rw [← hgc, hu0, Nat.gcd_zero_left]; exact h2)
        have hp9 : 0 < oth.toInt := (by omega)
        refine pv_lload (pc := 45) (i := 7) rfl (fm_dec dtX10_termOf 23 rfl) ?_
        refine pv_lconst (pc := 47) (v := 0) (by decide) (fm_dec dtX10_termOf 24 rfl) ?_
        refine pv_lcmp (pc := 48) (fm_dec dtX10_termOf 25 rfl) ?_
        refine pv_if_le (pc := 49) 57 (by decide) (fm_dec dtX10_termOf 26 rfl) (fun hc49 => by exfalso; exact lcp hp9 hc49) (fun _ => ?_)
        refine pv_lload (pc := 52) (i := 7) rfl (fm_dec dtX10_termOf 27 rfl) ?_
        refine pv_goto (pc := 54) 58 (by decide) (fm_dec dtX10_termOf 28 rfl) ?_
        refine pv_lstore (pc := 58) (i := 9) (by decide) rfl (fm_dec dtX10_termOf 30 rfl) ?_
        dsimp only [List.set_cons_zero, List.set_cons_succ]
        refine pv_iload (pc := 60) (i := 4) rfl (fm_dec dtX10_termOf 31 rfl) ?_
        refine pv_if_ne (pc := 62) 69 (by decide) (fm_dec dtX10_termOf 32 rfl) (fun hc62 => ?_) (fun hc62 => ?_)
        · refine pv_lloadn (pc := 69) (n := 2) 2 rfl rfl (fm_dec dtX10_termOf 35 rfl) ?_
          refine pv_lload (pc := 70) (i := 9) rfl (fm_dec dtX10_termOf 36 rfl) ?_
          refine pv_ldiv (pc := 72) (div_nz hp9) (fm_dec dtX10_termOf 37 rfl) ?_
          exact pv_lreturn (pc := 73) rfl (fm_dec dtX10_termOf 38 rfl) (by rw [frV_1 hg hc62]; exact hq)
        · refine pv_lloadn (pc := 65) (n := 0) 0 rfl rfl (fm_dec dtX10_termOf 33 rfl) ?_
          refine pv_goto (pc := 66) 70 (by decide) (fm_dec dtX10_termOf 34 rfl) ?_
          refine pv_lload (pc := 70) (i := 9) rfl (fm_dec dtX10_termOf 36 rfl) ?_
          refine pv_ldiv (pc := 72) (div_nz hp9) (fm_dec dtX10_termOf 37 rfl) ?_
          exact pv_lreturn (pc := 73) rfl (fm_dec dtX10_termOf 38 rfl) (by rw [frV_0 hg hc62]; exact hq)
      · refine pv_lload (pc := 24) (i := 7) rfl (fm_dec dtX10_termOf 13 rfl) ?_
        refine pv_lload (pc := 26) (i := 5) rfl (fm_dec dtX10_termOf 14 rfl) ?_
        refine pv_lrem (pc := 28) (fun e => hc21 (lcq.mpr e)) (fm_dec dtX10_termOf 15 rfl) ?_
        refine pv_lstore (pc := 29) (i := 10) (by decide) rfl (fm_dec dtX10_termOf 16 rfl) ?_
        dsimp only [List.set_cons_zero, List.set_cons_succ]
        refine pv_lload (pc := 31) (i := 5) rfl (fm_dec dtX10_termOf 17 rfl) ?_
        refine pv_lstore (pc := 33) (i := 7) (by decide) rfl (fm_dec dtX10_termOf 18 rfl) ?_
        dsimp only [List.set_cons_zero, List.set_cons_succ]
        refine pv_lload (pc := 35) (i := 10) rfl (fm_dec dtX10_termOf 19 rfl) ?_
        refine pv_lstore (pc := 37) (i := 5) (by decide) rfl (fm_dec dtX10_termOf 20 rfl) ?_
        dsimp only [List.set_cons_zero, List.set_cons_succ]
        refine pv_iincc (pc := 39) 9 1 (by decide) rfl (by decide) rfl (fm_dec dtX10_termOf 21 rfl) ?_
        dsimp only [List.set_cons_zero, List.set_cons_succ]
        refine pv_goto (pc := 42) 9 (by decide) (fm_dec dtX10_termOf 22 rfl) ?_
        have hne : ¬ one = 0 := (fun e => hc21 (lcq.mpr e))
        have hu := ge_1 h1 hne
        obtain ⟨k, rfl⟩ : ∃ k', k = k' + 1 := (by cases k with | zero => exact absurd (eu_0 hE hv) (by omega) | succ k => exact ⟨k, rfl⟩)
        rw [nI_succ1]
        exact ih k (by omega) (v % u) u (i + 1) _ _ _ _ (eu_s hE hu) hu (rem_n h2 h1 hu) h1 (by rw [eu_g]; exact hgc) (by omega)
set_option maxRecDepth 20000 in
theorem c_xterm {M : fmM} {Q : fmR → fmM → Prop} {a b : Int64} {p : Int32} (h0 : 0 ≤ a.toInt) (hb : 0 < b.toInt) (hq : Q (.inl (some (.long (frV a b p)))) M) : pvGood Tx 0 qX10_termOf [.long a, .long b, .int p] M Q := by
  refine pvGood_of (Nat.le_of_ble_eq_true rfl) ?_
  show pvEv Tx 0 qX10_termOf 0 [some (.long a), none, some (.long b), none, some (.int p), none, none, none, none, none, none, none] [] M Q
  refine pv_lloadn (pc := 0) (n := 0) 0 rfl rfl (fm_dec dtX10_termOf 0 rfl) ?_
  refine pv_lstore (pc := 1) (i := 5) (by decide) rfl (fm_dec dtX10_termOf 1 rfl) ?_
  dsimp only [List.set_cons_zero, List.set_cons_succ]
  refine pv_lloadn (pc := 3) (n := 2) 2 rfl rfl (fm_dec dtX10_termOf 2 rfl) ?_
  refine pv_lstore (pc := 4) (i := 7) (by decide) rfl (fm_dec dtX10_termOf 3 rfl) ?_
  dsimp only [List.set_cons_zero, List.set_cons_succ]
  refine pv_iconst (pc := 6) (v := 0) (by decide) (fm_dec dtX10_termOf 4 rfl) ?_
  refine pv_istore (pc := 7) (i := 9) (by decide) rfl (fm_dec dtX10_termOf 5 rfl) ?_
  dsimp only [List.set_cons_zero, List.set_cons_succ]
  exact xtm_loop hq 127 a.toInt.toNat b.toInt.toNat 0 _ _ _ _ (eu_st h0 hb) (by omega) (by omega) (by omega) rfl (by decide)
set_option maxRecDepth 20000 in
theorem mtm_loop {Q : fmR → fmM → Prop} {M : fmM} {a b : Int64} {p : Int32} (hq : Q (.inl (some (.long (frV a b p)))) M) : ∀ (k : Nat) (u v : Nat) (one oth : Int64) (v9 v10 : Option Value), euB k u v → 0 < v → one.toInt = (u : Int) → oth.toInt = (v : Int) → Nat.gcd u v = Nat.gcd a.toInt.toNat b.toInt.toNat → pvEv Tm 0 qX11_partOf 6 [some (.long a), none, some (.long b), none, some (.int p), some (.long oth), none, some (.long one), none, v9, v10] [] M Q := by
  intro k
  induction k using Nat.strongRecOn with
  | _ k ih =>
    intro u v one oth v9 v10 hE hv h1 h2 hgc
    refine pv_lload (pc := 6) (i := 7) rfl (fm_dec dtX11_partOf 4 rfl) ?_
    refine pv_lconst (pc := 8) (v := 0) (by decide) (fm_dec dtX11_partOf 5 rfl) ?_
    refine pv_lcmp (pc := 9) (fm_dec dtX11_partOf 6 rfl) ?_
    refine pv_if_eq (pc := 10) 31 (by decide) (fm_dec dtX11_partOf 7 rfl) (fun hc10 => ?_) (fun hc10 => ?_)
    · have hu0 : u = 0 := (by have h9 := lcq.mp hc10; rw [h9] at h1; have h8 : (0 : Int64).toInt = 0 := (by decide); omega)
      have hg : oth.toInt = ((Nat.gcd a.toInt.toNat b.toInt.toNat : Nat) : Int) := (by rw [← hgc, hu0, Nat.gcd_zero_left]; exact h2)
      have hp9 : 0 < oth.toInt := (by omega)
      refine pv_iload (pc := 31) (i := 4) rfl (fm_dec dtX11_partOf 17 rfl) ?_
      refine pv_if_ne (pc := 33) 43 (by decide) (fm_dec dtX11_partOf 18 rfl) (fun hc33 => ?_) (fun hc33 => ?_)
      · refine pv_lloadn (pc := 43) (n := 2) 2 rfl rfl (fm_dec dtX11_partOf 23 rfl) ?_
        refine pv_lload (pc := 44) (i := 5) rfl (fm_dec dtX11_partOf 24 rfl) ?_
        refine pv_ldiv (pc := 46) (div_nz hp9) (fm_dec dtX11_partOf 25 rfl) ?_
        exact pv_lreturn (pc := 47) rfl (fm_dec dtX11_partOf 26 rfl) (by rw [frV_1 hg hc33]; exact hq)
      · refine pv_lloadn (pc := 36) (n := 0) 0 rfl rfl (fm_dec dtX11_partOf 19 rfl) ?_
        refine pv_lload (pc := 37) (i := 5) rfl (fm_dec dtX11_partOf 20 rfl) ?_
        refine pv_ldiv (pc := 39) (div_nz hp9) (fm_dec dtX11_partOf 21 rfl) ?_
        refine pv_goto (pc := 40) 47 (by decide) (fm_dec dtX11_partOf 22 rfl) ?_
        exact pv_lreturn (pc := 47) rfl (fm_dec dtX11_partOf 26 rfl) (by rw [frV_0 hg hc33]; exact hq)
    · refine pv_lload (pc := 13) (i := 5) rfl (fm_dec dtX11_partOf 8 rfl) ?_
      refine pv_lload (pc := 15) (i := 7) rfl (fm_dec dtX11_partOf 9 rfl) ?_
      refine pv_lrem (pc := 17) (fun e => hc10 (lcq.mpr e)) (fm_dec dtX11_partOf 10 rfl) ?_
      refine pv_lstore (pc := 18) (i := 9) (by decide) rfl (fm_dec dtX11_partOf 11 rfl) ?_
      dsimp only [List.set_cons_zero, List.set_cons_succ]
      refine pv_lload (pc := 20) (i := 7) rfl (fm_dec dtX11_partOf 12 rfl) ?_
      refine pv_lstore (pc := 22) (i := 5) (by decide) rfl (fm_dec dtX11_partOf 13 rfl) ?_
      dsimp only [List.set_cons_zero, List.set_cons_succ]
      refine pv_lload (pc := 24) (i := 9) rfl (fm_dec dtX11_partOf 14 rfl) ?_
      refine pv_lstore (pc := 26) (i := 7) (by decide) rfl (fm_dec dtX11_partOf 15 rfl) ?_
      dsimp only [List.set_cons_zero, List.set_cons_succ]
      refine pv_goto (pc := 28) 6 (by decide) (fm_dec dtX11_partOf 16 rfl) ?_
      have hne : ¬ one = 0 := (fun e => hc10 (lcq.mpr e))
      have hu := ge_1 h1 hne
      obtain ⟨k, rfl⟩ : ∃ k', k = k' + 1 := (by cases k with | zero => exact absurd (eu_0 hE hv) (by omega) | succ k => exact ⟨k, rfl⟩)
      exact ih k (by omega) (v % u) u _ _ _ _ (eu_s hE hu) hu (rem_n h2 h1 hu) h1 (by rw [eu_g]; exact hgc)
set_option maxRecDepth 20000 in
theorem c_mterm {M : fmM} {Q : fmR → fmM → Prop} {a b : Int64} {p : Int32} (h0 : 0 ≤ a.toInt) (hb : 0 < b.toInt) (hq : Q (.inl (some (.long (frV a b p)))) M) : pvGood Tm 0 qX11_partOf [.long a, .long b, .int p] M Q := by
  refine pvGood_of (Nat.le_of_ble_eq_true rfl) ?_
  show pvEv Tm 0 qX11_partOf 0 [some (.long a), none, some (.long b), none, some (.int p), none, none, none, none, none, none] [] M Q
  refine pv_lloadn (pc := 0) (n := 2) 2 rfl rfl (fm_dec dtX11_partOf 0 rfl) ?_
  refine pv_lstore (pc := 1) (i := 5) (by decide) rfl (fm_dec dtX11_partOf 1 rfl) ?_
  dsimp only [List.set_cons_zero, List.set_cons_succ]
  refine pv_lloadn (pc := 3) (n := 0) 0 rfl rfl (fm_dec dtX11_partOf 2 rfl) ?_
  refine pv_lstore (pc := 4) (i := 7) (by decide) rfl (fm_dec dtX11_partOf 3 rfl) ?_
  dsimp only [List.set_cons_zero, List.set_cons_succ]
  exact mtm_loop hq 127 a.toInt.toNat b.toInt.toNat _ _ _ _ (eu_st h0 hb) (by omega) (by omega) (by omega) rfl
theorem frV_z {p : Int32} : frV 0 1 p = frV 0 64 p := by
  unfold frV
  by_cases e : p = 0
  · rw [if_pos e, if_pos e]
    decide
  · rw [if_neg e, if_neg e]
    decide
