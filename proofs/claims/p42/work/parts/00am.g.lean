-- P 12m
section
abbrev cc_hand_byLaw : scC := (qX11_byLaw, 3, [], [.inr (.inr (.inl [0]))], [], [(1, ((-2147483648), 2147483647), [], [], [])], [(5, 0, 160)])
abbrev cc_hand_partOf : scC := (qX11_partOf, 0, [((-2147483648), 2147483647)], [.inr (.inl ((-9223372036854775808), 9223372036854775807)), .inr (.inl (1, 9223372036854775807)), .inl (some 0, 0)], [], [(2, ((-9223372036854775808), 9223372036854775807), [], [], [])], [])
abbrev cc_hand_power : scC := (qX11_power, 0, [(0, 8)], [.inr (.inl (64, 64)), .inl (some 0, 0)], [], [(2, (1, 281474976710656), [], [], [])], [])
abbrev cc_hand_laysOption : scC := (qX11_laysOption, 3, [(0, 7), ((-2147483648), 2147483647)], [.inr (.inr (.inl [0])), .inl (some 0, 0), .inl (some 1, 0)], [], [(0, (0, 0), [], [], [])], [(11, 0, 2197), (12, 0, 2197)])
abbrev cc_hand_yearsBy : scC := (qX11_yearsBy, 12, [((-2147483648), 2147483647), (1, 60)], [.inr (.inr (.inl [0])), .inl (some 0, 0), .inl (some 1, 0)], [], [(0, (0, 0), [], [], [])], [(0, 47, 2), (5, 0, 160), (6, 0, 5), (8, 0, 14)])
abbrev cc_hand_putsAll0 : scC := (qX11_putsAll, 1, [], [.inr (.inr (.inl [0])), .inr (.inr (.inl [519, 520, 521])), .inl (none, 0)], [], [(0, (0, 0), [], [], [])], [(0, 32, 1), (0, 35, 1), (7, 0, 14), (503, 0, 14), (504, 0, 14), (505, 0, 14), (506, 0, 14), (507, 0, 14), (508, 0, 14), (509, 0, 14), (510, 0, 14), (511, 0, 14), (512, 0, 14), (513, 0, 14), (514, 0, 14), (515, 0, 14), (516, 0, 14), (517, 0, 14), (518, 0, 14), (519, 0, 239), (520, 0, 239), (521, 0, 239)])
abbrev cc_hand_putsAll1 : scC := (qX11_putsAll, 1, [], [.inr (.inr (.inl [0])), .inr (.inr (.inl [519, 520, 521])), .inl (none, 1)], [], [(0, (0, 0), [], [], [])], [(0, 32, 1), (0, 35, 1), (7, 0, 14), (503, 0, 14), (504, 0, 14), (505, 0, 14), (506, 0, 14), (507, 0, 14), (508, 0, 14), (509, 0, 14), (510, 0, 14), (511, 0, 14), (512, 0, 14), (513, 0, 14), (514, 0, 14), (515, 0, 14), (516, 0, 14), (517, 0, 14), (518, 0, 14)])
-- THE REFERENCE: parts, powers, laws
theorem lrem_int {x z : Int64} (hz : ¬ z = 0) : (x - x / z * z).toInt = x.toInt.tmod z.toInt := by
  have h0 : z.toInt ≠ 0 := fun e => hz (Int64.toInt_inj.mp (e.trans (by decide)))
  have h1 := Int.natAbs_tmod x.toInt z.toInt
  have h2 : x.toInt.natAbs % z.toInt.natAbs < z.toInt.natAbs := Nat.mod_lt _ (Int.natAbs_pos.mpr h0)
  have h3 := z.le_toInt
  have h4 := z.toInt_lt
  rw [Int64.toInt_sub, Int64.toInt_mul, Int64.toInt_div, Int.bmod_mul_bmod, Int.sub_bmod_bmod]
  have e : x.toInt - x.toInt.tdiv z.toInt * z.toInt = x.toInt.tmod z.toInt := by
    rw [Int.tmod_def, Int.mul_comm]
  rw [e]
  exact Int.bmod_eq_of_le (by omega) (by omega)
theorem lrem_lt {x z : Int64} (hz : ¬ z = 0) : (x - x / z * z).toInt.natAbs < z.toInt.natAbs := by
  rw [lrem_int hz, Int.natAbs_tmod]
  exact Nat.mod_lt _ (Int.natAbs_pos.mpr (fun e => hz (Int64.toInt_inj.mp (e.trans (by decide)))))
theorem pw_bd : ∀ k, k < 8 → (1 : Int) ≤ 64 ^ k ∧ (64 : Int) ^ k ≤ 4398046511104 := by decide
theorem pw_st {v a : Int64} {k : Nat} (hv : v.toInt = 64 ^ k) (ha : a.toInt = 64) (hk : k < 8) : (v * a).toInt = 64 ^ (k + 1) := by
  have h := pw_bd k hk
  rw [Int64.toInt_mul, hv, ha, Int.pow_succ]
  exact Int.bmod_eq_of_le (by omega) (by omega)
def opV (c : Nat) (u v : Int32) : Int32 := if c = 2 then u + v else if c = 3 then u - v else if c = 4 then u * v else if c = 5 then (if v = 0 then 0 else if v = -1 then -u else u / v) else if c = 6 then pvMx false u v else pvMx true u v
def lwR (kn : Nat → Int32) : tC → Nat → (Nat → Int32) → Int32
  | [], _, st => st 0
  | c :: cs, n, st => if c.1 < 2 then lwR kn cs (n + 1) (fun j => if j = n then (if c.1 = 0 then Int32.ofInt c.2 else kn c.2) else st j) else lwR kn cs (n - 1) (fun j => if j = n - 2 then opV c.1 (st (n - 2)) (st (n - 1)) else st j)
theorem tsw_d {x : Int32} {k : Nat} (h : x.toInt = k) (hk : 6 < k) : fmTsw 1 75 2 6 #[35, 39, 43, 47, 69] x = (76 : Int) := by
  unfold fmTsw
  rw [if_pos (by omega)]
  rfl
theorem sub1 {x : Int32} {n : Nat} (h : x.toInt = n) (hn : 2 ≤ n) (h2 : n < 1000) : (x + -1).toInt = ((n - 1 : Nat) : Int) := by
  have e1 : (-1 : Int32).toInt = -1 := by decide
  rw [Int32.toInt_add, e1, h]
  exact (Int.bmod_eq_of_le (by omega) (by omega)).trans (by omega)
theorem sub2 {x : Int32} {n : Nat} (h : x.toInt = n) (hn : 2 ≤ n) (h2 : n < 1000) : (x + -1 - 1).toInt = ((n - 2 : Nat) : Int) := by
  have e1 : (1 : Int32).toInt = 1 := by decide
  rw [Int32.toInt_sub, e1, sub1 h hn h2]
  exact (Int.bmod_eq_of_le (by omega) (by omega)).trans (by omega)
theorem fmI_row (M : fmM) (k j : Nat) (x : Int32) : (fmI M k j x).1 k = fun j' => if j' = j then x else M.1 k j' := by
  funext j'
  by_cases e : j' = j
  · subst e
    rw [fmI_s, if_pos rfl]
  · rw [fmI_j _ _ e, if_neg e]
theorem lwHas.tl {m : Nat → Nat → Int32} {b : Nat} {c : Nat × Nat} {cs : tC} (h : lwHas m b (c :: cs)) : lwHas m (b + 1) cs := fun i d hd => by
  have h9 := h (i + 1) d hd
  rw [show b + (i + 1) = b + 1 + i by omega] at h9
  exact h9
theorem lwHas.fr {m m' : Nat → Nat → Int32} {b : Nat} {cs : tC} (h : lwHas m b cs) (e : ∀ k j, b ≤ k → m' k j = m k j) : lwHas m' b cs := fun i d hd => by
  rw [e _ _ (by omega), e _ _ (by omega)]
  exact h i d hd
theorem sc_ev {env : List scI} {σ : List Int} {i : Nat} {e : scI} {x : Int} (hE : scEk env σ) (he : env[i]? = some e) (h : scEv σ (some i, 0) x) : e.1 ≤ x ∧ x ≤ e.2 := by
  obtain ⟨v, hv, e1⟩ := h
  have h9 := hE.2 i e v he hv
  have e2 : x = v := e1.trans (Int.add_zero v)
  rw [e2]
  exact h9
theorem scInvM_top {M M' : fmM} (c : Nat) (hc : invM c = [((-2147483648), 2147483647)]) (hp : ∀ j, jmPr c j = false) (hI : scInv Tm invM M) (h : ∀ q j, q ≠ c → M'.1 q j = M.1 q j) : scInv Tm invM M' := by
  refine ⟨fun k j hj => ?_, fun hm => jm_stable (hI.2 hm) (fun k j hk => ?_)⟩
  · by_cases e : k = c
    · subst e
      have h9 := scq_t (M'.1 k j)
      have e9 : scAt (invM k) j = scTop := by rw [hc]; cases j <;> rfl
      rw [e9]
      exact h9
    · rw [h k j e]
      exact hI.1 k j hj
  · refine h k j (fun e => ?_)
    subst e
    rw [hp j] at hk
    cases hk
def loFr (M0 M : fmM) : Prop := M.1 = M0.1 ∧ ∀ k j, ¬ ((k = 11 ∨ k = 12) ∧ j < 2197) → M.2 k j = M0.2 k j
theorem loFr.put {M0 M : fmM} {k j : Nat} {x : Int64} (h : loFr M0 M) (hk : k = 11 ∨ k = 12) (hj : j < 2197) : loFr M0 (fmJ M k j x) := by
  refine ⟨h.1, fun k' j' hn => ?_⟩
  rw [← h.2 k' j' hn]
  by_cases e : k' = k
  · subst e
    rw [fmJ_j _ _ (fun e => hn ⟨hk, by omega⟩)]
  · rw [fmJ_k _ _ e]
theorem ro_in {a b c : Int32} {x y z : Nat} (ha : a.toInt = x) (hb : b.toInt = y) (hc : c.toInt = z) (hx : x ≤ 12) (hy : y ≤ 12) (hz : z ≤ 12) : ((13 * a + b) * 13 + c).toInt = (((13 * x + y) * 13 + z : Nat) : Int) := by
  have e1 : (13 : Int32).toInt = 13 := by decide
  have r1 : (13 * a).toInt = 13 * x := by
    rw [Int32.toInt_mul, e1, ha]
    exact Int.bmod_eq_of_le (by omega) (by omega)
  have r2 : (13 * a + b).toInt = 13 * x + y := by
    rw [Int32.toInt_add, r1, hb]
    exact Int.bmod_eq_of_le (by omega) (by omega)
  have r3 : ((13 * a + b) * 13).toInt = (13 * x + y) * 13 := by
    rw [Int32.toInt_mul, r2, e1]
    exact Int.bmod_eq_of_le (by omega) (by omega)
  rw [Int32.toInt_add, r3, hc]
  exact (Int.bmod_eq_of_le (by omega) (by omega)).trans (by omega)
theorem sb_i {a s : Int32} {x y : Nat} (ha : a.toInt = x) (hs : s.toInt = y) (hyx : y ≤ x) (hx : x ≤ 13) : (a - s).toInt = ((x - y : Nat) : Int) := by
  rw [Int32.toInt_sub, ha, hs]
  exact (Int.bmod_eq_of_le (by omega) (by omega)).trans (by omega)
set_option maxRecDepth 20000 in
theorem po_loop {Q : fmR → fmM → Prop} {M : fmM} {up low : Int64} {w : Int32} (hq : ∀ r : Int64, Q (.inl (some (.long r))) M) : ∀ (m : Nat) (a b : Int64) (v9 v10 : Option Value), b.toInt.natAbs = m → ¬ a = 0 → pvEv Tm 0 qX11_partOf 6 [some (.long up), none, some (.long low), none, some (.int w), some (.long a), none, some (.long b), none, v9, v10] [] M Q := by
  intro m
  induction m using Nat.strongRecOn with
  | _ m ih =>
    intro a b v9 v10 hm ha
    refine pv_lload (pc := 6) (i := 7) rfl (fm_dec dtX11_partOf 4 rfl) ?_
    refine pv_lconst (pc := 8) (v := 0) (by decide) (fm_dec dtX11_partOf 5 rfl) ?_
    refine pv_lcmp (pc := 9) (fm_dec dtX11_partOf 6 rfl) ?_
    refine pv_if_eq (pc := 10) 31 (by decide) (fm_dec dtX11_partOf 7 rfl) (fun hc10 => ?_) (fun hc10 => ?_)
    · refine pv_iload (pc := 31) (i := 4) rfl (fm_dec dtX11_partOf 17 rfl) ?_
      refine pv_if_ne (pc := 33) 43 (by decide) (fm_dec dtX11_partOf 18 rfl) (fun hc33 => ?_) (fun hc33 => ?_)
      · refine pv_lloadn (pc := 43) (n := 2) 2 rfl rfl (fm_dec dtX11_partOf 23 rfl) ?_
        refine pv_lload (pc := 44) (i := 5) rfl (fm_dec dtX11_partOf 24 rfl) ?_
        refine pv_ldiv (pc := 46) ha (fm_dec dtX11_partOf 25 rfl) ?_
        exact pv_lreturn (pc := 47) rfl (fm_dec dtX11_partOf 26 rfl) (hq _)
      · refine pv_lloadn (pc := 36) (n := 0) 0 rfl rfl (fm_dec dtX11_partOf 19 rfl) ?_
        refine pv_lload (pc := 37) (i := 5) rfl (fm_dec dtX11_partOf 20 rfl) ?_
        refine pv_ldiv (pc := 39) ha (fm_dec dtX11_partOf 21 rfl) ?_
        refine pv_goto (pc := 40) 47 (by decide) (fm_dec dtX11_partOf 22 rfl) ?_
        exact pv_lreturn (pc := 47) rfl (fm_dec dtX11_partOf 26 rfl) (hq _)
    · refine pv_lload (pc := 13) (i := 5) rfl (fm_dec dtX11_partOf 8 rfl) ?_
      refine pv_lload (pc := 15) (i := 7) rfl (fm_dec dtX11_partOf 9 rfl) ?_
      refine pv_lrem (pc := 17) (fun e => hc10 (by subst e; rfl)) (fm_dec dtX11_partOf 10 rfl) ?_
      refine pv_lstore (pc := 18) (i := 9) (by decide) rfl (fm_dec dtX11_partOf 11 rfl) ?_
      dsimp only [List.set_cons_zero, List.set_cons_succ]
      refine pv_lload (pc := 20) (i := 7) rfl (fm_dec dtX11_partOf 12 rfl) ?_
      refine pv_lstore (pc := 22) (i := 5) (by decide) rfl (fm_dec dtX11_partOf 13 rfl) ?_
      dsimp only [List.set_cons_zero, List.set_cons_succ]
      refine pv_lload (pc := 24) (i := 9) rfl (fm_dec dtX11_partOf 14 rfl) ?_
      refine pv_lstore (pc := 26) (i := 7) (by decide) rfl (fm_dec dtX11_partOf 15 rfl) ?_
      dsimp only [List.set_cons_zero, List.set_cons_succ]
      refine pv_goto (pc := 28) 6 (by decide) (fm_dec dtX11_partOf 16 rfl) ?_
      have hb : ¬ b = 0 := fun e => hc10 (by subst e; rfl)
      exact ih _ (by rw [← hm]; exact lrem_lt hb) b _ _ _ rfl hb
set_option maxRecDepth 20000 in
theorem c_partOf {M : fmM} {Q : fmR → fmM → Prop} {up low : Int64} {w : Int32} (hl : ¬ low = 0) (hq : ∀ r : Int64, Q (.inl (some (.long r))) M) : pvGood Tm 0 qX11_partOf [.long up, .long low, .int w] M Q := by
  refine pvGood_of (Nat.le_of_ble_eq_true rfl) ?_
  show pvEv Tm 0 qX11_partOf 0 [some (.long up), none, some (.long low), none, some (.int w), none, none, none, none, none, none] [] M Q
  refine pv_lloadn (pc := 0) (n := 2) 2 rfl rfl (fm_dec dtX11_partOf 0 rfl) ?_
  refine pv_lstore (pc := 1) (i := 5) (by decide) rfl (fm_dec dtX11_partOf 1 rfl) ?_
  dsimp only [List.set_cons_zero, List.set_cons_succ]
  refine pv_lloadn (pc := 3) (n := 0) 0 rfl rfl (fm_dec dtX11_partOf 2 rfl) ?_
  refine pv_lstore (pc := 4) (i := 7) (by decide) rfl (fm_dec dtX11_partOf 3 rfl) ?_
  dsimp only [List.set_cons_zero, List.set_cons_succ]
  exact po_loop hq _ low up _ _ rfl hl
set_option maxRecDepth 20000 in
theorem pw_loop {Q : fmR → fmM → Prop} {M : fmM} {a : Int64} {n : Int32} {mm : Nat} (ha : a.toInt = 64) (hn : n.toInt = mm) (hm8 : mm ≤ 8) (hq : ∀ r : Int64, r.toInt = 64 ^ mm → Q (.inl (some (.long r))) M) : ∀ (m : Nat) (v : Int64) (k : Nat) (kk : Int32), kk.toInt = k → k + m = mm → v.toInt = 64 ^ k → pvEv Tm 0 qX11_power 5 [some (.long a), none, some (.int n), some (.long v), none, some (.int kk)] [] M Q := by
  intro m
  induction m using Nat.strongRecOn with
  | _ m ih =>
    intro v k kk hkk hm hv
    refine pv_iload (pc := 5) (i := 5) rfl (fm_dec dtX11_power 4 rfl) ?_
    refine pv_iloadn (pc := 7) (n := 2) 2 rfl rfl (fm_dec dtX11_power 5 rfl) ?_
    refine pv_icmp_ge (pc := 8) 21 (by decide) (fm_dec dtX11_power 6 rfl) (fun hc8 => ?_) (fun hc8 => ?_)
    · refine pv_lloadn (pc := 21) (n := 3) 3 rfl rfl (fm_dec dtX11_power 13 rfl) ?_
      exact pv_lreturn (pc := 22) rfl (fm_dec dtX11_power 14 rfl) (hq _ (by have h9 : k = mm := (by rw [sc_le] at hc8; omega); subst h9; exact hv))
    · refine pv_lloadn (pc := 11) (n := 3) 3 rfl rfl (fm_dec dtX11_power 7 rfl) ?_
      refine pv_lloadn (pc := 12) (n := 0) 0 rfl rfl (fm_dec dtX11_power 8 rfl) ?_
      refine pv_lmul (pc := 13) (fm_dec dtX11_power 9 rfl) ?_
      refine pv_lstoren (pc := 14) (n := 3) 3 rfl (by decide) rfl (fm_dec dtX11_power 10 rfl) ?_
      dsimp only [List.set_cons_zero, List.set_cons_succ]
      refine pv_iincc (pc := 15) 5 1 (by decide) rfl (by decide) rfl (fm_dec dtX11_power 11 rfl) ?_
      dsimp only [List.set_cons_zero, List.set_cons_succ]
      refine pv_goto (pc := 18) 5 (by decide) (fm_dec dtX11_power 12 rfl) ?_
      have hk8 : k < mm := (by rw [sc_le] at hc8; omega)
      exact ih (mm - (k + 1)) (by omega) _ (k + 1) _ (i32_p1 hkk (by omega)) (by omega) (pw_st hv ha (by omega))
set_option maxRecDepth 20000 in
theorem c_power {M : fmM} {Q : fmR → fmM → Prop} {a : Int64} {n : Int32} {mm : Nat} (ha : a.toInt = 64) (hn : n.toInt = mm) (hm8 : mm ≤ 8) (hq : ∀ r : Int64, r.toInt = 64 ^ mm → Q (.inl (some (.long r))) M) : pvGood Tm 0 qX11_power [.long a, .int n] M Q := by
  refine pvGood_of (Nat.le_of_ble_eq_true rfl) ?_
  show pvEv Tm 0 qX11_power 0 [some (.long a), none, some (.int n), none, none, none] [] M Q
  refine pv_lconst (pc := 0) (v := 1) (by decide) (fm_dec dtX11_power 0 rfl) ?_
  refine pv_lstoren (pc := 1) (n := 3) 3 rfl (by decide) rfl (fm_dec dtX11_power 1 rfl) ?_
  dsimp only [List.set_cons_zero, List.set_cons_succ]
  refine pv_iconst (pc := 2) (v := 0) (by decide) (fm_dec dtX11_power 2 rfl) ?_
  refine pv_istore (pc := 3) (i := 5) (by decide) rfl (fm_dec dtX11_power 3 rfl) ?_
  dsimp only [List.set_cons_zero, List.set_cons_succ]
  exact pw_loop ha hn hm8 hq mm 1 0 0 (by decide) (by omega) (by decide)
set_option maxRecDepth 20000 in
theorem c_by2 {M : fmM} {Q : fmR → fmM → Prop} {u v : Int32} (hq : Q (.inl (some (.int (opV 2 u v)))) M) : pvGood Tm 1 qX11_by [.int 2, .int u, .int v] M Q := by
  refine pvGood_of (Nat.le_of_ble_eq_true rfl) ?_
  show pvEv Tm 1 qX11_by 0 [some (.int 2), some (.int u), some (.int v)] [] M Q
  refine pv_iloadn (pc := 0) (n := 0) 0 rfl rfl (fm_dec dtX11_by 0 rfl) ?_
  refine pv_table (pc := 1) 36 (by decide) rfl (fm_dec dtX11_by 1 rfl) ?_
  refine pv_iloadn (pc := 36) (n := 1) 1 rfl rfl (fm_dec dtX11_by 2 rfl) ?_
  refine pv_iloadn (pc := 37) (n := 2) 2 rfl rfl (fm_dec dtX11_by 3 rfl) ?_
  refine pv_iadd (pc := 38) (fm_dec dtX11_by 4 rfl) ?_
  exact pv_ireturn (pc := 39) rfl (fm_dec dtX11_by 5 rfl) (by exact hq)
set_option maxRecDepth 20000 in
theorem c_by3 {M : fmM} {Q : fmR → fmM → Prop} {u v : Int32} (hq : Q (.inl (some (.int (opV 3 u v)))) M) : pvGood Tm 1 qX11_by [.int 3, .int u, .int v] M Q := by
  refine pvGood_of (Nat.le_of_ble_eq_true rfl) ?_
  show pvEv Tm 1 qX11_by 0 [some (.int 3), some (.int u), some (.int v)] [] M Q
  refine pv_iloadn (pc := 0) (n := 0) 0 rfl rfl (fm_dec dtX11_by 0 rfl) ?_
  refine pv_table (pc := 1) 40 (by decide) rfl (fm_dec dtX11_by 1 rfl) ?_
  refine pv_iloadn (pc := 40) (n := 1) 1 rfl rfl (fm_dec dtX11_by 6 rfl) ?_
  refine pv_iloadn (pc := 41) (n := 2) 2 rfl rfl (fm_dec dtX11_by 7 rfl) ?_
  refine pv_isub (pc := 42) (fm_dec dtX11_by 8 rfl) ?_
  exact pv_ireturn (pc := 43) rfl (fm_dec dtX11_by 9 rfl) (by exact hq)
set_option maxRecDepth 20000 in
theorem c_by4 {M : fmM} {Q : fmR → fmM → Prop} {u v : Int32} (hq : Q (.inl (some (.int (opV 4 u v)))) M) : pvGood Tm 1 qX11_by [.int 4, .int u, .int v] M Q := by
  refine pvGood_of (Nat.le_of_ble_eq_true rfl) ?_
  show pvEv Tm 1 qX11_by 0 [some (.int 4), some (.int u), some (.int v)] [] M Q
  refine pv_iloadn (pc := 0) (n := 0) 0 rfl rfl (fm_dec dtX11_by 0 rfl) ?_
  refine pv_table (pc := 1) 44 (by decide) rfl (fm_dec dtX11_by 1 rfl) ?_
  refine pv_iloadn (pc := 44) (n := 1) 1 rfl rfl (fm_dec dtX11_by 10 rfl) ?_
  refine pv_iloadn (pc := 45) (n := 2) 2 rfl rfl (fm_dec dtX11_by 11 rfl) ?_
  refine pv_imul (pc := 46) (fm_dec dtX11_by 12 rfl) ?_
  exact pv_ireturn (pc := 47) rfl (fm_dec dtX11_by 13 rfl) (by exact hq)
set_option maxRecDepth 20000 in
theorem c_by5 {M : fmM} {Q : fmR → fmM → Prop} {u v : Int32} (hq : Q (.inl (some (.int (opV 5 u v)))) M) : pvGood Tm 1 qX11_by [.int 5, .int u, .int v] M Q := by
  refine pvGood_of (Nat.le_of_ble_eq_true rfl) ?_
  show pvEv Tm 1 qX11_by 0 [some (.int 5), some (.int u), some (.int v)] [] M Q
  refine pv_iloadn (pc := 0) (n := 0) 0 rfl rfl (fm_dec dtX11_by 0 rfl) ?_
  refine pv_table (pc := 1) 48 (by decide) rfl (fm_dec dtX11_by 1 rfl) ?_
  refine pv_iloadn (pc := 48) (n := 2) 2 rfl rfl (fm_dec dtX11_by 14 rfl) ?_
  refine pv_if_ne (pc := 49) 56 (by decide) (fm_dec dtX11_by 15 rfl) (fun hc49 => ?_) (fun hc49 => ?_)
  · refine pv_iloadn (pc := 56) (n := 2) 2 rfl rfl (fm_dec dtX11_by 18 rfl) ?_
    refine pv_iconst (pc := 57) (v := (-1)) (by decide) (fm_dec dtX11_by 19 rfl) ?_
    refine pv_icmp_ne (pc := 58) 66 (by decide) (fm_dec dtX11_by 20 rfl) (fun hc58 => ?_) (fun hc58 => ?_)
    · refine pv_iloadn (pc := 66) (n := 1) 1 rfl rfl (fm_dec dtX11_by 24 rfl) ?_
      refine pv_iloadn (pc := 67) (n := 2) 2 rfl rfl (fm_dec dtX11_by 25 rfl) ?_
      refine pv_idiv (pc := 68) hc49 (fm_dec dtX11_by 26 rfl) ?_
      exact pv_ireturn (pc := 69) rfl (fm_dec dtX11_by 27 rfl) (show Q (.inl (some (.int (u / v)))) M by have h9 : opV 5 u v = u / v := (show (if v = 0 then 0 else if v = -1 then -u else u / v) = _ by rw [if_neg hc49, if_neg hc58]); rw [← h9]; exact hq)
    · refine pv_iloadn (pc := 61) (n := 1) 1 rfl rfl (fm_dec dtX11_by 21 rfl) ?_
      refine pv_ineg (pc := 62) (fm_dec dtX11_by 22 rfl) ?_
      refine pv_goto (pc := 63) 69 (by decide) (fm_dec dtX11_by 23 rfl) ?_
      exact pv_ireturn (pc := 69) rfl (fm_dec dtX11_by 27 rfl) (show Q (.inl (some (.int (-u)))) M by have h9 : opV 5 u v = -u := (show (if v = 0 then 0 else if v = -1 then -u else u / v) = _ by rw [if_neg hc49, if_pos hc58]); rw [← h9]; exact hq)
  · refine pv_iconst (pc := 52) (v := 0) (by decide) (fm_dec dtX11_by 16 rfl) ?_
    refine pv_goto (pc := 53) 69 (by decide) (fm_dec dtX11_by 17 rfl) ?_
    exact pv_ireturn (pc := 69) rfl (fm_dec dtX11_by 27 rfl) (show Q (.inl (some (.int 0))) M by have h9 : opV 5 u v = 0 := (show (if v = 0 then 0 else if v = -1 then -u else u / v) = _ by rw [if_pos hc49]); rw [← h9]; exact hq)
set_option maxRecDepth 20000 in
theorem c_by6 {M : fmM} {Q : fmR → fmM → Prop} {u v : Int32} (hq : Q (.inl (some (.int (opV 6 u v)))) M) : pvGood Tm 1 qX11_by [.int 6, .int u, .int v] M Q := by
  refine pvGood_of (Nat.le_of_ble_eq_true rfl) ?_
  show pvEv Tm 1 qX11_by 0 [some (.int 6), some (.int u), some (.int v)] [] M Q
  refine pv_iloadn (pc := 0) (n := 0) 0 rfl rfl (fm_dec dtX11_by 0 rfl) ?_
  refine pv_table (pc := 1) 70 (by decide) rfl (fm_dec dtX11_by 1 rfl) ?_
  refine pv_iloadn (pc := 70) (n := 1) 1 rfl rfl (fm_dec dtX11_by 28 rfl) ?_
  refine pv_iloadn (pc := 71) (n := 2) 2 rfl rfl (fm_dec dtX11_by 29 rfl) ?_
  refine pv_mm (pc := 72) pmm_X11_237 (by decide) (Nat.le_of_ble_eq_true rfl) (fm_dec dtX11_by 30 rfl) ?_
  exact pv_ireturn (pc := 75) rfl (fm_dec dtX11_by 31 rfl) (by exact hq)
set_option maxRecDepth 20000 in
theorem c_by7 {M : fmM} {Q : fmR → fmM → Prop} {c u v : Int32} {k : Nat} (hc : c.toInt = k) (hk : 6 < k) (hq : Q (.inl (some (.int (pvMx true u v)))) M) : pvGood Tm 1 qX11_by [.int c, .int u, .int v] M Q := by
  refine pvGood_of (Nat.le_of_ble_eq_true rfl) ?_
  show pvEv Tm 1 qX11_by 0 [some (.int c), some (.int u), some (.int v)] [] M Q
  refine pv_iloadn (pc := 0) (n := 0) 0 rfl rfl (fm_dec dtX11_by 0 rfl) ?_
  refine pv_table (pc := 1) 76 (by decide) (tsw_d hc hk) (fm_dec dtX11_by 1 rfl) ?_
  refine pv_iloadn (pc := 76) (n := 1) 1 rfl rfl (fm_dec dtX11_by 32 rfl) ?_
  refine pv_iloadn (pc := 77) (n := 2) 2 rfl rfl (fm_dec dtX11_by 33 rfl) ?_
  refine pv_mm (pc := 78) pmm_X11_240 (by decide) (Nat.le_of_ble_eq_true rfl) (fm_dec dtX11_by 34 rfl) ?_
  exact pv_ireturn (pc := 81) rfl (fm_dec dtX11_by 35 rfl) hq
theorem c_by {M : fmM} {Q : fmR → fmM → Prop} {c u v : Int32} {k : Nat} (hc : c.toInt = k) (hk : 2 ≤ k) (hq : Q (.inl (some (.int (opV k u v)))) M) : pvGood Tm 1 qX11_by [.int c, .int u, .int v] M Q := by
  by_cases h6 : 6 < k
  · refine c_by7 hc h6 ?_
    have h9 : opV k u v = pvMx true u v := by
      unfold opV
      rw [if_neg (by omega), if_neg (by omega), if_neg (by omega), if_neg (by omega), if_neg (by omega)]
    rw [← h9]
    exact hq
  · have hx : c = nI k := nI_is hc (by omega)
    rcases (show k = 2 ∨ k = 3 ∨ k = 4 ∨ k = 5 ∨ k = 6 by omega) with e | e | e | e | e <;> subst e <;> subst hx
    · exact c_by2 hq
    · exact c_by3 hq
    · exact c_by4 hq
    · exact c_by5 hq
    · exact c_by6 hq
set_option maxRecDepth 20000 in
theorem bl_loop {len : Nat} (h160 : len ≤ 160) {Q : fmR → fmM → Prop} : ∀ (rs : tC) (M : fmM) (n k : Nat) (nn kk : Int32), nn.toInt = n → kk.toInt = k → n ≤ k → k + rs.length = len → (M.1 0 17).toInt = len → dpR n rs = some 1 → lwHas M.1 (91 + k) rs → (∀ M' : fmM, (∀ q j, ¬ (q = 5 ∧ j < 160) → M'.1 q j = M.1 q j) → M'.2 = M.2 → Q (.inl (some (.int (lwR (M.1 6) rs n (M.1 5))))) M') → pvEv Tm 3 qX11_byLaw 25 [some (.ref 0), some (.int nn), some (.int kk)] [] M Q := by
  intro rs
  induction rs with
  | nil =>
    intro M n k nn kk hnn hkk hnk hlk hlen hdp hh hq
    refine pv_iloadn (pc := 25) (n := 2) 2 rfl rfl (fm_dec dtX11_byLaw 17 rfl) ?_
    refine pv_aloadn (pc := 26) (n := 0) 0 rfl rfl (fm_dec dtX11_byLaw 18 rfl) ?_
    refine pv_getI (k := 0) (j := 17) (ci := 11) (pc := 27) pfl_X11_194 (by decide) rfl (by decide) (fm_dec dtX11_byLaw 19 rfl) ?_
    refine pv_icmp_ge (pc := 30) 134 (by decide) (fm_dec dtX11_byLaw 20 rfl) (fun _ => ?_) (fun hc30 => by exfalso; rw [sc_le] at hc30; have h9 : ([] : tC).length = 0 := rfl; omega)
    refine pv_aloadn (pc := 134) (n := 0) 0 rfl rfl (fm_dec dtX11_byLaw 84 rfl) ?_
    refine pv_getR (k := 0) (j := 23) (ci := 11) (pc := 135) 5 rfl (by decide) pfl_X11_52 (by decide) rfl (by decide) (fm_dec dtX11_byLaw 85 rfl) ?_
    refine pv_iconst (pc := 138) (v := 0) (by decide) (fm_dec dtX11_byLaw 86 rfl) ?_
    refine pv_iald (k := 5) (n := 160) (pc := 139) (by decide) rfl rfl (fm_inl (by decide)) (fm_dec dtX11_byLaw 87 rfl) ?_
    exact pv_ireturn (pc := 140) rfl (fm_dec dtX11_byLaw 88 rfl) (hq M (fun _ _ _ => rfl) rfl)
  | cons c rs ih =>
    intro M n k nn kk hnn hkk hnk hlk hlen hdp hh hq
    refine pv_iloadn (pc := 25) (n := 2) 2 rfl rfl (fm_dec dtX11_byLaw 17 rfl) ?_
    refine pv_aloadn (pc := 26) (n := 0) 0 rfl rfl (fm_dec dtX11_byLaw 18 rfl) ?_
    refine pv_getI (k := 0) (j := 17) (ci := 11) (pc := 27) pfl_X11_194 (by decide) rfl (by decide) (fm_dec dtX11_byLaw 19 rfl) ?_
    refine pv_icmp_ge (pc := 30) 134 (by decide) (fm_dec dtX11_byLaw 20 rfl) (fun hc30 => by exfalso; rw [sc_le] at hc30; have h9 : (c :: rs).length = rs.length + 1 := rfl; omega) (fun _ => ?_)
    have hcl : (c :: rs).length = rs.length + 1 := rfl
    have hk160 : k < 160 := (by have h9 : (c :: rs).length = rs.length + 1 := rfl; omega)
    have h0 := hh 0 c rfl
    rw [Nat.add_zero] at h0
    have h02 : (M.1 (91 + k) (Int32.toNatClampNeg 1)).toInt = c.2 := h0.2
    refine pv_aloadn (pc := 33) (n := 0) 0 rfl rfl (fm_dec dtX11_byLaw 21 rfl) ?_
    refine pv_getR (k := 0) (j := 19) (ci := 11) (pc := 34) 20 rfl (by decide) pfl_X11_40 (by decide) rfl (by decide) (fm_dec dtX11_byLaw 22 rfl) ?_
    refine pv_iloadn (pc := 37) (n := 2) 2 rfl rfl (fm_dec dtX11_byLaw 23 rfl) ?_
    refine pv_aald (k := 20) (n := 160) (r := (91 + k)) (pc := 38) (by decide) (Or.inr (Or.inr rfl)) rfl (rw_law.inb hkk hk160) (rw_law.at hkk hk160) (rw_law.2.2.2 _ hk160).2.1 (fm_dec dtX11_byLaw 24 rfl) ?_
    refine pv_iconst (pc := 39) (v := 0) (by decide) (fm_dec dtX11_byLaw 25 rfl) ?_
    refine pv_iald (k := (91 + k)) (n := 2) (pc := 40) (rw_law.2.2.2 _ hk160).2.2.1 (rw_law.2.2.2 _ hk160).2.2.2.1 (rw_law.2.2.2 _ hk160).2.2.2.2 (fm_inl (by decide)) (fm_dec dtX11_byLaw 26 rfl) ?_
    refine pv_iconst (pc := 41) (v := 2) (by decide) (fm_dec dtX11_byLaw 27 rfl) ?_
    refine pv_icmp_ge (pc := 42) 92 (by decide) (fm_dec dtX11_byLaw 28 rfl) (fun hc42 => ?_) (fun hc42 => ?_)
    · have hc2 : 2 ≤ c.1 := (by have hc42 := hc42; rw [sc_le] at hc42; have h7 : (M.1 (91 + k) (Int32.toNatClampNeg 0)).toInt = c.1 := h0.1; have h9 : (2 : Int32).toInt = 2 := (by decide); have h8 := h0.1; omega)
      have hdp := hdp
      simp only [dpR] at hdp
      rw [if_neg (by omega)] at hdp
      have hd2 : 2 ≤ n := (by by_cases h9 : 2 ≤ n; exact h9; rw [if_neg h9] at hdp; cases hdp)
      rw [if_pos hd2] at hdp
      have hdp9 := hdp
      refine pv_iincc (pc := 92) 1 (-1) (by decide) rfl (by decide) rfl (fm_dec dtX11_byLaw 58 rfl) ?_
      dsimp only [List.set_cons_zero, List.set_cons_succ]
      refine pv_aloadn (pc := 95) (n := 0) 0 rfl rfl (fm_dec dtX11_byLaw 59 rfl) ?_
      refine pv_getR (k := 0) (j := 23) (ci := 11) (pc := 96) 5 rfl (by decide) pfl_X11_52 (by decide) rfl (by decide) (fm_dec dtX11_byLaw 60 rfl) ?_
      refine pv_iloadn (pc := 99) (n := 1) 1 rfl rfl (fm_dec dtX11_byLaw 61 rfl) ?_
      refine pv_iconst (pc := 100) (v := 1) (by decide) (fm_dec dtX11_byLaw 62 rfl) ?_
      refine pv_isub (pc := 101) (fm_dec dtX11_byLaw 63 rfl) ?_
      refine pv_aloadn (pc := 102) (n := 0) 0 rfl rfl (fm_dec dtX11_byLaw 64 rfl) ?_
      refine pv_getR (k := 0) (j := 19) (ci := 11) (pc := 103) 20 rfl (by decide) pfl_X11_40 (by decide) rfl (by decide) (fm_dec dtX11_byLaw 65 rfl) ?_
      refine pv_iloadn (pc := 106) (n := 2) 2 rfl rfl (fm_dec dtX11_byLaw 66 rfl) ?_
      refine pv_aald (k := 20) (n := 160) (r := (91 + k)) (pc := 107) (by decide) (Or.inr (Or.inr rfl)) rfl (rw_law.inb hkk hk160) (rw_law.at hkk hk160) (rw_law.2.2.2 _ hk160).2.1 (fm_dec dtX11_byLaw 67 rfl) ?_
      refine pv_iconst (pc := 108) (v := 0) (by decide) (fm_dec dtX11_byLaw 68 rfl) ?_
      refine pv_iald (k := (91 + k)) (n := 2) (pc := 109) (rw_law.2.2.2 _ hk160).2.2.1 (rw_law.2.2.2 _ hk160).2.2.2.1 (rw_law.2.2.2 _ hk160).2.2.2.2 (fm_inl (by decide)) (fm_dec dtX11_byLaw 69 rfl) ?_
      refine pv_aloadn (pc := 110) (n := 0) 0 rfl rfl (fm_dec dtX11_byLaw 70 rfl) ?_
      refine pv_getR (k := 0) (j := 23) (ci := 11) (pc := 111) 5 rfl (by decide) pfl_X11_52 (by decide) rfl (by decide) (fm_dec dtX11_byLaw 71 rfl) ?_
      refine pv_iloadn (pc := 114) (n := 1) 1 rfl rfl (fm_dec dtX11_byLaw 72 rfl) ?_
      refine pv_iconst (pc := 115) (v := 1) (by decide) (fm_dec dtX11_byLaw 73 rfl) ?_
      refine pv_isub (pc := 116) (fm_dec dtX11_byLaw 74 rfl) ?_
      refine pv_iald (k := 5) (n := 160) (pc := 117) (by decide) rfl rfl (ix_in (sub2 hnn hd2 (by omega)) (by omega)) (fm_dec dtX11_byLaw 75 rfl) ?_
      refine pv_aloadn (pc := 118) (n := 0) 0 rfl rfl (fm_dec dtX11_byLaw 76 rfl) ?_
      refine pv_getR (k := 0) (j := 23) (ci := 11) (pc := 119) 5 rfl (by decide) pfl_X11_52 (by decide) rfl (by decide) (fm_dec dtX11_byLaw 77 rfl) ?_
      refine pv_iloadn (pc := 122) (n := 1) 1 rfl rfl (fm_dec dtX11_byLaw 78 rfl) ?_
      refine pv_iald (k := 5) (n := 160) (pc := 123) (by decide) rfl rfl (ix_in (sub1 hnn hd2 (by omega)) (by omega)) (fm_dec dtX11_byLaw 79 rfl) ?_
      refine pv_iS3 (d' := 1) (pc := 124) pcs_X11_243 (Nat.le_of_ble_eq_true rfl) (by decide) (fm_dec dtX11_byLaw 80 rfl) ?_
      refine c_by h0.1 hc2 ?_
      refine pv_then1 ?_
      refine pv_iast (k := 5) (n := 160) (pc := 127) (by decide) rfl rfl (ix_in (sub2 hnn hd2 (by omega)) (by omega)) (fm_dec dtX11_byLaw 81 rfl) ?_
      refine pv_iincc (pc := 128) 2 1 (by decide) rfl (by decide) rfl (fm_dec dtX11_byLaw 82 rfl) ?_
      dsimp only [List.set_cons_zero, List.set_cons_succ]
      refine pv_goto (pc := 131) 25 (by decide) (fm_dec dtX11_byLaw 83 rfl) ?_
      rw [i32_cl (sub2 hnn hd2 (by omega)), i32_cl (sub1 hnn hd2 (by omega))]
      have e9 : lwR (M.1 6) (c :: rs) n (M.1 5) = lwR ((fmI M 5 (n - 2) (opV c.1 (M.1 5 (n - 2)) (M.1 5 (n - 1)))).1 6) rs (n - 1) ((fmI M 5 (n - 2) (opV c.1 (M.1 5 (n - 2)) (M.1 5 (n - 1)))).1 5) := (by rw [fmI_k _ _ (by decide), fmI_row]; simp only [lwR]; rw [if_neg (by omega)])
      exact ih _ (n - 1) (k + 1) _ _ (sub1 hnn hd2 (by omega)) (i32_p1 hkk (by omega)) (by omega) (by omega) ((congrArg Int32.toInt (by rw [fmI_k _ _ (by decide)])).trans hlen) hdp9 ((hh.tl).fr (fun q j hq => by rw [fmI_k _ _ (by omega)])) (fun M' h1 h2 => by rw [← e9]; exact hq M' (fun q j hqj => (h1 q j hqj).trans (by rw [fmI_at, if_neg (by omega)])) h2)
    · have hc2 : c.1 < 2 := (by have hc42 := hc42; rw [sc_le] at hc42; have h7 : (M.1 (91 + k) (Int32.toNatClampNeg 0)).toInt = c.1 := h0.1; have h9 : (2 : Int32).toInt = 2 := (by decide); have h8 := h0.1; omega)
      have hdp := hdp
      simp only [dpR] at hdp
      rw [if_pos hc2] at hdp
      have hkn : ¬ (c.1 = 1 ∧ 4 < c.2) := (by intro h9; rw [if_pos h9] at hdp; cases hdp)
      rw [if_neg hkn] at hdp
      have hdp9 := hdp
      refine pv_aloadn (pc := 45) (n := 0) 0 rfl rfl (fm_dec dtX11_byLaw 29 rfl) ?_
      refine pv_getR (k := 0) (j := 23) (ci := 11) (pc := 46) 5 rfl (by decide) pfl_X11_52 (by decide) rfl (by decide) (fm_dec dtX11_byLaw 30 rfl) ?_
      refine pv_iloadn (pc := 49) (n := 1) 1 rfl rfl (fm_dec dtX11_byLaw 31 rfl) ?_
      refine pv_aloadn (pc := 50) (n := 0) 0 rfl rfl (fm_dec dtX11_byLaw 32 rfl) ?_
      refine pv_getR (k := 0) (j := 19) (ci := 11) (pc := 51) 20 rfl (by decide) pfl_X11_40 (by decide) rfl (by decide) (fm_dec dtX11_byLaw 33 rfl) ?_
      refine pv_iloadn (pc := 54) (n := 2) 2 rfl rfl (fm_dec dtX11_byLaw 34 rfl) ?_
      refine pv_aald (k := 20) (n := 160) (r := (91 + k)) (pc := 55) (by decide) (Or.inr (Or.inr rfl)) rfl (rw_law.inb hkk hk160) (rw_law.at hkk hk160) (rw_law.2.2.2 _ hk160).2.1 (fm_dec dtX11_byLaw 35 rfl) ?_
      refine pv_iconst (pc := 56) (v := 0) (by decide) (fm_dec dtX11_byLaw 36 rfl) ?_
      refine pv_iald (k := (91 + k)) (n := 2) (pc := 57) (rw_law.2.2.2 _ hk160).2.2.1 (rw_law.2.2.2 _ hk160).2.2.2.1 (rw_law.2.2.2 _ hk160).2.2.2.2 (fm_inl (by decide)) (fm_dec dtX11_byLaw 37 rfl) ?_
      refine pv_if_ne (pc := 58) 72 (by decide) (fm_dec dtX11_byLaw 38 rfl) (fun hc58 => ?_) (fun hc58 => ?_)
      · have hcc : c.1 = 1 := (by have h9 : ¬ c.1 = 0 := (fun h9 => hc58 (i32_ext (h0.1.trans (by rw [h9]; decide)))); omega)
        refine pv_aloadn (pc := 72) (n := 0) 0 rfl rfl (fm_dec dtX11_byLaw 46 rfl) ?_
        refine pv_getR (k := 0) (j := 24) (ci := 11) (pc := 73) 6 rfl (by decide) pfl_X11_55 (by decide) rfl (by decide) (fm_dec dtX11_byLaw 47 rfl) ?_
        refine pv_aloadn (pc := 76) (n := 0) 0 rfl rfl (fm_dec dtX11_byLaw 48 rfl) ?_
        refine pv_getR (k := 0) (j := 19) (ci := 11) (pc := 77) 20 rfl (by decide) pfl_X11_40 (by decide) rfl (by decide) (fm_dec dtX11_byLaw 49 rfl) ?_
        refine pv_iloadn (pc := 80) (n := 2) 2 rfl rfl (fm_dec dtX11_byLaw 50 rfl) ?_
        refine pv_aald (k := 20) (n := 160) (r := (91 + k)) (pc := 81) (by decide) (Or.inr (Or.inr rfl)) rfl (rw_law.inb hkk hk160) (rw_law.at hkk hk160) (rw_law.2.2.2 _ hk160).2.1 (fm_dec dtX11_byLaw 51 rfl) ?_
        refine pv_iconst (pc := 82) (v := 1) (by decide) (fm_dec dtX11_byLaw 52 rfl) ?_
        refine pv_iald (k := (91 + k)) (n := 2) (pc := 83) (rw_law.2.2.2 _ hk160).2.2.1 (rw_law.2.2.2 _ hk160).2.2.2.1 (rw_law.2.2.2 _ hk160).2.2.2.2 (fm_inl (by decide)) (fm_dec dtX11_byLaw 53 rfl) ?_
        refine pv_iald (k := 6) (n := 5) (pc := 84) (by decide) rfl rfl (ix_in h0.2 (by have := hkn; omega)) (fm_dec dtX11_byLaw 54 rfl) ?_
        refine pv_iast (k := 5) (n := 160) (pc := 85) (by decide) rfl rfl (ix_in hnn (by omega)) (fm_dec dtX11_byLaw 55 rfl) ?_
        refine pv_iincc (pc := 86) 1 1 (by decide) rfl (by decide) rfl (fm_dec dtX11_byLaw 56 rfl) ?_
        dsimp only [List.set_cons_zero, List.set_cons_succ]
        refine pv_goto (pc := 89) 128 (by decide) (fm_dec dtX11_byLaw 57 rfl) ?_
        refine pv_iincc (pc := 128) 2 1 (by decide) rfl (by decide) rfl (fm_dec dtX11_byLaw 82 rfl) ?_
        dsimp only [List.set_cons_zero, List.set_cons_succ]
        refine pv_goto (pc := 131) 25 (by decide) (fm_dec dtX11_byLaw 83 rfl) ?_
        rw [i32_cl hnn, i32_cl h02]
        have e9 : lwR (M.1 6) (c :: rs) n (M.1 5) = lwR ((fmI M 5 (n) (M.1 6 c.2)).1 6) rs (n + 1) ((fmI M 5 (n) (M.1 6 c.2)).1 5) := (by rw [fmI_k _ _ (by decide), fmI_row]; simp only [lwR]; rw [if_pos hc2, if_neg (by omega)])
        exact ih _ (n + 1) (k + 1) _ _ (i32_p1 hnn (by omega)) (i32_p1 hkk (by omega)) (by omega) (by omega) ((congrArg Int32.toInt (by rw [fmI_k _ _ (by decide)])).trans hlen) hdp9 ((hh.tl).fr (fun q j hq => by rw [fmI_k _ _ (by omega)])) (fun M' h1 h2 => by rw [← e9]; exact hq M' (fun q j hqj => (h1 q j hqj).trans (by rw [fmI_at, if_neg (by omega)])) h2)
      · have hcc : c.1 = 0 := (by have h9 : (M.1 (91 + k) (Int32.toNatClampNeg 0)).toInt = c.1 := h0.1; rw [hc58] at h9; have h8 : (0 : Int32).toInt = 0 := (by decide); omega)
        refine pv_aloadn (pc := 61) (n := 0) 0 rfl rfl (fm_dec dtX11_byLaw 39 rfl) ?_
        refine pv_getR (k := 0) (j := 19) (ci := 11) (pc := 62) 20 rfl (by decide) pfl_X11_40 (by decide) rfl (by decide) (fm_dec dtX11_byLaw 40 rfl) ?_
        refine pv_iloadn (pc := 65) (n := 2) 2 rfl rfl (fm_dec dtX11_byLaw 41 rfl) ?_
        refine pv_aald (k := 20) (n := 160) (r := (91 + k)) (pc := 66) (by decide) (Or.inr (Or.inr rfl)) rfl (rw_law.inb hkk hk160) (rw_law.at hkk hk160) (rw_law.2.2.2 _ hk160).2.1 (fm_dec dtX11_byLaw 42 rfl) ?_
        refine pv_iconst (pc := 67) (v := 1) (by decide) (fm_dec dtX11_byLaw 43 rfl) ?_
        refine pv_iald (k := (91 + k)) (n := 2) (pc := 68) (rw_law.2.2.2 _ hk160).2.2.1 (rw_law.2.2.2 _ hk160).2.2.2.1 (rw_law.2.2.2 _ hk160).2.2.2.2 (fm_inl (by decide)) (fm_dec dtX11_byLaw 44 rfl) ?_
        refine pv_goto (pc := 69) 85 (by decide) (fm_dec dtX11_byLaw 45 rfl) ?_
        refine pv_iast (k := 5) (n := 160) (pc := 85) (by decide) rfl rfl (ix_in hnn (by omega)) (fm_dec dtX11_byLaw 55 rfl) ?_
        refine pv_iincc (pc := 86) 1 1 (by decide) rfl (by decide) rfl (fm_dec dtX11_byLaw 56 rfl) ?_
        dsimp only [List.set_cons_zero, List.set_cons_succ]
        refine pv_goto (pc := 89) 128 (by decide) (fm_dec dtX11_byLaw 57 rfl) ?_
        refine pv_iincc (pc := 128) 2 1 (by decide) rfl (by decide) rfl (fm_dec dtX11_byLaw 82 rfl) ?_
        dsimp only [List.set_cons_zero, List.set_cons_succ]
        refine pv_goto (pc := 131) 25 (by decide) (fm_dec dtX11_byLaw 83 rfl) ?_
        rw [i32_cl hnn]
        have e9 : lwR (M.1 6) (c :: rs) n (M.1 5) = lwR ((fmI M 5 (n) (M.1 (91 + k) (Int32.toNatClampNeg 1))).1 6) rs (n + 1) ((fmI M 5 (n) (M.1 (91 + k) (Int32.toNatClampNeg 1))).1 5) := (by rw [fmI_k _ _ (by decide), fmI_row]; simp only [lwR]; rw [if_pos hc2, if_pos hcc, ← h02, Int32.ofInt_toInt])
        exact ih _ (n + 1) (k + 1) _ _ (i32_p1 hnn (by omega)) (i32_p1 hkk (by omega)) (by omega) (by omega) ((congrArg Int32.toInt (by rw [fmI_k _ _ (by decide)])).trans hlen) hdp9 ((hh.tl).fr (fun q j hq => by rw [fmI_k _ _ (by omega)])) (fun M' h1 h2 => by rw [← e9]; exact hq M' (fun q j hqj => (h1 q j hqj).trans (by rw [fmI_at, if_neg (by omega)])) h2)
set_option maxRecDepth 20000 in
theorem c_byLaw {M : fmM} {Q : fmR → fmM → Prop} {cs : tC} (hlen : (M.1 0 17).toInt = (cs.length : Int)) (h160 : cs.length ≤ 160) (hd : cs = [] ∨ dpR 0 cs = some 1) (hh : lwHas M.1 91 cs) (hq : ∀ M' : fmM, (∀ q j, ¬ (q = 5 ∧ j < 160) → M'.1 q j = M.1 q j) → M'.2 = M.2 → Q (.inl (some (.int (if cs = [] then M.1 6 0 + M.1 6 0 else lwR (M.1 6) cs 0 (M.1 5))))) M') : pvGood Tm 3 qX11_byLaw [.ref 0] M Q := by
  refine pvGood_of (Nat.le_of_ble_eq_true rfl) ?_
  show pvEv Tm 3 qX11_byLaw 0 [some (.ref 0), none, none] [] M Q
  refine pv_aloadn (pc := 0) (n := 0) 0 rfl rfl (fm_dec dtX11_byLaw 0 rfl) ?_
  refine pv_getI (k := 0) (j := 17) (ci := 11) (pc := 1) pfl_X11_194 (by decide) rfl (by decide) (fm_dec dtX11_byLaw 1 rfl) ?_
  refine pv_if_ne (pc := 4) 21 (by decide) (fm_dec dtX11_byLaw 2 rfl) (fun hc4 => ?_) (fun hc4 => ?_)
  · have hne : ¬ cs = [] := (by intro h9; subst h9; exact hc4 (i32_ext (hlen.trans (by decide))))
    refine pv_iconst (pc := 21) (v := 0) (by decide) (fm_dec dtX11_byLaw 13 rfl) ?_
    refine pv_istoren (pc := 22) (n := 1) 1 rfl (by decide) rfl (fm_dec dtX11_byLaw 14 rfl) ?_
    dsimp only [List.set_cons_zero, List.set_cons_succ]
    refine pv_iconst (pc := 23) (v := 0) (by decide) (fm_dec dtX11_byLaw 15 rfl) ?_
    refine pv_istoren (pc := 24) (n := 2) 2 rfl (by decide) rfl (fm_dec dtX11_byLaw 16 rfl) ?_
    dsimp only [List.set_cons_zero, List.set_cons_succ]
    refine bl_loop h160 cs M 0 0 0 0 (by decide) (by decide) (Nat.le_refl _) (by omega) hlen (hd.resolve_left hne) hh (fun M' h1 h2 => ?_)
    have h9 := hq M' h1 h2
    rw [if_neg hne] at h9
    exact h9
  · have hee : cs = [] := (by rw [hc4] at hlen; have h9 : (0 : Int32).toInt = 0 := (by decide); cases cs with | nil => rfl | cons a b => (have h8 : (a :: b).length = b.length + 1 := rfl; omega))
    refine pv_aloadn (pc := 7) (n := 0) 0 rfl rfl (fm_dec dtX11_byLaw 3 rfl) ?_
    refine pv_getR (k := 0) (j := 24) (ci := 11) (pc := 8) 6 rfl (by decide) pfl_X11_55 (by decide) rfl (by decide) (fm_dec dtX11_byLaw 4 rfl) ?_
    refine pv_iconst (pc := 11) (v := 0) (by decide) (fm_dec dtX11_byLaw 5 rfl) ?_
    refine pv_iald (k := 6) (n := 5) (pc := 12) (by decide) rfl rfl (fm_inl (by decide)) (fm_dec dtX11_byLaw 6 rfl) ?_
    refine pv_aloadn (pc := 13) (n := 0) 0 rfl rfl (fm_dec dtX11_byLaw 7 rfl) ?_
    refine pv_getR (k := 0) (j := 24) (ci := 11) (pc := 14) 6 rfl (by decide) pfl_X11_55 (by decide) rfl (by decide) (fm_dec dtX11_byLaw 8 rfl) ?_
    refine pv_iconst (pc := 17) (v := 0) (by decide) (fm_dec dtX11_byLaw 9 rfl) ?_
    refine pv_iald (k := 6) (n := 5) (pc := 18) (by decide) rfl rfl (fm_inl (by decide)) (fm_dec dtX11_byLaw 10 rfl) ?_
    refine pv_iadd (pc := 19) (fm_dec dtX11_byLaw 11 rfl) ?_
    exact pv_ireturn (pc := 20) rfl (fm_dec dtX11_byLaw 12 rfl) (by have h9 := hq M (fun _ _ _ => rfl) rfl; rw [if_pos hee] at h9; exact h9)
theorem hh_hand_partOf : scH Tm invM cc_hand_partOf := by
  intro M σ as hE hS hF hI
  obtain ⟨a, st1, e1, ha, q1⟩ := scSk_j hS
  obtain ⟨b, st2, e2, hb, q2⟩ := scSk_j q1
  obtain ⟨p, st3, e3, hp, q3⟩ := scSk_i q2
  have e5 := scSk_0 q3
  subst e5
  subst e3
  subst e2
  subst e1
  exact c_partOf (fun e => by subst e; exact absurd hb.1 (by decide)) (fun r => ⟨⟨_, List.mem_cons_self, ⟨r, rfl, (scq_l r).1, (scq_l r).2⟩, fun q hq => (by cases hq), fun q hq => (by cases hq)⟩, hI, scFr.rfl⟩)
theorem hh_hand_power : scH Tm invM cc_hand_power := by
  intro M σ as hE hS hF hI
  obtain ⟨a, st1, e1, ha, q1⟩ := scSk_j hS
  obtain ⟨p, st3, e3, hp, q3⟩ := scSk_i q1
  have e5 := scSk_0 q3
  have hp8 := sc_ev hE rfl hp
  have ha1 : 64 ≤ a.toInt := ha.1
  have ha2 : a.toInt ≤ 64 := ha.2
  have h80 : (0 : Int) ≤ p.toInt := hp8.1
  have h88 : p.toInt ≤ 8 := hp8.2
  subst e5
  subst e3
  subst e1
  refine c_power (mm := p.toInt.toNat) (by omega) (by omega) (by omega) (fun r hr => ⟨⟨_, List.mem_cons_self, ⟨r, rfl, ?_⟩, fun q hq => (by cases hq), fun q hq => (by cases hq)⟩, hI, scFr.rfl⟩)
  have h9 : ∀ k, k ≤ 8 → (1 : Int) ≤ 64 ^ k ∧ (64 : Int) ^ k ≤ 281474976710656 := by decide
  rw [hr]
  exact h9 _ (by omega)
theorem hh_hand_byLaw : scH Tm invM cc_hand_byLaw := by
  intro M σ as hE hS hF hI
  obtain ⟨r, st1, hr, e1, q1⟩ := scSk_r hS
  have e5 := scSk_0 q1
  have er : r = 0 := by simpa using hr
  subst er
  subst e5
  subst e1
  obtain ⟨⟨cs, h1, h2, h3, h4⟩, -⟩ := hI.2 rfl
  refine c_byLaw h1 h2 h3 h4 (fun M' f1 f2 => ⟨⟨_, List.mem_cons_self, ⟨_, rfl, (scq_t _).1, (scq_t _).2⟩, fun q hq => (by cases hq), fun q hq => (by cases hq)⟩, scInvM_top 5 rfl (fun j => rfl) hI (fun q j hq => f1 q j (fun h => hq h.1)), fun k j hk => ⟨f1 k j (fun h => ?_), by rw [f2]⟩⟩)
  obtain ⟨rfl, h⟩ := h
  have h9 : scIn [(5, 0, 160)] 5 j = true := by simp [scIn]; omega
  rw [h9] at hk
  cases hk
set_option maxRecDepth 20000 in
theorem c_roomOf {M : fmM} {Q : fmR → fmM → Prop} {a b c : Int32} {x y z : Nat} (ha : a.toInt = x) (hb : b.toInt = y) (hc : c.toInt = z) (hx : x ≤ 12) (hy : y ≤ 12) (hz : z ≤ 12) (hq : ∀ r : Int32, r.toInt = (((13 * x + y) * 13 + z : Nat) : Int) → Q (.inl (some (.int r))) M) : pvGood Tm 0 qX11_roomOf [.int a, .int b, .int c] M Q := by
  refine pvGood_of (Nat.le_of_ble_eq_true rfl) ?_
  show pvEv Tm 0 qX11_roomOf 0 [some (.int a), some (.int b), some (.int c)] [] M Q
  refine pv_bipush (pc := 0) (v := 13) (by decide) (fm_dec dtX11_roomOf 0 rfl) ?_
  refine pv_iloadn (pc := 2) (n := 0) 0 rfl rfl (fm_dec dtX11_roomOf 1 rfl) ?_
  refine pv_imul (pc := 3) (fm_dec dtX11_roomOf 2 rfl) ?_
  refine pv_iloadn (pc := 4) (n := 1) 1 rfl rfl (fm_dec dtX11_roomOf 3 rfl) ?_
  refine pv_iadd (pc := 5) (fm_dec dtX11_roomOf 4 rfl) ?_
  refine pv_bipush (pc := 6) (v := 13) (by decide) (fm_dec dtX11_roomOf 5 rfl) ?_
  refine pv_imul (pc := 8) (fm_dec dtX11_roomOf 6 rfl) ?_
  refine pv_iloadn (pc := 9) (n := 2) 2 rfl rfl (fm_dec dtX11_roomOf 7 rfl) ?_
  refine pv_iadd (pc := 10) (fm_dec dtX11_roomOf 8 rfl) ?_
  exact pv_ireturn (pc := 11) rfl (fm_dec dtX11_roomOf 9 rfl) (hq _ (ro_in ha hb hc hx hy hz))
set_option maxRecDepth 20000 in
theorem lo_3 {Q : fmR → fmM → Prop} {M0 : fmM} {i weeks : Int32} {way : Int64} {a b : Int32} {s0 s1 s2 x y : Nat} (h0 : (M0.1 13 0).toInt = s0) (h1 : (M0.1 13 1).toInt = s1) (h2 : (M0.1 13 2).toInt = s2) (ha : a.toInt = x) (hx : s0 ≤ x ∧ x ≤ 12) (hb : b.toInt = y) (hy : s1 ≤ y ∧ y ≤ 12) (hq : ∀ (M' : fmM) (c' : Int32) (v8 v9 v10 v11 v12 v13 : Option Value), loFr M0 M' → pvEv Tm 3 qX11_laysOption 237 [some (.ref 0), some (.int i), some (.int weeks), some (.long way), none, some (.int a), some (.int b), some (.int c'), v8, v9, v10, v11, v12, v13] [] M' Q) : ∀ (m : Nat) (M : fmM) (k : Nat) (c : Int32) (v8 v9 v10 v11 v12 v13 : Option Value), c.toInt = k → s2 ≤ k → k + m = 13 → loFr M0 M → pvEv Tm 3 qX11_laysOption 82 [some (.ref 0), some (.int i), some (.int weeks), some (.long way), none, some (.int a), some (.int b), some (.int c), v8, v9, v10, v11, v12, v13] [] M Q := by
  intro m
  induction m using Nat.strongRecOn with
  | _ m ih =>
    intro M k c v8 v9 v10 v11 v12 v13 hkk hs hm hW
    refine pv_iload (pc := 82) (i := 7) rfl (fm_dec dtX11_laysOption 48 rfl) ?_
    refine pv_bipush (pc := 84) (v := 12) (by decide) (fm_dec dtX11_laysOption 49 rfl) ?_
    refine pv_icmp_gt (pc := 86) 237 (by decide) (fm_dec dtX11_laysOption 50 rfl) (fun hc86 => ?_) (fun hc86 => ?_)
    · exact hq M c _ _ _ _ _ _ hW
    · have hk13 : k < 13 := (by rw [sc_lt] at hc86; have h9 : (12 : Int32).toInt = 12 := (by decide); omega)
      refine pv_iload (pc := 89) (i := 5) rfl (fm_dec dtX11_laysOption 51 rfl) ?_
      refine pv_iload (pc := 91) (i := 6) rfl (fm_dec dtX11_laysOption 52 rfl) ?_
      refine pv_iload (pc := 93) (i := 7) rfl (fm_dec dtX11_laysOption 53 rfl) ?_
      refine pv_iS3 (d' := 0) (pc := 95) pcs_X11_369 (Nat.le_of_ble_eq_true rfl) (by decide) (fm_dec dtX11_laysOption 54 rfl) ?_
      refine c_roomOf ha hb hkk hx.2 hy.2 (show k ≤ 12 by omega) (fun r95 h95 => ?_)
      refine pv_then1 ?_
      refine pv_istore (pc := 98) (i := 8) (by decide) rfl (fm_dec dtX11_laysOption 55 rfl) ?_
      dsimp only [List.set_cons_zero, List.set_cons_succ]
      refine pv_iload (pc := 100) (i := 5) rfl (fm_dec dtX11_laysOption 56 rfl) ?_
      refine pv_aloadn (pc := 102) (n := 0) 0 rfl rfl (fm_dec dtX11_laysOption 57 rfl) ?_
      refine pv_getR (k := 0) (j := 42) (ci := 11) (pc := 103) 13 rfl (by decide) pfl_X11_86 (by decide) rfl (by decide) (fm_dec dtX11_laysOption 58 rfl) ?_
      refine pv_iconst (pc := 106) (v := 0) (by decide) (fm_dec dtX11_laysOption 59 rfl) ?_
      refine pv_iald (k := 13) (n := 3) (pc := 107) (by decide) rfl rfl (fm_inl (by decide)) (fm_dec dtX11_laysOption 60 rfl) ?_
      refine pv_isub (pc := 108) (fm_dec dtX11_laysOption 61 rfl) ?_
      refine pv_iload (pc := 109) (i := 6) rfl (fm_dec dtX11_laysOption 62 rfl) ?_
      refine pv_aloadn (pc := 111) (n := 0) 0 rfl rfl (fm_dec dtX11_laysOption 63 rfl) ?_
      refine pv_getR (k := 0) (j := 42) (ci := 11) (pc := 112) 13 rfl (by decide) pfl_X11_86 (by decide) rfl (by decide) (fm_dec dtX11_laysOption 64 rfl) ?_
      refine pv_iconst (pc := 115) (v := 1) (by decide) (fm_dec dtX11_laysOption 65 rfl) ?_
      refine pv_iald (k := 13) (n := 3) (pc := 116) (by decide) rfl rfl (fm_inl (by decide)) (fm_dec dtX11_laysOption 66 rfl) ?_
      refine pv_isub (pc := 117) (fm_dec dtX11_laysOption 67 rfl) ?_
      refine pv_iload (pc := 118) (i := 7) rfl (fm_dec dtX11_laysOption 68 rfl) ?_
      refine pv_aloadn (pc := 120) (n := 0) 0 rfl rfl (fm_dec dtX11_laysOption 69 rfl) ?_
      refine pv_getR (k := 0) (j := 42) (ci := 11) (pc := 121) 13 rfl (by decide) pfl_X11_86 (by decide) rfl (by decide) (fm_dec dtX11_laysOption 70 rfl) ?_
      refine pv_iconst (pc := 124) (v := 2) (by decide) (fm_dec dtX11_laysOption 71 rfl) ?_
      refine pv_iald (k := 13) (n := 3) (pc := 125) (by decide) rfl rfl (fm_inl (by decide)) (fm_dec dtX11_laysOption 72 rfl) ?_
      refine pv_isub (pc := 126) (fm_dec dtX11_laysOption 73 rfl) ?_
      refine pv_iS3 (d' := 0) (pc := 127) pcs_X11_369 (Nat.le_of_ble_eq_true rfl) (by decide) (fm_dec dtX11_laysOption 74 rfl) ?_
      refine c_roomOf (sb_i ha (by rw [hW.1]; exact h0) hx.1 (by omega)) (sb_i hb (by rw [hW.1]; exact h1) hy.1 (by omega)) (sb_i hkk (by rw [hW.1]; exact h2) hs (by omega)) (by omega) (by omega) (by omega) (fun r130 h130 => ?_)
      refine pv_then1 ?_
      refine pv_istore (pc := 130) (i := 9) (by decide) rfl (fm_dec dtX11_laysOption 75 rfl) ?_
      dsimp only [List.set_cons_zero, List.set_cons_succ]
      refine pv_aloadn (pc := 132) (n := 0) 0 rfl rfl (fm_dec dtX11_laysOption 76 rfl) ?_
      refine pv_getR (k := 0) (j := 38) (ci := 11) (pc := 133) 9 rfl (by decide) pfl_X11_73 (by decide) rfl (by decide) (fm_dec dtX11_laysOption 77 rfl) ?_
      refine pv_iload (pc := 136) (i := 9) rfl (fm_dec dtX11_laysOption 78 rfl) ?_
      refine pv_lald (k := 9) (n := 2197) (pc := 138) (by decide) rfl rfl (ix_in h130 (by omega)) (fm_dec dtX11_laysOption 79 rfl) ?_
      refine pv_aloadn (pc := 139) (n := 0) 0 rfl rfl (fm_dec dtX11_laysOption 80 rfl) ?_
      refine pv_getJ (k := 0) (j := 43) (ci := 11) (pc := 140) pfl_X11_361 (by decide) rfl (by decide) (fm_dec dtX11_laysOption 81 rfl) ?_
      refine pv_ladd (pc := 143) (fm_dec dtX11_laysOption 82 rfl) ?_
      refine pv_lstore (pc := 144) (i := 10) (by decide) rfl (fm_dec dtX11_laysOption 83 rfl) ?_
      dsimp only [List.set_cons_zero, List.set_cons_succ]
      refine pv_aloadn (pc := 146) (n := 0) 0 rfl rfl (fm_dec dtX11_laysOption 84 rfl) ?_
      refine pv_getR (k := 0) (j := 39) (ci := 11) (pc := 147) 10 rfl (by decide) pfl_X11_77 (by decide) rfl (by decide) (fm_dec dtX11_laysOption 85 rfl) ?_
      refine pv_iload (pc := 150) (i := 9) rfl (fm_dec dtX11_laysOption 86 rfl) ?_
      refine pv_lald (k := 10) (n := 2197) (pc := 152) (by decide) rfl rfl (ix_in h130 (by omega)) (fm_dec dtX11_laysOption 87 rfl) ?_
      refine pv_lloadn (pc := 153) (n := 3) 3 rfl rfl (fm_dec dtX11_laysOption 88 rfl) ?_
      refine pv_ladd (pc := 154) (fm_dec dtX11_laysOption 89 rfl) ?_
      refine pv_lstore (pc := 155) (i := 12) (by decide) rfl (fm_dec dtX11_laysOption 90 rfl) ?_
      dsimp only [List.set_cons_zero, List.set_cons_succ]
      refine pv_aloadn (pc := 157) (n := 0) 0 rfl rfl (fm_dec dtX11_laysOption 91 rfl) ?_
      refine pv_getR (k := 0) (j := 40) (ci := 11) (pc := 158) 11 rfl (by decide) pfl_X11_80 (by decide) rfl (by decide) (fm_dec dtX11_laysOption 92 rfl) ?_
      refine pv_iload (pc := 161) (i := 8) rfl (fm_dec dtX11_laysOption 93 rfl) ?_
      refine pv_lald (k := 11) (n := 2197) (pc := 163) (by decide) rfl rfl (ix_in h95 (by omega)) (fm_dec dtX11_laysOption 94 rfl) ?_
      refine pv_ldc2 (pc := 164) pkc_X11_372 (fm_dec dtX11_laysOption 95 rfl) ?_
      refine pv_lcmp (pc := 167) (fm_dec dtX11_laysOption 96 rfl) ?_
      refine pv_if_eq (pc := 168) 213 (by decide) (fm_dec dtX11_laysOption 97 rfl) (fun hc168 => ?_) (fun hc168 => ?_)
      · refine pv_aloadn (pc := 213) (n := 0) 0 rfl rfl (fm_dec dtX11_laysOption 120 rfl) ?_
        refine pv_getR (k := 0) (j := 40) (ci := 11) (pc := 214) 11 rfl (by decide) pfl_X11_80 (by decide) rfl (by decide) (fm_dec dtX11_laysOption 121 rfl) ?_
        refine pv_iload (pc := 217) (i := 8) rfl (fm_dec dtX11_laysOption 122 rfl) ?_
        refine pv_lload (pc := 219) (i := 10) rfl (fm_dec dtX11_laysOption 123 rfl) ?_
        refine pv_last (k := 11) (n := 2197) (pc := 221) (by decide) rfl rfl (ix_in h95 (by omega)) (fm_dec dtX11_laysOption 124 rfl) ?_
        refine pv_aloadn (pc := 222) (n := 0) 0 rfl rfl (fm_dec dtX11_laysOption 125 rfl) ?_
        refine pv_getR (k := 0) (j := 41) (ci := 11) (pc := 223) 12 rfl (by decide) pfl_X11_83 (by decide) rfl (by decide) (fm_dec dtX11_laysOption 126 rfl) ?_
        refine pv_iload (pc := 226) (i := 8) rfl (fm_dec dtX11_laysOption 127 rfl) ?_
        refine pv_lload (pc := 228) (i := 12) rfl (fm_dec dtX11_laysOption 128 rfl) ?_
        refine pv_last (k := 12) (n := 2197) (pc := 230) (by decide) rfl rfl (ix_in h95 (by omega)) (fm_dec dtX11_laysOption 129 rfl) ?_
        refine pv_iincc (pc := 231) 7 1 (by decide) rfl (by decide) rfl (fm_dec dtX11_laysOption 130 rfl) ?_
        dsimp only [List.set_cons_zero, List.set_cons_succ]
        refine pv_goto (pc := 234) 82 (by decide) (fm_dec dtX11_laysOption 131 rfl) ?_
        exact ih (13 - (k + 1)) (by omega) _ (k + 1) _ _ _ _ _ _ _ (i32_p1 hkk (by omega)) (by omega) (by omega) (by first | exact hW | exact (hW.put (Or.inl rfl) (by rw [i32_cl h95]; omega)).put (Or.inr rfl) (by rw [i32_cl h95]; omega))
      · refine pv_lload (pc := 171) (i := 10) rfl (fm_dec dtX11_laysOption 98 rfl) ?_
        refine pv_aloadn (pc := 173) (n := 0) 0 rfl rfl (fm_dec dtX11_laysOption 99 rfl) ?_
        refine pv_getR (k := 0) (j := 40) (ci := 11) (pc := 174) 11 rfl (by decide) pfl_X11_80 (by decide) rfl (by decide) (fm_dec dtX11_laysOption 100 rfl) ?_
        refine pv_iload (pc := 177) (i := 8) rfl (fm_dec dtX11_laysOption 101 rfl) ?_
        refine pv_lald (k := 11) (n := 2197) (pc := 179) (by decide) rfl rfl (ix_in h95 (by omega)) (fm_dec dtX11_laysOption 102 rfl) ?_
        refine pv_lcmp (pc := 180) (fm_dec dtX11_laysOption 103 rfl) ?_
        refine pv_if_gt (pc := 181) 231 (by decide) (fm_dec dtX11_laysOption 104 rfl) (fun hc181 => ?_) (fun hc181 => ?_)
        · refine pv_iincc (pc := 231) 7 1 (by decide) rfl (by decide) rfl (fm_dec dtX11_laysOption 130 rfl) ?_
          dsimp only [List.set_cons_zero, List.set_cons_succ]
          refine pv_goto (pc := 234) 82 (by decide) (fm_dec dtX11_laysOption 131 rfl) ?_
          exact ih (13 - (k + 1)) (by omega) _ (k + 1) _ _ _ _ _ _ _ (i32_p1 hkk (by omega)) (by omega) (by omega) (by first | exact hW | exact (hW.put (Or.inl rfl) (by rw [i32_cl h95]; omega)).put (Or.inr rfl) (by rw [i32_cl h95]; omega))
        · refine pv_lload (pc := 184) (i := 10) rfl (fm_dec dtX11_laysOption 105 rfl) ?_
          refine pv_aloadn (pc := 186) (n := 0) 0 rfl rfl (fm_dec dtX11_laysOption 106 rfl) ?_
          refine pv_getR (k := 0) (j := 40) (ci := 11) (pc := 187) 11 rfl (by decide) pfl_X11_80 (by decide) rfl (by decide) (fm_dec dtX11_laysOption 107 rfl) ?_
          refine pv_iload (pc := 190) (i := 8) rfl (fm_dec dtX11_laysOption 108 rfl) ?_
          refine pv_lald (k := 11) (n := 2197) (pc := 192) (by decide) rfl rfl (ix_in h95 (by omega)) (fm_dec dtX11_laysOption 109 rfl) ?_
          refine pv_lcmp (pc := 193) (fm_dec dtX11_laysOption 110 rfl) ?_
          refine pv_if_ne (pc := 194) 213 (by decide) (fm_dec dtX11_laysOption 111 rfl) (fun hc194 => ?_) (fun hc194 => ?_)
          · refine pv_aloadn (pc := 213) (n := 0) 0 rfl rfl (fm_dec dtX11_laysOption 120 rfl) ?_
            refine pv_getR (k := 0) (j := 40) (ci := 11) (pc := 214) 11 rfl (by decide) pfl_X11_80 (by decide) rfl (by decide) (fm_dec dtX11_laysOption 121 rfl) ?_
            refine pv_iload (pc := 217) (i := 8) rfl (fm_dec dtX11_laysOption 122 rfl) ?_
            refine pv_lload (pc := 219) (i := 10) rfl (fm_dec dtX11_laysOption 123 rfl) ?_
            refine pv_last (k := 11) (n := 2197) (pc := 221) (by decide) rfl rfl (ix_in h95 (by omega)) (fm_dec dtX11_laysOption 124 rfl) ?_
            refine pv_aloadn (pc := 222) (n := 0) 0 rfl rfl (fm_dec dtX11_laysOption 125 rfl) ?_
            refine pv_getR (k := 0) (j := 41) (ci := 11) (pc := 223) 12 rfl (by decide) pfl_X11_83 (by decide) rfl (by decide) (fm_dec dtX11_laysOption 126 rfl) ?_
            refine pv_iload (pc := 226) (i := 8) rfl (fm_dec dtX11_laysOption 127 rfl) ?_
            refine pv_lload (pc := 228) (i := 12) rfl (fm_dec dtX11_laysOption 128 rfl) ?_
            refine pv_last (k := 12) (n := 2197) (pc := 230) (by decide) rfl rfl (ix_in h95 (by omega)) (fm_dec dtX11_laysOption 129 rfl) ?_
            refine pv_iincc (pc := 231) 7 1 (by decide) rfl (by decide) rfl (fm_dec dtX11_laysOption 130 rfl) ?_
            dsimp only [List.set_cons_zero, List.set_cons_succ]
            refine pv_goto (pc := 234) 82 (by decide) (fm_dec dtX11_laysOption 131 rfl) ?_
            exact ih (13 - (k + 1)) (by omega) _ (k + 1) _ _ _ _ _ _ _ (i32_p1 hkk (by omega)) (by omega) (by omega) (by first | exact hW | exact (hW.put (Or.inl rfl) (by rw [i32_cl h95]; omega)).put (Or.inr rfl) (by rw [i32_cl h95]; omega))
          · refine pv_lload (pc := 197) (i := 12) rfl (fm_dec dtX11_laysOption 112 rfl) ?_
            refine pv_aloadn (pc := 199) (n := 0) 0 rfl rfl (fm_dec dtX11_laysOption 113 rfl) ?_
            refine pv_getR (k := 0) (j := 41) (ci := 11) (pc := 200) 12 rfl (by decide) pfl_X11_83 (by decide) rfl (by decide) (fm_dec dtX11_laysOption 114 rfl) ?_
            refine pv_iload (pc := 203) (i := 8) rfl (fm_dec dtX11_laysOption 115 rfl) ?_
            refine pv_lald (k := 12) (n := 2197) (pc := 205) (by decide) rfl rfl (ix_in h95 (by omega)) (fm_dec dtX11_laysOption 116 rfl) ?_
            refine pv_lcmp (pc := 206) (fm_dec dtX11_laysOption 117 rfl) ?_
            refine pv_if_lt (pc := 207) 213 (by decide) (fm_dec dtX11_laysOption 118 rfl) (fun hc207 => ?_) (fun hc207 => ?_)
            · refine pv_aloadn (pc := 213) (n := 0) 0 rfl rfl (fm_dec dtX11_laysOption 120 rfl) ?_
              refine pv_getR (k := 0) (j := 40) (ci := 11) (pc := 214) 11 rfl (by decide) pfl_X11_80 (by decide) rfl (by decide) (fm_dec dtX11_laysOption 121 rfl) ?_
              refine pv_iload (pc := 217) (i := 8) rfl (fm_dec dtX11_laysOption 122 rfl) ?_
              refine pv_lload (pc := 219) (i := 10) rfl (fm_dec dtX11_laysOption 123 rfl) ?_
              refine pv_last (k := 11) (n := 2197) (pc := 221) (by decide) rfl rfl (ix_in h95 (by omega)) (fm_dec dtX11_laysOption 124 rfl) ?_
              refine pv_aloadn (pc := 222) (n := 0) 0 rfl rfl (fm_dec dtX11_laysOption 125 rfl) ?_
              refine pv_getR (k := 0) (j := 41) (ci := 11) (pc := 223) 12 rfl (by decide) pfl_X11_83 (by decide) rfl (by decide) (fm_dec dtX11_laysOption 126 rfl) ?_
              refine pv_iload (pc := 226) (i := 8) rfl (fm_dec dtX11_laysOption 127 rfl) ?_
              refine pv_lload (pc := 228) (i := 12) rfl (fm_dec dtX11_laysOption 128 rfl) ?_
              refine pv_last (k := 12) (n := 2197) (pc := 230) (by decide) rfl rfl (ix_in h95 (by omega)) (fm_dec dtX11_laysOption 129 rfl) ?_
              refine pv_iincc (pc := 231) 7 1 (by decide) rfl (by decide) rfl (fm_dec dtX11_laysOption 130 rfl) ?_
              dsimp only [List.set_cons_zero, List.set_cons_succ]
              refine pv_goto (pc := 234) 82 (by decide) (fm_dec dtX11_laysOption 131 rfl) ?_
              exact ih (13 - (k + 1)) (by omega) _ (k + 1) _ _ _ _ _ _ _ (i32_p1 hkk (by omega)) (by omega) (by omega) (by first | exact hW | exact (hW.put (Or.inl rfl) (by rw [i32_cl h95]; omega)).put (Or.inr rfl) (by rw [i32_cl h95]; omega))
            · refine pv_goto (pc := 210) 231 (by decide) (fm_dec dtX11_laysOption 119 rfl) ?_
              refine pv_iincc (pc := 231) 7 1 (by decide) rfl (by decide) rfl (fm_dec dtX11_laysOption 130 rfl) ?_
              dsimp only [List.set_cons_zero, List.set_cons_succ]
              refine pv_goto (pc := 234) 82 (by decide) (fm_dec dtX11_laysOption 131 rfl) ?_
              exact ih (13 - (k + 1)) (by omega) _ (k + 1) _ _ _ _ _ _ _ (i32_p1 hkk (by omega)) (by omega) (by omega) (by first | exact hW | exact (hW.put (Or.inl rfl) (by rw [i32_cl h95]; omega)).put (Or.inr rfl) (by rw [i32_cl h95]; omega))
set_option maxRecDepth 20000 in
theorem lo_2 {Q : fmR → fmM → Prop} {M0 : fmM} {i weeks : Int32} {way : Int64} {a : Int32} {s0 s1 s2 x : Nat} (h0 : (M0.1 13 0).toInt = s0) (h1 : (M0.1 13 1).toInt = s1) (h2 : (M0.1 13 2).toInt = s2) (b2 : s2 ≤ 9) (ha : a.toInt = x) (hx : s0 ≤ x ∧ x ≤ 12) (hq : ∀ (M' : fmM) (b' : Int32) (v7 v8 v9 v10 v11 v12 v13 : Option Value), loFr M0 M' → pvEv Tm 3 qX11_laysOption 243 [some (.ref 0), some (.int i), some (.int weeks), some (.long way), none, some (.int a), some (.int b'), v7, v8, v9, v10, v11, v12, v13] [] M' Q) : ∀ (m : Nat) (M : fmM) (k : Nat) (b : Int32) (v7 v8 v9 v10 v11 v12 v13 : Option Value), b.toInt = k → s1 ≤ k → k + m = 13 → loFr M0 M → pvEv Tm 3 qX11_laysOption 67 [some (.ref 0), some (.int i), some (.int weeks), some (.long way), none, some (.int a), some (.int b), v7, v8, v9, v10, v11, v12, v13] [] M Q := by
  intro m
  induction m using Nat.strongRecOn with
  | _ m ih =>
    intro M k b v7 v8 v9 v10 v11 v12 v13 hkk hs hm hW
    refine pv_iload (pc := 67) (i := 6) rfl (fm_dec dtX11_laysOption 40 rfl) ?_
    refine pv_bipush (pc := 69) (v := 12) (by decide) (fm_dec dtX11_laysOption 41 rfl) ?_
    refine pv_icmp_gt (pc := 71) 243 (by decide) (fm_dec dtX11_laysOption 42 rfl) (fun hc71 => ?_) (fun hc71 => ?_)
    · exact hq M b _ _ _ _ _ _ _ hW
    · have hk13 : k < 13 := (by rw [sc_lt] at hc71; have h9 : (12 : Int32).toInt = 12 := (by decide); omega)
      refine pv_aloadn (pc := 74) (n := 0) 0 rfl rfl (fm_dec dtX11_laysOption 43 rfl) ?_
      refine pv_getR (k := 0) (j := 42) (ci := 11) (pc := 75) 13 rfl (by decide) pfl_X11_86 (by decide) rfl (by decide) (fm_dec dtX11_laysOption 44 rfl) ?_
      refine pv_iconst (pc := 78) (v := 2) (by decide) (fm_dec dtX11_laysOption 45 rfl) ?_
      refine pv_iald (k := 13) (n := 3) (pc := 79) (by decide) rfl rfl (fm_inl (by decide)) (fm_dec dtX11_laysOption 46 rfl) ?_
      refine pv_istore (pc := 80) (i := 7) (by decide) rfl (fm_dec dtX11_laysOption 47 rfl) ?_
      dsimp only [List.set_cons_zero, List.set_cons_succ]
      refine lo_3 h0 h1 h2 ha hx hkk ⟨hs, by omega⟩ (fun M3 c3 w8 w9 w10 w11 w12 w13 hW3 => ?_) (13 - s2) _ s2 _ _ _ _ _ _ _ (by rw [hW.1]; exact h2) (Nat.le_refl _) (by omega) hW
      refine pv_iincc (pc := 237) 6 1 (by decide) rfl (by decide) rfl (fm_dec dtX11_laysOption 132 rfl) ?_
      dsimp only [List.set_cons_zero, List.set_cons_succ]
      refine pv_goto (pc := 240) 67 (by decide) (fm_dec dtX11_laysOption 133 rfl) ?_
      exact ih (13 - (k + 1)) (by omega) _ (k + 1) _ _ _ _ _ _ _ _ (i32_p1 hkk (by omega)) (by omega) (by omega) hW3
set_option maxRecDepth 20000 in
theorem lo_1 {Q : fmR → fmM → Prop} {M0 : fmM} {i weeks : Int32} {way : Int64} {s0 s1 s2 : Nat} (h0 : (M0.1 13 0).toInt = s0) (h1 : (M0.1 13 1).toInt = s1) (h2 : (M0.1 13 2).toInt = s2) (b1 : s1 ≤ 9) (b2 : s2 ≤ 9) (hq : ∀ M' : fmM, loFr M0 M' → Q (.inl none) M') : ∀ (m : Nat) (M : fmM) (k : Nat) (a : Int32) (v6 v7 v8 v9 v10 v11 v12 v13 : Option Value), a.toInt = k → s0 ≤ k → k + m = 13 → loFr M0 M → pvEv Tm 3 qX11_laysOption 52 [some (.ref 0), some (.int i), some (.int weeks), some (.long way), none, some (.int a), v6, v7, v8, v9, v10, v11, v12, v13] [] M Q := by
  intro m
  induction m using Nat.strongRecOn with
  | _ m ih =>
    intro M k a v6 v7 v8 v9 v10 v11 v12 v13 hkk hs hm hW
    refine pv_iload (pc := 52) (i := 5) rfl (fm_dec dtX11_laysOption 32 rfl) ?_
    refine pv_bipush (pc := 54) (v := 12) (by decide) (fm_dec dtX11_laysOption 33 rfl) ?_
    refine pv_icmp_gt (pc := 56) 249 (by decide) (fm_dec dtX11_laysOption 34 rfl) (fun hc56 => ?_) (fun hc56 => ?_)
    · exact pv_return (pc := 249) rfl (fm_dec dtX11_laysOption 136 rfl) (hq M hW)
    · have hk13 : k < 13 := (by rw [sc_lt] at hc56; have h9 : (12 : Int32).toInt = 12 := (by decide); omega)
      refine pv_aloadn (pc := 59) (n := 0) 0 rfl rfl (fm_dec dtX11_laysOption 35 rfl) ?_
      refine pv_getR (k := 0) (j := 42) (ci := 11) (pc := 60) 13 rfl (by decide) pfl_X11_86 (by decide) rfl (by decide) (fm_dec dtX11_laysOption 36 rfl) ?_
      refine pv_iconst (pc := 63) (v := 1) (by decide) (fm_dec dtX11_laysOption 37 rfl) ?_
      refine pv_iald (k := 13) (n := 3) (pc := 64) (by decide) rfl rfl (fm_inl (by decide)) (fm_dec dtX11_laysOption 38 rfl) ?_
      refine pv_istore (pc := 65) (i := 6) (by decide) rfl (fm_dec dtX11_laysOption 39 rfl) ?_
      dsimp only [List.set_cons_zero, List.set_cons_succ]
      refine lo_2 h0 h1 h2 b2 hkk ⟨hs, by omega⟩ (fun M3 c3 w7 w8 w9 w10 w11 w12 w13 hW3 => ?_) (13 - s1) _ s1 _ _ _ _ _ _ _ _ (by rw [hW.1]; exact h1) (Nat.le_refl _) (by omega) hW
      refine pv_iincc (pc := 243) 5 1 (by decide) rfl (by decide) rfl (fm_dec dtX11_laysOption 134 rfl) ?_
      dsimp only [List.set_cons_zero, List.set_cons_succ]
      refine pv_goto (pc := 246) 52 (by decide) (fm_dec dtX11_laysOption 135 rfl) ?_
      exact ih (13 - (k + 1)) (by omega) _ (k + 1) _ _ _ _ _ _ _ _ _ (i32_p1 hkk (by omega)) (by omega) (by omega) hW3
set_option maxRecDepth 20000 in
theorem lo_0 {Q : fmR → fmM → Prop} {M : fmM} {i weeks : Int32} (hq : ∀ (way : Int64) (kk' : Int32) (v6 v7 v8 v9 v10 v11 v12 v13 : Option Value), pvEv Tm 3 qX11_laysOption 44 [some (.ref 0), some (.int i), some (.int weeks), some (.long way), none, some (.int kk'), v6, v7, v8, v9, v10, v11, v12, v13] [] M Q) : ∀ (m : Nat) (k : Nat) (kk : Int32) (way : Int64) (v6 v7 v8 v9 v10 v11 v12 v13 : Option Value), kk.toInt = k → k + m = 3 → pvEv Tm 3 qX11_laysOption 5 [some (.ref 0), some (.int i), some (.int weeks), some (.long way), none, some (.int kk), v6, v7, v8, v9, v10, v11, v12, v13] [] M Q := by
  intro m
  induction m using Nat.strongRecOn with
  | _ m ih =>
    intro k kk way v6 v7 v8 v9 v10 v11 v12 v13 hkk hm
    refine pv_iload (pc := 5) (i := 5) rfl (fm_dec dtX11_laysOption 4 rfl) ?_
    refine pv_iconst (pc := 7) (v := 3) (by decide) (fm_dec dtX11_laysOption 5 rfl) ?_
    refine pv_icmp_ge (pc := 8) 44 (by decide) (fm_dec dtX11_laysOption 6 rfl) (fun hc8 => ?_) (fun hc8 => ?_)
    · exact hq way kk _ _ _ _ _ _ _ _
    · have hk3 : k < 3 := (by rw [sc_le] at hc8; have h9 : (3 : Int32).toInt = 3 := (by decide); omega)
      refine pv_lloadn (pc := 11) (n := 3) 3 rfl rfl (fm_dec dtX11_laysOption 7 rfl) ?_
      refine pv_iloadn (pc := 12) (n := 2) 2 rfl rfl (fm_dec dtX11_laysOption 8 rfl) ?_
      refine pv_iload (pc := 13) (i := 5) rfl (fm_dec dtX11_laysOption 9 rfl) ?_
      refine pv_iS2 (d' := 0) (pc := 15) pcs_X11_256 (Nat.le_of_ble_eq_true rfl) (by decide) (fm_dec dtX11_laysOption 10 rfl) ?_
      refine c_has (fun h15 => ?_) (fun h15 => ?_)
      · refine pv_then1 ?_
        refine pv_if_eq (pc := 18) 35 (by decide) (fm_dec dtX11_laysOption 11 rfl) (fun hc18 => by exfalso; revert hc18; decide) (fun _ => ?_)
        refine pv_lconst (pc := 21) (v := 1) (by decide) (fm_dec dtX11_laysOption 12 rfl) ?_
        refine pv_bipush (pc := 22) (v := 8) (by decide) (fm_dec dtX11_laysOption 13 rfl) ?_
        refine pv_iconst (pc := 24) (v := 2) (by decide) (fm_dec dtX11_laysOption 14 rfl) ?_
        refine pv_iload (pc := 25) (i := 5) rfl (fm_dec dtX11_laysOption 15 rfl) ?_
        refine pv_isub (pc := 27) (fm_dec dtX11_laysOption 16 rfl) ?_
        refine pv_imul (pc := 28) (fm_dec dtX11_laysOption 17 rfl) ?_
        refine pv_iloadn (pc := 29) (n := 1) 1 rfl rfl (fm_dec dtX11_laysOption 18 rfl) ?_
        refine pv_iadd (pc := 30) (fm_dec dtX11_laysOption 19 rfl) ?_
        refine pv_lshl (pc := 31) (fm_dec dtX11_laysOption 20 rfl) ?_
        refine pv_goto (pc := 32) 36 (by decide) (fm_dec dtX11_laysOption 21 rfl) ?_
        refine pv_ladd (pc := 36) (fm_dec dtX11_laysOption 23 rfl) ?_
        refine pv_lstoren (pc := 37) (n := 3) 3 rfl (by decide) rfl (fm_dec dtX11_laysOption 24 rfl) ?_
        dsimp only [List.set_cons_zero, List.set_cons_succ]
        refine pv_iincc (pc := 38) 5 1 (by decide) rfl (by decide) rfl (fm_dec dtX11_laysOption 25 rfl) ?_
        dsimp only [List.set_cons_zero, List.set_cons_succ]
        refine pv_goto (pc := 41) 5 (by decide) (fm_dec dtX11_laysOption 26 rfl) ?_
        exact ih (3 - (k + 1)) (by omega) (k + 1) _ _ _ _ _ _ _ _ _ _ (i32_p1 hkk (by omega)) (by omega)
      · refine pv_then1 ?_
        refine pv_if_eq (pc := 18) 35 (by decide) (fm_dec dtX11_laysOption 11 rfl) (fun _ => ?_) (fun hc18 => by exfalso; revert hc18; decide)
        refine pv_lconst (pc := 35) (v := 0) (by decide) (fm_dec dtX11_laysOption 22 rfl) ?_
        refine pv_ladd (pc := 36) (fm_dec dtX11_laysOption 23 rfl) ?_
        refine pv_lstoren (pc := 37) (n := 3) 3 rfl (by decide) rfl (fm_dec dtX11_laysOption 24 rfl) ?_
        dsimp only [List.set_cons_zero, List.set_cons_succ]
        refine pv_iincc (pc := 38) 5 1 (by decide) rfl (by decide) rfl (fm_dec dtX11_laysOption 25 rfl) ?_
        dsimp only [List.set_cons_zero, List.set_cons_succ]
        refine pv_goto (pc := 41) 5 (by decide) (fm_dec dtX11_laysOption 26 rfl) ?_
        exact ih (3 - (k + 1)) (by omega) (k + 1) _ _ _ _ _ _ _ _ _ _ (i32_p1 hkk (by omega)) (by omega)
set_option maxRecDepth 20000 in
theorem c_laysOption {M : fmM} {Q : fmR → fmM → Prop} {i weeks : Int32} {s0 s1 s2 : Nat} (h0 : (M.1 13 0).toInt = s0) (h1 : (M.1 13 1).toInt = s1) (h2 : (M.1 13 2).toInt = s2) (b0 : s0 ≤ 9) (b1 : s1 ≤ 9) (b2 : s2 ≤ 9) (hq : ∀ M' : fmM, loFr M M' → Q (.inl none) M') : pvGood Tm 3 qX11_laysOption [.ref 0, .int i, .int weeks] M Q := by
  refine pvGood_of (Nat.le_of_ble_eq_true rfl) ?_
  show pvEv Tm 3 qX11_laysOption 0 [some (.ref 0), some (.int i), some (.int weeks), none, none, none, none, none, none, none, none, none, none, none] [] M Q
  refine pv_lconst (pc := 0) (v := 0) (by decide) (fm_dec dtX11_laysOption 0 rfl) ?_
  refine pv_lstoren (pc := 1) (n := 3) 3 rfl (by decide) rfl (fm_dec dtX11_laysOption 1 rfl) ?_
  dsimp only [List.set_cons_zero, List.set_cons_succ]
  refine pv_iconst (pc := 2) (v := 0) (by decide) (fm_dec dtX11_laysOption 2 rfl) ?_
  refine pv_istore (pc := 3) (i := 5) (by decide) rfl (fm_dec dtX11_laysOption 3 rfl) ?_
  dsimp only [List.set_cons_zero, List.set_cons_succ]
  refine lo_0 (fun way kk w6 w7 w8 w9 w10 w11 w12 w13 => ?_) 3 0 0 0 _ _ _ _ _ _ _ _ (by decide) (by decide)
  refine pv_aloadn (pc := 44) (n := 0) 0 rfl rfl (fm_dec dtX11_laysOption 27 rfl) ?_
  refine pv_getR (k := 0) (j := 42) (ci := 11) (pc := 45) 13 rfl (by decide) pfl_X11_86 (by decide) rfl (by decide) (fm_dec dtX11_laysOption 28 rfl) ?_
  refine pv_iconst (pc := 48) (v := 0) (by decide) (fm_dec dtX11_laysOption 29 rfl) ?_
  refine pv_iald (k := 13) (n := 3) (pc := 49) (by decide) rfl rfl (fm_inl (by decide)) (fm_dec dtX11_laysOption 30 rfl) ?_
  refine pv_istore (pc := 50) (i := 5) (by decide) rfl (fm_dec dtX11_laysOption 31 rfl) ?_
  dsimp only [List.set_cons_zero, List.set_cons_succ]
  exact lo_1 h0 h1 h2 b1 b2 hq (13 - s0) M s0 _ _ _ _ _ _ _ _ _ h0 (Nat.le_refl _) (by omega) ⟨rfl, fun _ _ _ => rfl⟩
theorem hh_hand_laysOption : scH Tm invM cc_hand_laysOption := by
  intro M σ as hE hS hF hI
  obtain ⟨r, st1, hr, e1, q1⟩ := scSk_r hS
  obtain ⟨i, st2, e2, hi, q2⟩ := scSk_i q1
  obtain ⟨w, st3, e3, hw, q3⟩ := scSk_i q2
  have e5 := scSk_0 q3
  have er : r = 0 := by simpa using hr
  subst er
  subst e5
  subst e3
  subst e2
  subst e1
  have hb : ∀ j, j < 3 → 0 ≤ (M.1 13 j).toInt ∧ (M.1 13 j).toInt ≤ 9 := fun j hj => hI.1 13 j hj
  have g0 := hb 0 (by decide)
  have g1 := hb 1 (by decide)
  have g2 := hb 2 (by decide)
  refine c_laysOption (s0 := (M.1 13 0).toInt.toNat) (s1 := (M.1 13 1).toInt.toNat) (s2 := (M.1 13 2).toInt.toNat) (by omega) (by omega) (by omega) (by omega) (by omega) (by omega) (fun M' f => ⟨⟨_, List.mem_cons_self, rfl, fun q hq => (by cases hq), fun q hq => (by cases hq)⟩, ⟨fun k j hj => (by rw [f.1]; exact hI.1 k j hj), (by rw [f.1]; exact hI.2)⟩, fun k j hk => ⟨by rw [f.1], f.2 k j (fun h => ?_)⟩⟩)
  have h9 : scIn [(11, 0, 2197), (12, 0, 2197)] k j = true := by
    simp only [scIn, List.any_cons, List.any_nil, Bool.or_false, Bool.or_eq_true, Bool.and_eq_true, beq_iff_eq, Nat.ble_eq, Nat.blt_eq]
    omega
  have hk9 : scIn [(11, 0, 2197), (12, 0, 2197)] k j = false := hk
  rw [h9] at hk9
  cases hk9
-- THE REFERENCE: pictures of the whole
theorem rw_kept : rwOk 26 519 239 3 := ⟨by decide, rfl, rfl, by decide +kernel⟩
/-- where a picture's place comes from -/
def sl (s : Nat) : Nat × Nat := if s = 0 then (0, 32) else if s < 15 then (7, s - 1) else (503 + (s - 15) / 14, (s - 15) % 14)
theorem sl_lt : ∀ s, s < 239 → (sl s).1 < 519 ∧ ¬ ((sl s).1 = 0 ∧ (sl s).2 = 35) := by decide +kernel
def slI (q j : Nat) : Nat := if q = 0 then 0 else if q = 7 then 1 + j else 15 + 14 * (q - 503) + j
theorem slI_ok : ∀ s, s < 239 → slI (sl s).1 (sl s).2 = s := by decide +kernel
theorem sl_inj : ∀ s, s < 239 → ∀ t, t < s → ¬ ((sl t).1 = (sl s).1 ∧ (sl t).2 = (sl s).2) := fun s hs t ht h => by
  have e1 := slI_ok s hs
  have e2 := slI_ok t (by omega)
  rw [h.1, h.2, e1] at e2
  omega
theorem sl_7 {k : Nat} (h : k < 14) : sl (1 + k) = (7, k) := by
  unfold sl
  rw [if_neg (by omega), if_pos (by omega), show 1 + k - 1 = k by omega]
theorem sl_b {w k : Nat} (h : k < 14) : sl (15 + 14 * w + k) = (503 + w, k) := by
  unfold sl
  rw [if_neg (by omega), if_neg (by omega), show (15 + 14 * w + k - 15) / 14 = w by omega, show (15 + 14 * w + k - 15) % 14 = k by omega]
def pa0 (M0 : fmM) (i s : Nat) (M : fmM) : Prop := (∀ t, t < s → M.1 (519 + i) t = M0.1 (sl t).1 (sl t).2) ∧ (∀ q j, ¬ (q = 519 + i ∧ j < s) → ¬ (q = 0 ∧ j = 35) → M.1 q j = M0.1 q j) ∧ (M.1 0 35).toInt = s ∧ M.2 = M0.2
def pa1 (M0 : fmM) (i s : Nat) (M : fmM) : Prop := (∀ t, t < s → M.1 (sl t).1 (sl t).2 = M0.1 (519 + i) t) ∧ (∀ q j, (∀ t, t < s → ¬ ((sl t).1 = q ∧ (sl t).2 = j)) → ¬ (q = 0 ∧ j = 35) → M.1 q j = M0.1 q j) ∧ (M.1 0 35).toInt = s ∧ M.2 = M0.2
theorem pa0.nil {M : fmM} {i : Nat} : pa0 M i 0 (fmI M 0 35 0) := ⟨fun t h => by omega, fun q j _ h => by rw [fmI_at, if_neg h], rfl, rfl⟩
theorem pa1.nil {M : fmM} {i : Nat} : pa1 M i 0 (fmI M 0 35 0) := ⟨fun t h => by omega, fun q j _ h => by rw [fmI_at, if_neg h], rfl, rfl⟩
theorem pa0.step {M0 M : fmM} {i s q j : Nat} (h : pa0 M0 i s M) (hs : s < 239) (hsl : sl s = (q, j)) : pa0 M0 i (s + 1) (fmI (fmI (fmI M (519 + i) s (M.1 q j)) 0 35 (M.1 0 35 + 1)) q j (M.1 q j)) := by
  have g := sl_lt s hs
  rw [hsl] at g
  have g1 : q < 519 := g.1
  have g2 : ¬ (q = 0 ∧ j = 35) := g.2
  have gv : M.1 q j = M0.1 q j := h.2.1 q j (by omega) g2
  refine ⟨fun t ht => ?_, fun q' j' a b => ?_, ?_, h.2.2.2⟩
  · rw [fmI_at, if_neg (by omega), fmI_at, if_neg (by omega), fmI_at]
    by_cases e : t = s
    · subst e
      rw [if_pos ⟨rfl, rfl⟩, hsl]
      exact gv
    · rw [if_neg (by omega)]
      exact h.1 t (by omega)
  · rw [fmI_at]
    by_cases e : q' = q ∧ j' = j
    · rw [if_pos e, e.1, e.2]
      exact gv
    · rw [if_neg e, fmI_at, if_neg b, fmI_at, if_neg (by omega)]
      exact h.2.1 q' j' (by omega) b
  · rw [fmI_at, if_neg (by omega), fmI_s]
    exact i32_p1 h.2.2.1 (by omega)
theorem pa1.step {M0 M : fmM} {i s q j : Nat} (h : pa1 M0 i s M) (hs : s < 239) (hsl : sl s = (q, j)) : pa1 M0 i (s + 1) (fmI (fmI M 0 35 (M.1 0 35 + 1)) q j (M.1 (519 + i) s)) := by
  have g := sl_lt s hs
  have gi := sl_inj s hs
  rw [hsl] at g gi
  have g1 : q < 519 := g.1
  have g2 : ¬ (q = 0 ∧ j = 35) := g.2
  have gi : ∀ t, t < s → ¬ ((sl t).1 = q ∧ (sl t).2 = j) := gi
  have gv : M.1 (519 + i) s = M0.1 (519 + i) s := h.2.1 _ _ (fun t ht e => by have := (sl_lt t (by omega)).1; omega) (by omega)
  refine ⟨fun t ht => ?_, fun q' j' a b => ?_, ?_, h.2.2.2⟩
  · by_cases e : t = s
    · subst e
      rw [hsl, fmI_s]
      exact gv
    · rw [fmI_at, if_neg (gi t (by omega)), fmI_at, if_neg (sl_lt t (by omega)).2]
      exact h.1 t (by omega)
  · have a1 : ¬ (q' = q ∧ j' = j) := fun e => a s (by omega) (by rw [hsl]; exact ⟨e.1.symm, e.2.symm⟩)
    rw [fmI_at, if_neg a1, fmI_at, if_neg b]
    exact h.2.1 q' j' (fun t ht => a t (by omega)) b
  · rw [fmI_at, if_neg (by omega), fmI_s]
    exact i32_p1 h.2.2.1 (by omega)
theorem p1m1 {x : Int32} {s : Nat} (h : x.toInt = s) (hs : s < 239) : (x + 1 - 1).toInt = s := by
  rw [Int32.toInt_sub, i32_p1 h (by omega), show (1 : Int32).toInt = 1 by decide]
  exact (Int.bmod_eq_of_le (by omega) (by omega)).trans (by omega)
theorem pu0 {M : fmM} {K s : Nat} {v : Int32} (hK : K ≠ 0) (hs : (M.1 0 35).toInt = s) (hs9 : s < 239) : ((fmI (fmI M K (M.1 0 35).toNatClampNeg v) 0 35 ((fmI M K (M.1 0 35).toNatClampNeg v).1 0 35 + 1)).1 0 35 - 1).toInt = s ∧ fmI (fmI M K (M.1 0 35).toNatClampNeg v) 0 35 ((fmI M K (M.1 0 35).toNatClampNeg v).1 0 35 + 1) = fmI (fmI M K s v) 0 35 (M.1 0 35 + 1) := by
  have e : (fmI M K (M.1 0 35).toNatClampNeg v).1 0 35 = M.1 0 35 := by rw [fmI_k _ _ (fun e => hK e.symm)]
  rw [fmI_s, e, i32_cl hs]
  exact ⟨p1m1 hs hs9, rfl⟩
set_option maxRecDepth 20000 in
theorem c_puts0 {M : fmM} {Q : fmR → fmM → Prop} {v : Int32} {i s : Nat} (hi : i < 3) (hs : (M.1 0 35).toInt = s) (hs9 : s < 239) (hq : Q (.inl (some (.int v))) (fmI (fmI M (519 + i) s v) 0 35 (M.1 0 35 + 1))) : pvGood Tm 0 qX11_puts [.ref 0, .ref (519 + i), .int v, .int 0] M Q := by
  refine pvGood_of (Nat.le_of_ble_eq_true rfl) ?_
  show pvEv Tm 0 qX11_puts 0 [some (.ref 0), some (.ref (519 + i)), some (.int v), some (.int 0)] [] M Q
  refine pv_iloadn (pc := 0) (n := 3) 3 rfl rfl (fm_dec dtX11_puts 0 rfl) ?_
  refine pv_if_ne (pc := 1) 11 (by decide) (fm_dec dtX11_puts 1 rfl) (fun hc1 => by exfalso; revert hc1; decide) (fun _ => ?_)
  refine pv_aloadn (pc := 4) (n := 1) 1 rfl rfl (fm_dec dtX11_puts 2 rfl) ?_
  refine pv_aloadn (pc := 5) (n := 0) 0 rfl rfl (fm_dec dtX11_puts 3 rfl) ?_
  refine pv_getI (k := 0) (j := 35) (ci := 11) (pc := 6) pfl_X11_436 (by decide) rfl (by decide) (fm_dec dtX11_puts 4 rfl) ?_
  refine pv_iloadn (pc := 9) (n := 2) 2 rfl rfl (fm_dec dtX11_puts 5 rfl) ?_
  refine pv_iast (k := (519 + i)) (n := 239) (pc := 10) (rw_kept.2.2.2 i hi).2.2.1 (rw_kept.2.2.2 i hi).2.2.2.1 (rw_kept.2.2.2 i hi).2.2.2.2 (ix_in hs hs9) (fm_dec dtX11_puts 6 rfl) ?_
  refine pv_aloadn (pc := 11) (n := 0) 0 rfl rfl (fm_dec dtX11_puts 7 rfl) ?_
  refine pv_dup (pc := 12) rfl (fm_dec dtX11_puts 8 rfl) ?_
  refine pv_getI (k := 0) (j := 35) (ci := 11) (pc := 13) pfl_X11_436 (by decide) rfl (by decide) (fm_dec dtX11_puts 9 rfl) ?_
  refine pv_iconst (pc := 16) (v := 1) (by decide) (fm_dec dtX11_puts 10 rfl) ?_
  refine pv_iadd (pc := 17) (fm_dec dtX11_puts 11 rfl) ?_
  refine pv_putI (k := 0) (j := 35) (ci := 11) (pc := 18) pfl_X11_436 (by decide) rfl (by decide) (fm_dec dtX11_puts 12 rfl) ?_
  refine pv_aloadn (pc := 21) (n := 1) 1 rfl rfl (fm_dec dtX11_puts 13 rfl) ?_
  refine pv_aloadn (pc := 22) (n := 0) 0 rfl rfl (fm_dec dtX11_puts 14 rfl) ?_
  refine pv_getI (k := 0) (j := 35) (ci := 11) (pc := 23) pfl_X11_436 (by decide) rfl (by decide) (fm_dec dtX11_puts 15 rfl) ?_
  refine pv_iconst (pc := 26) (v := 1) (by decide) (fm_dec dtX11_puts 16 rfl) ?_
  refine pv_isub (pc := 27) (fm_dec dtX11_puts 17 rfl) ?_
  refine pv_iald (k := (519 + i)) (n := 239) (pc := 28) (rw_kept.2.2.2 i hi).2.2.1 (rw_kept.2.2.2 i hi).2.2.2.1 (rw_kept.2.2.2 i hi).2.2.2.2 (ix_in (pu0 (K := 519 + i) (v := v) (by omega) hs hs9).1 hs9) (fm_dec dtX11_puts 18 rfl) ?_
  exact pv_ireturn (pc := 29) rfl (fm_dec dtX11_puts 19 rfl) (by have h9 := pu0 (K := 519 + i) (v := v) (by omega) hs hs9; rw [i32_cl h9.1, h9.2, fmI_k _ _ (by omega), fmI_s]; exact hq)
set_option maxRecDepth 20000 in
theorem c_puts1 {M : fmM} {Q : fmR → fmM → Prop} {v : Int32} {i s : Nat} (hi : i < 3) (hs : (M.1 0 35).toInt = s) (hs9 : s < 239) (hq : Q (.inl (some (.int (M.1 (519 + i) s)))) (fmI M 0 35 (M.1 0 35 + 1))) : pvGood Tm 0 qX11_puts [.ref 0, .ref (519 + i), .int v, .int 1] M Q := by
  refine pvGood_of (Nat.le_of_ble_eq_true rfl) ?_
  show pvEv Tm 0 qX11_puts 0 [some (.ref 0), some (.ref (519 + i)), some (.int v), some (.int 1)] [] M Q
  refine pv_iloadn (pc := 0) (n := 3) 3 rfl rfl (fm_dec dtX11_puts 0 rfl) ?_
  refine pv_if_ne (pc := 1) 11 (by decide) (fm_dec dtX11_puts 1 rfl) (fun _ => ?_) (fun hc1 => by exfalso; revert hc1; decide)
  refine pv_aloadn (pc := 11) (n := 0) 0 rfl rfl (fm_dec dtX11_puts 7 rfl) ?_
  refine pv_dup (pc := 12) rfl (fm_dec dtX11_puts 8 rfl) ?_
  refine pv_getI (k := 0) (j := 35) (ci := 11) (pc := 13) pfl_X11_436 (by decide) rfl (by decide) (fm_dec dtX11_puts 9 rfl) ?_
  refine pv_iconst (pc := 16) (v := 1) (by decide) (fm_dec dtX11_puts 10 rfl) ?_
  refine pv_iadd (pc := 17) (fm_dec dtX11_puts 11 rfl) ?_
  refine pv_putI (k := 0) (j := 35) (ci := 11) (pc := 18) pfl_X11_436 (by decide) rfl (by decide) (fm_dec dtX11_puts 12 rfl) ?_
  refine pv_aloadn (pc := 21) (n := 1) 1 rfl rfl (fm_dec dtX11_puts 13 rfl) ?_
  refine pv_aloadn (pc := 22) (n := 0) 0 rfl rfl (fm_dec dtX11_puts 14 rfl) ?_
  refine pv_getI (k := 0) (j := 35) (ci := 11) (pc := 23) pfl_X11_436 (by decide) rfl (by decide) (fm_dec dtX11_puts 15 rfl) ?_
  refine pv_iconst (pc := 26) (v := 1) (by decide) (fm_dec dtX11_puts 16 rfl) ?_
  refine pv_isub (pc := 27) (fm_dec dtX11_puts 17 rfl) ?_
  refine pv_iald (k := (519 + i)) (n := 239) (pc := 28) (rw_kept.2.2.2 i hi).2.2.1 (rw_kept.2.2.2 i hi).2.2.2.1 (rw_kept.2.2.2 i hi).2.2.2.2 (ix_in (p1m1 hs hs9) hs9) (fm_dec dtX11_puts 18 rfl) ?_
  exact pv_ireturn (pc := 29) rfl (fm_dec dtX11_puts 19 rfl) (by have h9 : ((fmI M 0 35 (M.1 0 35 + 1)).1 0 35 - 1).toInt = s := p1m1 hs hs9; rw [i32_cl h9, fmI_k _ _ (by omega)]; exact hq)
set_option maxRecDepth 20000 in
theorem pc0 {Q : fmR → fmM → Prop} {M0 : fmM} {i w : Nat} {ww : Int32} (hi : i < 3) (hww : ww.toInt = w) (hw16 : w < 16) (hq : ∀ (M' : fmM) (kk' : Int32), pa0 M0 i (15 + 14 * (w + 1)) M' → pvEv Tm 1 qX11_putsAll 99 [some (.ref 0), some (.ref (519 + i)), some (.int 0), some (.int ww), some (.int kk')] [] M' Q) : ∀ (m : Nat) (M : fmM) (k : Nat) (kk : Int32), kk.toInt = k → k + m = 14 → pa0 M0 i (15 + 14 * w + k) M → pvEv Tm 1 qX11_putsAll 62 [some (.ref 0), some (.ref (519 + i)), some (.int 0), some (.int ww), some (.int kk)] [] M Q := by
  intro m
  induction m using Nat.strongRecOn with
  | _ m ih =>
    intro M k kk hkk hm hP
    refine pv_iload (pc := 62) (i := 4) rfl (fm_dec dtX11_putsAll 37 rfl) ?_
    refine pv_bipush (pc := 64) (v := 14) (by decide) (fm_dec dtX11_putsAll 38 rfl) ?_
    refine pv_icmp_ge (pc := 66) 99 (by decide) (fm_dec dtX11_putsAll 39 rfl) (fun hc66 => ?_) (fun hc66 => ?_)
    · have hk14 : k = 14 := (by rw [sc_le] at hc66; have h9 : (14 : Int32).toInt = 14 := (by decide); omega)
      subst hk14
      exact hq M kk (by rw [show 15 + 14 * (w + 1) = 15 + 14 * w + 14 by omega]; exact hP)
    · have hk14 : k < 14 := (by rw [sc_le] at hc66; have h9 : (14 : Int32).toInt = 14 := (by decide); omega)
      refine pv_aloadn (pc := 69) (n := 0) 0 rfl rfl (fm_dec dtX11_putsAll 40 rfl) ?_
      refine pv_getR (k := 0) (j := 29) (ci := 11) (pc := 70) 25 rfl (by decide) pfl_X11_67 (by decide) rfl (by decide) (fm_dec dtX11_putsAll 41 rfl) ?_
      refine pv_iloadn (pc := 73) (n := 3) 3 rfl rfl (fm_dec dtX11_putsAll 42 rfl) ?_
      refine pv_aald (k := 25) (n := 16) (r := (503 + w)) (pc := 74) (by decide) (Or.inr (Or.inr rfl)) rfl (rw_before.inb hww hw16) (rw_before.at hww hw16) (rw_before.2.2.2 _ hw16).2.1 (fm_dec dtX11_putsAll 43 rfl) ?_
      refine pv_iload (pc := 75) (i := 4) rfl (fm_dec dtX11_putsAll 44 rfl) ?_
      refine pv_aloadn (pc := 77) (n := 0) 0 rfl rfl (fm_dec dtX11_putsAll 45 rfl) ?_
      refine pv_aloadn (pc := 78) (n := 1) 1 rfl rfl (fm_dec dtX11_putsAll 46 rfl) ?_
      refine pv_aloadn (pc := 79) (n := 0) 0 rfl rfl (fm_dec dtX11_putsAll 47 rfl) ?_
      refine pv_getR (k := 0) (j := 29) (ci := 11) (pc := 80) 25 rfl (by decide) pfl_X11_67 (by decide) rfl (by decide) (fm_dec dtX11_putsAll 48 rfl) ?_
      refine pv_iloadn (pc := 83) (n := 3) 3 rfl rfl (fm_dec dtX11_putsAll 49 rfl) ?_
      refine pv_aald (k := 25) (n := 16) (r := (503 + w)) (pc := 84) (by decide) (Or.inr (Or.inr rfl)) rfl (rw_before.inb hww hw16) (rw_before.at hww hw16) (rw_before.2.2.2 _ hw16).2.1 (fm_dec dtX11_putsAll 50 rfl) ?_
      refine pv_iload (pc := 85) (i := 4) rfl (fm_dec dtX11_putsAll 51 rfl) ?_
      refine pv_iald (k := (503 + w)) (n := 14) (pc := 87) (rw_before.2.2.2 _ hw16).2.2.1 (rw_before.2.2.2 _ hw16).2.2.2.1 (rw_before.2.2.2 _ hw16).2.2.2.2 (ix_in hkk (by omega)) (fm_dec dtX11_putsAll 52 rfl) ?_
      refine pv_iloadn (pc := 88) (n := 2) 2 rfl rfl (fm_dec dtX11_putsAll 53 rfl) ?_
      refine pv_invV3 (k := 0) (d' := 0) (pc := 89) pcv_X11_439 (by decide) rfl (Nat.le_of_ble_eq_true rfl) (by decide) (fm_dec dtX11_putsAll 54 rfl) ?_
      refine c_puts0 hi hP.2.2.1 (by omega) ?_
      refine pv_then1 ?_
      refine pv_iast (k := (503 + w)) (n := 14) (pc := 92) (rw_before.2.2.2 _ hw16).2.2.1 (rw_before.2.2.2 _ hw16).2.2.2.1 (rw_before.2.2.2 _ hw16).2.2.2.2 (ix_in hkk (by omega)) (fm_dec dtX11_putsAll 55 rfl) ?_
      refine pv_iincc (pc := 93) 4 1 (by decide) rfl (by decide) rfl (fm_dec dtX11_putsAll 56 rfl) ?_
      dsimp only [List.set_cons_zero, List.set_cons_succ]
      refine pv_goto (pc := 96) 62 (by decide) (fm_dec dtX11_putsAll 57 rfl) ?_
      rw [i32_cl hkk]
      exact ih (14 - (k + 1)) (by omega) _ (k + 1) _ (i32_p1 hkk (by omega)) (by omega) (hP.step (by omega) (sl_b hk14))
set_option maxRecDepth 20000 in
theorem pb0 {Q : fmR → fmM → Prop} {M0 : fmM} {i : Nat} (hi : i < 3) (hq : ∀ M' : fmM, pa0 M0 i 239 M' → Q (.inl none) M') : ∀ (m : Nat) (M : fmM) (w : Nat) (ww : Int32) (v4 : Option Value), ww.toInt = w → w + m = 16 → pa0 M0 i (15 + 14 * w) M → pvEv Tm 1 qX11_putsAll 53 [some (.ref 0), some (.ref (519 + i)), some (.int 0), some (.int ww), v4] [] M Q := by
  intro m
  induction m using Nat.strongRecOn with
  | _ m ih =>
    intro M w ww v4 hww hm hP
    refine pv_iloadn (pc := 53) (n := 3) 3 rfl rfl (fm_dec dtX11_putsAll 32 rfl) ?_
    refine pv_bipush (pc := 54) (v := 16) (by decide) (fm_dec dtX11_putsAll 33 rfl) ?_
    refine pv_icmp_ge (pc := 56) 105 (by decide) (fm_dec dtX11_putsAll 34 rfl) (fun hc56 => ?_) (fun hc56 => ?_)
    · exact pv_return (pc := 105) rfl (fm_dec dtX11_putsAll 60 rfl) (hq M (by have hw : w = 16 := (by rw [sc_le] at hc56; have h9 : (16 : Int32).toInt = 16 := (by decide); omega); subst hw; exact hP))
    · have hw16 : w < 16 := (by rw [sc_le] at hc56; have h9 : (16 : Int32).toInt = 16 := (by decide); omega)
      refine pv_iconst (pc := 59) (v := 0) (by decide) (fm_dec dtX11_putsAll 35 rfl) ?_
      refine pv_istore (pc := 60) (i := 4) (by decide) rfl (fm_dec dtX11_putsAll 36 rfl) ?_
      dsimp only [List.set_cons_zero, List.set_cons_succ]
      refine pc0 hi hww hw16 (fun M3 k3 hP3 => ?_) 14 _ 0 _ (by decide) (by decide) hP
      refine pv_iincc (pc := 99) 3 1 (by decide) rfl (by decide) rfl (fm_dec dtX11_putsAll 58 rfl) ?_
      dsimp only [List.set_cons_zero, List.set_cons_succ]
      refine pv_goto (pc := 102) 53 (by decide) (fm_dec dtX11_putsAll 59 rfl) ?_
      exact ih (16 - (w + 1)) (by omega) _ (w + 1) _ _ (i32_p1 hww (by omega)) (by omega) hP3
set_option maxRecDepth 20000 in
theorem pd0 {Q : fmR → fmM → Prop} {M0 : fmM} {i : Nat} (hi : i < 3) (hq : ∀ (M' : fmM) (kk' : Int32), pa0 M0 i 15 M' → pvEv Tm 1 qX11_putsAll 51 [some (.ref 0), some (.ref (519 + i)), some (.int 0), some (.int kk'), none] [] M' Q) : ∀ (m : Nat) (M : fmM) (k : Nat) (kk : Int32), kk.toInt = k → k + m = 14 → pa0 M0 i (1 + k) M → pvEv Tm 1 qX11_putsAll 21 [some (.ref 0), some (.ref (519 + i)), some (.int 0), some (.int kk), none] [] M Q := by
  intro m
  induction m using Nat.strongRecOn with
  | _ m ih =>
    intro M k kk hkk hm hP
    refine pv_iloadn (pc := 21) (n := 3) 3 rfl rfl (fm_dec dtX11_putsAll 13 rfl) ?_
    refine pv_bipush (pc := 22) (v := 14) (by decide) (fm_dec dtX11_putsAll 14 rfl) ?_
    refine pv_icmp_ge (pc := 24) 51 (by decide) (fm_dec dtX11_putsAll 15 rfl) (fun hc24 => ?_) (fun hc24 => ?_)
    · have hk14 : k = 14 := (by rw [sc_le] at hc24; have h9 : (14 : Int32).toInt = 14 := (by decide); omega)
      subst hk14
      exact hq M kk hP
    · have hk14 : k < 14 := (by rw [sc_le] at hc24; have h9 : (14 : Int32).toInt = 14 := (by decide); omega)
      refine pv_aloadn (pc := 27) (n := 0) 0 rfl rfl (fm_dec dtX11_putsAll 16 rfl) ?_
      refine pv_getR (k := 0) (j := 27) (ci := 11) (pc := 28) 7 rfl (by decide) pfl_X11_61 (by decide) rfl (by decide) (fm_dec dtX11_putsAll 17 rfl) ?_
      refine pv_iloadn (pc := 31) (n := 3) 3 rfl rfl (fm_dec dtX11_putsAll 18 rfl) ?_
      refine pv_aloadn (pc := 32) (n := 0) 0 rfl rfl (fm_dec dtX11_putsAll 19 rfl) ?_
      refine pv_aloadn (pc := 33) (n := 1) 1 rfl rfl (fm_dec dtX11_putsAll 20 rfl) ?_
      refine pv_aloadn (pc := 34) (n := 0) 0 rfl rfl (fm_dec dtX11_putsAll 21 rfl) ?_
      refine pv_getR (k := 0) (j := 27) (ci := 11) (pc := 35) 7 rfl (by decide) pfl_X11_61 (by decide) rfl (by decide) (fm_dec dtX11_putsAll 22 rfl) ?_
      refine pv_iloadn (pc := 38) (n := 3) 3 rfl rfl (fm_dec dtX11_putsAll 23 rfl) ?_
      refine pv_iald (k := 7) (n := 14) (pc := 39) (by decide) rfl rfl (ix_in hkk (by omega)) (fm_dec dtX11_putsAll 24 rfl) ?_
      refine pv_iloadn (pc := 40) (n := 2) 2 rfl rfl (fm_dec dtX11_putsAll 25 rfl) ?_
      refine pv_invV3 (k := 0) (d' := 0) (pc := 41) pcv_X11_439 (by decide) rfl (Nat.le_of_ble_eq_true rfl) (by decide) (fm_dec dtX11_putsAll 26 rfl) ?_
      refine c_puts0 hi hP.2.2.1 (by omega) ?_
      refine pv_then1 ?_
      refine pv_iast (k := 7) (n := 14) (pc := 44) (by decide) rfl rfl (ix_in hkk (by omega)) (fm_dec dtX11_putsAll 27 rfl) ?_
      refine pv_iincc (pc := 45) 3 1 (by decide) rfl (by decide) rfl (fm_dec dtX11_putsAll 28 rfl) ?_
      dsimp only [List.set_cons_zero, List.set_cons_succ]
      refine pv_goto (pc := 48) 21 (by decide) (fm_dec dtX11_putsAll 29 rfl) ?_
      rw [i32_cl hkk]
      exact ih (14 - (k + 1)) (by omega) _ (k + 1) _ (i32_p1 hkk (by omega)) (by omega) (hP.step (by omega) (sl_7 hk14))
set_option maxRecDepth 20000 in
theorem c_putsAll0 {M : fmM} {Q : fmR → fmM → Prop} {i : Nat} (hi : i < 3) (hq : ∀ M' : fmM, pa0 M i 239 M' → Q (.inl none) M') : pvGood Tm 1 qX11_putsAll [.ref 0, .ref (519 + i), .int 0] M Q := by
  refine pvGood_of (Nat.le_of_ble_eq_true rfl) ?_
  show pvEv Tm 1 qX11_putsAll 0 [some (.ref 0), some (.ref (519 + i)), some (.int 0), none, none] [] M Q
  refine pv_aloadn (pc := 0) (n := 0) 0 rfl rfl (fm_dec dtX11_putsAll 0 rfl) ?_
  refine pv_iconst (pc := 1) (v := 0) (by decide) (fm_dec dtX11_putsAll 1 rfl) ?_
  refine pv_putI (k := 0) (j := 35) (ci := 11) (pc := 2) pfl_X11_436 (by decide) rfl (by decide) (fm_dec dtX11_putsAll 2 rfl) ?_
  refine pv_aloadn (pc := 5) (n := 0) 0 rfl rfl (fm_dec dtX11_putsAll 3 rfl) ?_
  refine pv_aloadn (pc := 6) (n := 0) 0 rfl rfl (fm_dec dtX11_putsAll 4 rfl) ?_
  refine pv_aloadn (pc := 7) (n := 1) 1 rfl rfl (fm_dec dtX11_putsAll 5 rfl) ?_
  refine pv_aloadn (pc := 8) (n := 0) 0 rfl rfl (fm_dec dtX11_putsAll 6 rfl) ?_
  refine pv_getI (k := 0) (j := 32) (ci := 11) (pc := 9) pfl_X11_200 (by decide) rfl (by decide) (fm_dec dtX11_putsAll 7 rfl) ?_
  refine pv_iloadn (pc := 12) (n := 2) 2 rfl rfl (fm_dec dtX11_putsAll 8 rfl) ?_
  refine pv_invV3 (k := 0) (d' := 0) (pc := 13) pcv_X11_439 (by decide) rfl (Nat.le_of_ble_eq_true rfl) (by decide) (fm_dec dtX11_putsAll 9 rfl) ?_
  refine c_puts0 (s := 0) hi rfl (by decide) ?_
  refine pv_then1 ?_
  refine pv_putI (k := 0) (j := 32) (ci := 11) (pc := 16) pfl_X11_200 (by decide) rfl (by decide) (fm_dec dtX11_putsAll 10 rfl) ?_
  refine pv_iconst (pc := 19) (v := 0) (by decide) (fm_dec dtX11_putsAll 11 rfl) ?_
  refine pv_istoren (pc := 20) (n := 3) 3 rfl (by decide) rfl (fm_dec dtX11_putsAll 12 rfl) ?_
  dsimp only [List.set_cons_zero, List.set_cons_succ]
  refine pd0 (M0 := M) hi (fun M3 k3 hP3 => ?_) 14 _ 0 _ (by decide) (by decide) (pa0.nil.step (by decide) rfl)
  refine pv_iconst (pc := 51) (v := 0) (by decide) (fm_dec dtX11_putsAll 30 rfl) ?_
  refine pv_istoren (pc := 52) (n := 3) 3 rfl (by decide) rfl (fm_dec dtX11_putsAll 31 rfl) ?_
  dsimp only [List.set_cons_zero, List.set_cons_succ]
  exact pb0 hi hq 16 _ 0 _ _ (by decide) (by decide) hP3
set_option maxRecDepth 20000 in
theorem pc1 {Q : fmR → fmM → Prop} {M0 : fmM} {i w : Nat} {ww : Int32} (hi : i < 3) (hww : ww.toInt = w) (hw16 : w < 16) (hq : ∀ (M' : fmM) (kk' : Int32), pa1 M0 i (15 + 14 * (w + 1)) M' → pvEv Tm 1 qX11_putsAll 99 [some (.ref 0), some (.ref (519 + i)), some (.int 1), some (.int ww), some (.int kk')] [] M' Q) : ∀ (m : Nat) (M : fmM) (k : Nat) (kk : Int32), kk.toInt = k → k + m = 14 → pa1 M0 i (15 + 14 * w + k) M → pvEv Tm 1 qX11_putsAll 62 [some (.ref 0), some (.ref (519 + i)), some (.int 1), some (.int ww), some (.int kk)] [] M Q := by
  intro m
  induction m using Nat.strongRecOn with
  | _ m ih =>
    intro M k kk hkk hm hP
    refine pv_iload (pc := 62) (i := 4) rfl (fm_dec dtX11_putsAll 37 rfl) ?_
    refine pv_bipush (pc := 64) (v := 14) (by decide) (fm_dec dtX11_putsAll 38 rfl) ?_
    refine pv_icmp_ge (pc := 66) 99 (by decide) (fm_dec dtX11_putsAll 39 rfl) (fun hc66 => ?_) (fun hc66 => ?_)
    · have hk14 : k = 14 := (by rw [sc_le] at hc66; have h9 : (14 : Int32).toInt = 14 := (by decide); omega)
      subst hk14
      exact hq M kk (by rw [show 15 + 14 * (w + 1) = 15 + 14 * w + 14 by omega]; exact hP)
    · have hk14 : k < 14 := (by rw [sc_le] at hc66; have h9 : (14 : Int32).toInt = 14 := (by decide); omega)
      refine pv_aloadn (pc := 69) (n := 0) 0 rfl rfl (fm_dec dtX11_putsAll 40 rfl) ?_
      refine pv_getR (k := 0) (j := 29) (ci := 11) (pc := 70) 25 rfl (by decide) pfl_X11_67 (by decide) rfl (by decide) (fm_dec dtX11_putsAll 41 rfl) ?_
      refine pv_iloadn (pc := 73) (n := 3) 3 rfl rfl (fm_dec dtX11_putsAll 42 rfl) ?_
      refine pv_aald (k := 25) (n := 16) (r := (503 + w)) (pc := 74) (by decide) (Or.inr (Or.inr rfl)) rfl (rw_before.inb hww hw16) (rw_before.at hww hw16) (rw_before.2.2.2 _ hw16).2.1 (fm_dec dtX11_putsAll 43 rfl) ?_
      refine pv_iload (pc := 75) (i := 4) rfl (fm_dec dtX11_putsAll 44 rfl) ?_
      refine pv_aloadn (pc := 77) (n := 0) 0 rfl rfl (fm_dec dtX11_putsAll 45 rfl) ?_
      refine pv_aloadn (pc := 78) (n := 1) 1 rfl rfl (fm_dec dtX11_putsAll 46 rfl) ?_
      refine pv_aloadn (pc := 79) (n := 0) 0 rfl rfl (fm_dec dtX11_putsAll 47 rfl) ?_
      refine pv_getR (k := 0) (j := 29) (ci := 11) (pc := 80) 25 rfl (by decide) pfl_X11_67 (by decide) rfl (by decide) (fm_dec dtX11_putsAll 48 rfl) ?_
      refine pv_iloadn (pc := 83) (n := 3) 3 rfl rfl (fm_dec dtX11_putsAll 49 rfl) ?_
      refine pv_aald (k := 25) (n := 16) (r := (503 + w)) (pc := 84) (by decide) (Or.inr (Or.inr rfl)) rfl (rw_before.inb hww hw16) (rw_before.at hww hw16) (rw_before.2.2.2 _ hw16).2.1 (fm_dec dtX11_putsAll 50 rfl) ?_
      refine pv_iload (pc := 85) (i := 4) rfl (fm_dec dtX11_putsAll 51 rfl) ?_
      refine pv_iald (k := (503 + w)) (n := 14) (pc := 87) (rw_before.2.2.2 _ hw16).2.2.1 (rw_before.2.2.2 _ hw16).2.2.2.1 (rw_before.2.2.2 _ hw16).2.2.2.2 (ix_in hkk (by omega)) (fm_dec dtX11_putsAll 52 rfl) ?_
      refine pv_iloadn (pc := 88) (n := 2) 2 rfl rfl (fm_dec dtX11_putsAll 53 rfl) ?_
      refine pv_invV3 (k := 0) (d' := 0) (pc := 89) pcv_X11_439 (by decide) rfl (Nat.le_of_ble_eq_true rfl) (by decide) (fm_dec dtX11_putsAll 54 rfl) ?_
      refine c_puts1 hi hP.2.2.1 (by omega) ?_
      refine pv_then1 ?_
      refine pv_iast (k := (503 + w)) (n := 14) (pc := 92) (rw_before.2.2.2 _ hw16).2.2.1 (rw_before.2.2.2 _ hw16).2.2.2.1 (rw_before.2.2.2 _ hw16).2.2.2.2 (ix_in hkk (by omega)) (fm_dec dtX11_putsAll 55 rfl) ?_
      refine pv_iincc (pc := 93) 4 1 (by decide) rfl (by decide) rfl (fm_dec dtX11_putsAll 56 rfl) ?_
      dsimp only [List.set_cons_zero, List.set_cons_succ]
      refine pv_goto (pc := 96) 62 (by decide) (fm_dec dtX11_putsAll 57 rfl) ?_
      rw [i32_cl hkk]
      exact ih (14 - (k + 1)) (by omega) _ (k + 1) _ (i32_p1 hkk (by omega)) (by omega) (hP.step (by omega) (sl_b hk14))
set_option maxRecDepth 20000 in
theorem pb1 {Q : fmR → fmM → Prop} {M0 : fmM} {i : Nat} (hi : i < 3) (hq : ∀ M' : fmM, pa1 M0 i 239 M' → Q (.inl none) M') : ∀ (m : Nat) (M : fmM) (w : Nat) (ww : Int32) (v4 : Option Value), ww.toInt = w → w + m = 16 → pa1 M0 i (15 + 14 * w) M → pvEv Tm 1 qX11_putsAll 53 [some (.ref 0), some (.ref (519 + i)), some (.int 1), some (.int ww), v4] [] M Q := by
  intro m
  induction m using Nat.strongRecOn with
  | _ m ih =>
    intro M w ww v4 hww hm hP
    refine pv_iloadn (pc := 53) (n := 3) 3 rfl rfl (fm_dec dtX11_putsAll 32 rfl) ?_
    refine pv_bipush (pc := 54) (v := 16) (by decide) (fm_dec dtX11_putsAll 33 rfl) ?_
    refine pv_icmp_ge (pc := 56) 105 (by decide) (fm_dec dtX11_putsAll 34 rfl) (fun hc56 => ?_) (fun hc56 => ?_)
    · exact pv_return (pc := 105) rfl (fm_dec dtX11_putsAll 60 rfl) (hq M (by have hw : w = 16 := (by rw [sc_le] at hc56; have h9 : (16 : Int32).toInt = 16 := (by decide); omega); subst hw; exact hP))
    · have hw16 : w < 16 := (by rw [sc_le] at hc56; have h9 : (16 : Int32).toInt = 16 := (by decide); omega)
      refine pv_iconst (pc := 59) (v := 0) (by decide) (fm_dec dtX11_putsAll 35 rfl) ?_
      refine pv_istore (pc := 60) (i := 4) (by decide) rfl (fm_dec dtX11_putsAll 36 rfl) ?_
      dsimp only [List.set_cons_zero, List.set_cons_succ]
      refine pc1 hi hww hw16 (fun M3 k3 hP3 => ?_) 14 _ 0 _ (by decide) (by decide) hP
      refine pv_iincc (pc := 99) 3 1 (by decide) rfl (by decide) rfl (fm_dec dtX11_putsAll 58 rfl) ?_
      dsimp only [List.set_cons_zero, List.set_cons_succ]
      refine pv_goto (pc := 102) 53 (by decide) (fm_dec dtX11_putsAll 59 rfl) ?_
      exact ih (16 - (w + 1)) (by omega) _ (w + 1) _ _ (i32_p1 hww (by omega)) (by omega) hP3
set_option maxRecDepth 20000 in
theorem pd1 {Q : fmR → fmM → Prop} {M0 : fmM} {i : Nat} (hi : i < 3) (hq : ∀ (M' : fmM) (kk' : Int32), pa1 M0 i 15 M' → pvEv Tm 1 qX11_putsAll 51 [some (.ref 0), some (.ref (519 + i)), some (.int 1), some (.int kk'), none] [] M' Q) : ∀ (m : Nat) (M : fmM) (k : Nat) (kk : Int32), kk.toInt = k → k + m = 14 → pa1 M0 i (1 + k) M → pvEv Tm 1 qX11_putsAll 21 [some (.ref 0), some (.ref (519 + i)), some (.int 1), some (.int kk), none] [] M Q := by
  intro m
  induction m using Nat.strongRecOn with
  | _ m ih =>
    intro M k kk hkk hm hP
    refine pv_iloadn (pc := 21) (n := 3) 3 rfl rfl (fm_dec dtX11_putsAll 13 rfl) ?_
    refine pv_bipush (pc := 22) (v := 14) (by decide) (fm_dec dtX11_putsAll 14 rfl) ?_
    refine pv_icmp_ge (pc := 24) 51 (by decide) (fm_dec dtX11_putsAll 15 rfl) (fun hc24 => ?_) (fun hc24 => ?_)
    · have hk14 : k = 14 := (by rw [sc_le] at hc24; have h9 : (14 : Int32).toInt = 14 := (by decide); omega)
      subst hk14
      exact hq M kk hP
    · have hk14 : k < 14 := (by rw [sc_le] at hc24; have h9 : (14 : Int32).toInt = 14 := (by decide); omega)
      refine pv_aloadn (pc := 27) (n := 0) 0 rfl rfl (fm_dec dtX11_putsAll 16 rfl) ?_
      refine pv_getR (k := 0) (j := 27) (ci := 11) (pc := 28) 7 rfl (by decide) pfl_X11_61 (by decide) rfl (by decide) (fm_dec dtX11_putsAll 17 rfl) ?_
      refine pv_iloadn (pc := 31) (n := 3) 3 rfl rfl (fm_dec dtX11_putsAll 18 rfl) ?_
      refine pv_aloadn (pc := 32) (n := 0) 0 rfl rfl (fm_dec dtX11_putsAll 19 rfl) ?_
      refine pv_aloadn (pc := 33) (n := 1) 1 rfl rfl (fm_dec dtX11_putsAll 20 rfl) ?_
      refine pv_aloadn (pc := 34) (n := 0) 0 rfl rfl (fm_dec dtX11_putsAll 21 rfl) ?_
      refine pv_getR (k := 0) (j := 27) (ci := 11) (pc := 35) 7 rfl (by decide) pfl_X11_61 (by decide) rfl (by decide) (fm_dec dtX11_putsAll 22 rfl) ?_
      refine pv_iloadn (pc := 38) (n := 3) 3 rfl rfl (fm_dec dtX11_putsAll 23 rfl) ?_
      refine pv_iald (k := 7) (n := 14) (pc := 39) (by decide) rfl rfl (ix_in hkk (by omega)) (fm_dec dtX11_putsAll 24 rfl) ?_
      refine pv_iloadn (pc := 40) (n := 2) 2 rfl rfl (fm_dec dtX11_putsAll 25 rfl) ?_
      refine pv_invV3 (k := 0) (d' := 0) (pc := 41) pcv_X11_439 (by decide) rfl (Nat.le_of_ble_eq_true rfl) (by decide) (fm_dec dtX11_putsAll 26 rfl) ?_
      refine c_puts1 hi hP.2.2.1 (by omega) ?_
      refine pv_then1 ?_
      refine pv_iast (k := 7) (n := 14) (pc := 44) (by decide) rfl rfl (ix_in hkk (by omega)) (fm_dec dtX11_putsAll 27 rfl) ?_
      refine pv_iincc (pc := 45) 3 1 (by decide) rfl (by decide) rfl (fm_dec dtX11_putsAll 28 rfl) ?_
      dsimp only [List.set_cons_zero, List.set_cons_succ]
      refine pv_goto (pc := 48) 21 (by decide) (fm_dec dtX11_putsAll 29 rfl) ?_
      rw [i32_cl hkk]
      exact ih (14 - (k + 1)) (by omega) _ (k + 1) _ (i32_p1 hkk (by omega)) (by omega) (hP.step (by omega) (sl_7 hk14))
set_option maxRecDepth 20000 in
theorem c_putsAll1 {M : fmM} {Q : fmR → fmM → Prop} {i : Nat} (hi : i < 3) (hq : ∀ M' : fmM, pa1 M i 239 M' → Q (.inl none) M') : pvGood Tm 1 qX11_putsAll [.ref 0, .ref (519 + i), .int 1] M Q := by
  refine pvGood_of (Nat.le_of_ble_eq_true rfl) ?_
  show pvEv Tm 1 qX11_putsAll 0 [some (.ref 0), some (.ref (519 + i)), some (.int 1), none, none] [] M Q
  refine pv_aloadn (pc := 0) (n := 0) 0 rfl rfl (fm_dec dtX11_putsAll 0 rfl) ?_
  refine pv_iconst (pc := 1) (v := 0) (by decide) (fm_dec dtX11_putsAll 1 rfl) ?_
  refine pv_putI (k := 0) (j := 35) (ci := 11) (pc := 2) pfl_X11_436 (by decide) rfl (by decide) (fm_dec dtX11_putsAll 2 rfl) ?_
  refine pv_aloadn (pc := 5) (n := 0) 0 rfl rfl (fm_dec dtX11_putsAll 3 rfl) ?_
  refine pv_aloadn (pc := 6) (n := 0) 0 rfl rfl (fm_dec dtX11_putsAll 4 rfl) ?_
  refine pv_aloadn (pc := 7) (n := 1) 1 rfl rfl (fm_dec dtX11_putsAll 5 rfl) ?_
  refine pv_aloadn (pc := 8) (n := 0) 0 rfl rfl (fm_dec dtX11_putsAll 6 rfl) ?_
  refine pv_getI (k := 0) (j := 32) (ci := 11) (pc := 9) pfl_X11_200 (by decide) rfl (by decide) (fm_dec dtX11_putsAll 7 rfl) ?_
  refine pv_iloadn (pc := 12) (n := 2) 2 rfl rfl (fm_dec dtX11_putsAll 8 rfl) ?_
  refine pv_invV3 (k := 0) (d' := 0) (pc := 13) pcv_X11_439 (by decide) rfl (Nat.le_of_ble_eq_true rfl) (by decide) (fm_dec dtX11_putsAll 9 rfl) ?_
  refine c_puts1 (s := 0) hi rfl (by decide) ?_
  refine pv_then1 ?_
  refine pv_putI (k := 0) (j := 32) (ci := 11) (pc := 16) pfl_X11_200 (by decide) rfl (by decide) (fm_dec dtX11_putsAll 10 rfl) ?_
  refine pv_iconst (pc := 19) (v := 0) (by decide) (fm_dec dtX11_putsAll 11 rfl) ?_
  refine pv_istoren (pc := 20) (n := 3) 3 rfl (by decide) rfl (fm_dec dtX11_putsAll 12 rfl) ?_
  dsimp only [List.set_cons_zero, List.set_cons_succ]
  refine pd1 (M0 := M) hi (fun M3 k3 hP3 => ?_) 14 _ 0 _ (by decide) (by decide) (pa1.nil.step (by decide) rfl)
  refine pv_iconst (pc := 51) (v := 0) (by decide) (fm_dec dtX11_putsAll 30 rfl) ?_
  refine pv_istoren (pc := 52) (n := 3) 3 rfl (by decide) rfl (fm_dec dtX11_putsAll 31 rfl) ?_
  dsimp only [List.set_cons_zero, List.set_cons_succ]
  exact pb1 hi hq 16 _ 0 _ _ (by decide) (by decide) hP3
theorem kp_0 : ∀ s, s < 239 → scAt (invM 519) s = scAt (invM (sl s).1) (sl s).2 ∧ (sl s).2 < Tm.2.2.1 (sl s).1 := by decide +kernel
theorem kp_1 : ∀ s, s < 239 → scAt (invM 520) s = scAt (invM (sl s).1) (sl s).2 ∧ (sl s).2 < Tm.2.2.1 (sl s).1 := by decide +kernel
theorem kp_2 : ∀ s, s < 239 → scAt (invM 521) s = scAt (invM (sl s).1) (sl s).2 ∧ (sl s).2 < Tm.2.2.1 (sl s).1 := by decide +kernel
theorem kp {i : Nat} (hi : i < 3) {s : Nat} (hs : s < 239) : scAt (invM (519 + i)) s = scAt (invM (sl s).1) (sl s).2 ∧ (sl s).2 < Tm.2.2.1 (sl s).1 ∧ s < Tm.2.2.1 (519 + i) := by
  rcases (show i = 0 ∨ i = 1 ∨ i = 2 by omega) with rfl | rfl | rfl
  · exact ⟨(kp_0 s hs).1, (kp_0 s hs).2, hs⟩
  · exact ⟨(kp_1 s hs).1, (kp_1 s hs).2, hs⟩
  · exact ⟨(kp_2 s hs).1, (kp_2 s hs).2, hs⟩
theorem kp_j : ∀ s, s < 239 → jmPr (sl s).1 (sl s).2 = false := by decide +kernel
theorem kp_k {i : Nat} (hi : i < 3) (j : Nat) : jmPr (519 + i) j = false := by
  rcases (show i = 0 ∨ i = 1 ∨ i = 2 by omega) with rfl | rfl | rfl <;> rfl
theorem scIn_of {W : List (Nat × Nat × Nat)} {k j : Nat} (w : Nat × Nat × Nat) (hw : w ∈ W) (h : w.1 = k ∧ w.2.1 ≤ j ∧ j < w.2.1 + w.2.2) : scIn W k j = true := by
  unfold scIn
  rw [List.any_eq_true]
  refine ⟨w, hw, ?_⟩
  simp only [Bool.and_eq_true, beq_iff_eq, Nat.ble_eq, Nat.blt_eq]
  exact ⟨⟨h.1, h.2.1⟩, h.2.2⟩
theorem kp_fr : ∀ s, s < 239 → scIn [(0, 32, 1), (0, 35, 1), (7, 0, 14), (503, 0, 14), (504, 0, 14), (505, 0, 14), (506, 0, 14), (507, 0, 14), (508, 0, 14), (509, 0, 14), (510, 0, 14), (511, 0, 14), (512, 0, 14), (513, 0, 14), (514, 0, 14), (515, 0, 14), (516, 0, 14), (517, 0, 14), (518, 0, 14)] (sl s).1 (sl s).2 = true := by decide +kernel
theorem pa0.inv {M M' : fmM} {i : Nat} (hi : i < 3) (h : pa0 M i 239 M') (hI : scInv Tm invM M) : scInv Tm invM M' := by
  refine ⟨fun k j hj => ?_, fun hm => jm_stable (hI.2 hm) (fun k j hk => ?_)⟩
  · by_cases e : k = 519 + i ∧ j < 239
    · obtain ⟨rfl, e⟩ := e
      rw [h.1 j e, (kp hi e).1]
      exact hI.1 _ _ (kp hi e).2.1
    · by_cases e2 : k = 0 ∧ j = 35
      · obtain ⟨rfl, rfl⟩ := e2
        exact scq_t _
      · rw [h.2.1 k j e e2]
        exact hI.1 k j hj
  · refine h.2.1 k j (fun e => ?_) (fun e => ?_)
    · obtain ⟨rfl, e⟩ := e
      rw [kp_k hi] at hk
      cases hk
    · obtain ⟨rfl, rfl⟩ := e
      cases hk
theorem pa1.inv {M M' : fmM} {i : Nat} (hi : i < 3) (h : pa1 M i 239 M') (hI : scInv Tm invM M) : scInv Tm invM M' := by
  refine ⟨fun k j hj => ?_, fun hm => jm_stable (hI.2 hm) (fun k j hk => ?_)⟩
  · by_cases e : ∃ t, t < 239 ∧ (sl t).1 = k ∧ (sl t).2 = j
    · obtain ⟨t, ht, rfl, rfl⟩ := e
      rw [h.1 t ht, ← (kp hi ht).1]
      exact hI.1 _ _ (kp hi ht).2.2
    · by_cases e2 : k = 0 ∧ j = 35
      · obtain ⟨rfl, rfl⟩ := e2
        exact scq_t _
      · rw [h.2.1 k j (fun t ht e3 => e ⟨t, ht, e3⟩) e2]
        exact hI.1 k j hj
  · refine h.2.1 k j (fun t ht e => ?_) (fun e => ?_)
    · obtain ⟨rfl, rfl⟩ := e
      rw [kp_j t ht] at hk
      cases hk
    · obtain ⟨rfl, rfl⟩ := e
      cases hk
theorem hh_hand_putsAll0 : scH Tm invM cc_hand_putsAll0 := by
  intro M σ as hE hS hF hI
  obtain ⟨r, st1, hr, e1, q1⟩ := scSk_r hS
  obtain ⟨k, st2, hk, e2, q2⟩ := scSk_r q1
  obtain ⟨b, st3, e3, hb, q3⟩ := scSk_i q2
  have e5 := scSk_0 q3
  have er : r = 0 := by simpa using hr
  obtain ⟨i, hi, rfl⟩ : ∃ i, i < 3 ∧ k = 519 + i := by
    have h9 : k = 519 ∨ k = 520 ∨ k = 521 := by simpa using hk
    exact ⟨k - 519, by omega, by omega⟩
  have eb : b = 0 := i32_ext hb
  subst eb
  subst er
  subst e5
  subst e3
  subst e2
  subst e1
  refine c_putsAll0 hi (fun M' h => ⟨⟨_, List.mem_cons_self, rfl, fun q hq => (by cases hq), fun q hq => (by cases hq)⟩, h.inv hi hI, fun k j hkj => ⟨h.2.1 k j (fun e => ?_) (fun e => ?_), by rw [h.2.2.2]⟩⟩)
  · obtain ⟨rfl, e⟩ := e
    rw [scIn_of (519 + i, 0, 239) (by rcases (show i = 0 ∨ i = 1 ∨ i = 2 by omega) with rfl | rfl | rfl <;> decide) ⟨rfl, Nat.zero_le _, by show j < 0 + 239; omega⟩] at hkj
    cases hkj
  · obtain ⟨rfl, rfl⟩ := e
    rw [scIn_of (0, 35, 1) (by decide) ⟨rfl, Nat.le_refl _, by decide⟩] at hkj
    cases hkj
theorem hh_hand_putsAll1 : scH Tm invM cc_hand_putsAll1 := by
  intro M σ as hE hS hF hI
  obtain ⟨r, st1, hr, e1, q1⟩ := scSk_r hS
  obtain ⟨k, st2, hk, e2, q2⟩ := scSk_r q1
  obtain ⟨b, st3, e3, hb, q3⟩ := scSk_i q2
  have e5 := scSk_0 q3
  have er : r = 0 := by simpa using hr
  obtain ⟨i, hi, rfl⟩ : ∃ i, i < 3 ∧ k = 519 + i := by
    have h9 : k = 519 ∨ k = 520 ∨ k = 521 := by simpa using hk
    exact ⟨k - 519, by omega, by omega⟩
  have eb : b = 1 := i32_ext hb
  subst eb
  subst er
  subst e5
  subst e3
  subst e2
  subst e1
  refine c_putsAll1 hi (fun M' h => ⟨⟨_, List.mem_cons_self, rfl, fun q hq => (by cases hq), fun q hq => (by cases hq)⟩, h.inv hi hI, fun k j hkj => ⟨h.2.1 k j (fun t ht e => ?_) (fun e => ?_), by rw [h.2.2.2]⟩⟩)
  · obtain ⟨rfl, rfl⟩ := e
    have h9 := kp_fr t ht
    have hkj : scIn [(0, 32, 1), (0, 35, 1), (7, 0, 14), (503, 0, 14), (504, 0, 14), (505, 0, 14), (506, 0, 14), (507, 0, 14), (508, 0, 14), (509, 0, 14), (510, 0, 14), (511, 0, 14), (512, 0, 14), (513, 0, 14), (514, 0, 14), (515, 0, 14), (516, 0, 14), (517, 0, 14), (518, 0, 14)] (sl t).1 (sl t).2 = false := hkj
    rw [h9] at hkj
    cases hkj
  · obtain ⟨rfl, rfl⟩ := e
    rw [scIn_of (0, 35, 1) (by decide) ⟨rfl, Nat.le_refl _, by decide⟩] at hkj
    cases hkj
end
-- P 12na
section
abbrev cc_X11_has_0 : scC := (qX11_has, 0, [((-2147483648), 2147483647), ((-2147483648), 2147483647)], [.inl (some 0, 0), .inl (some 1, 0)], [], [(1, (0, 1), [], [], [])], [])
set_option maxRecDepth 20000 in
abbrev xx_X11_has_0 : scX := (Tm, invM, lnX11, [], cc_X11_has_0)
set_option maxRecDepth 20000 in
theorem hh_X11_has_0 : scH Tm invM cc_X11_has_0 := scCheck_ok (X := xx_X11_has_0) (nodes := []) (fuel := 4000) ⟨lqX11, fa_nil⟩ dtX11_has (by decide +kernel)
abbrev cc_X11_mayWrite_0 : scC := (qX11_mayWrite, 1, [(0, 7)], [.inr (.inr (.inl [0])), .inr (.inr (.inl [8])), .inl (some 0, 0)], [], [(1, (0, 1), [], [], [])], [])
set_option maxRecDepth 20000 in
abbrev xx_X11_mayWrite_0 : scX := (Tm, invM, lnX11, [(256, 1, 0, cc_X11_has_0)], cc_X11_mayWrite_0)
set_option maxRecDepth 20000 in
theorem hh_X11_mayWrite_0 : scH Tm invM cc_X11_mayWrite_0 := scCheck_ok (X := xx_X11_mayWrite_0) (nodes := []) (fuel := 4000) ⟨lqX11, fa_cons (⟨pcs_X11_256, hh_X11_has_0⟩) (fa_nil)⟩ dtX11_mayWrite (by decide +kernel)
abbrev cc_X11_yearsOf_0 : scC := (qX11_yearsOf, 0, [(0, 7), (0, 200)], [.inr (.inr (.inl [0])), .inl (some 0, 0), .inl (some 1, 0)], [], [(1, (0, 310), [], [], [])], [])
set_option maxRecDepth 20000 in
abbrev xx_X11_yearsOf_0 : scX := (Tm, invM, lnX11, [], cc_X11_yearsOf_0)
set_option maxRecDepth 20000 in
theorem hh_X11_yearsOf_0 : scH Tm invM cc_X11_yearsOf_0 := scCheck_ok (X := xx_X11_yearsOf_0) (nodes := []) (fuel := 4000) ⟨lqX11, fa_nil⟩ dtX11_yearsOf (by decide +kernel)
abbrev cc_X11_isByDead_0 : scC := (qX11_isByDead, 1, [(0, 7)], [.inr (.inr (.inl [0])), .inr (.inr (.inl [8])), .inl (some 0, 0)], [], [(1, (0, 1), [], [], [])], [])
set_option maxRecDepth 20000 in
abbrev xx_X11_isByDead_0 : scX := (Tm, invM, lnX11, [(256, 1, 0, cc_X11_has_0)], cc_X11_isByDead_0)
set_option maxRecDepth 20000 in
theorem hh_X11_isByDead_0 : scH Tm invM cc_X11_isByDead_0 := scCheck_ok (X := xx_X11_isByDead_0) (nodes := []) (fuel := 4000) ⟨lqX11, fa_cons (⟨pcs_X11_256, hh_X11_has_0⟩) (fa_nil)⟩ dtX11_isByDead (by decide +kernel)
abbrev cc_X11_changesOf_0 : scC := (qX11_changesOf, 0, [((-2147483648), 2147483647), ((-2147483648), 2147483647), ((-2147483648), 2147483647)], [.inr (.inr (.inl [0])), .inl (some 0, 0), .inl (some 1, 0), .inl (some 2, 0)], [], [(1, ((-2147483648), 2147483647), [], [], [])], [])
set_option maxRecDepth 20000 in
abbrev xx_X11_changesOf_0 : scX := (Tm, invM, lnX11, [], cc_X11_changesOf_0)
set_option maxRecDepth 20000 in
theorem hh_X11_changesOf_0 : scH Tm invM cc_X11_changesOf_0 := scCheck_ok (X := xx_X11_changesOf_0) (nodes := [(6, ([((-2147483648), 2147483647), ((-2147483648), 2147483647), ((-2147483648), 2147483647), ((-2147483648), 2147483647), (0, 24), (0, 60), (0, 7), (0, 24)], [some (.inr (.inr (.inl [0]))), some (.inl (some 0, 0)), some (.inl (some 1, 0)), some (.inl (some 2, 0)), some (.inl (some 3, 0)), some (.inl (some 4, 0))], [], [((67, 2), (some 5, 0)), ((67, 0), (some 6, 0)), ((4, 1), (some 7, 0))]), ([0, 0, 0, 0, (-2)], 48))]) (fuel := 4000) ⟨lqX11, fa_nil⟩ dtX11_changesOf (by decide +kernel)
abbrev cc_X11_wrongBy_0 : scC := (qX11_wrongBy, 4, [((-2147483648), 2147483647), ((-2147483648), 2147483647), ((-2147483648), 2147483647), ((-2147483648), 2147483647), ((-2147483648), 2147483647)], [.inr (.inr (.inl [0])), .inl (some 0, 0), .inl (some 1, 0), .inl (some 2, 0), .inl (some 3, 0), .inl (some 4, 0)], [], [(1, (0, 64), [], [], [])], [(5, 0, 160), (6, 0, 5)])
set_option maxRecDepth 20000 in
abbrev xx_X11_wrongBy_0 : scX := (Tm, invM, lnX11, [(260, 0, 11, cc_hand_byLaw)], cc_X11_wrongBy_0)
set_option maxRecDepth 20000 in
theorem hh_X11_wrongBy_0 : scH Tm invM cc_X11_wrongBy_0 := scCheck_ok (X := xx_X11_wrongBy_0) (nodes := []) (fuel := 4000) ⟨lqX11, fa_cons (⟨⟨0, _, pcv_X11_260, rfl⟩, hh_hand_byLaw⟩) (fa_nil)⟩ dtX11_wrongBy (by decide +kernel)
abbrev cc_X11_wrongIn_0 : scC := (qX11_wrongIn, 5, [(0, 7), ((-1000), 200), (0, 200)], [.inr (.inr (.inl [0])), .inr (.inr (.inl [8])), .inl (some 0, 0), .inl (some 1, 0), .inl (some 2, 0)], [], [(1, (0, 64), [], [], [])], [(5, 0, 160), (6, 0, 5)])
set_option maxRecDepth 20000 in
abbrev xx_X11_wrongIn_0 : scX := (Tm, invM, lnX11, [(263, 0, 11, cc_X11_yearsOf_0), (266, 0, 11, cc_X11_isByDead_0), (270, 0, 11, cc_X11_changesOf_0), (273, 0, 11, cc_X11_wrongBy_0)], cc_X11_wrongIn_0)
set_option maxRecDepth 20000 in
theorem hh_X11_wrongIn_0 : scH Tm invM cc_X11_wrongIn_0 := scCheck_ok (X := xx_X11_wrongIn_0) (nodes := []) (fuel := 4000) ⟨lqX11, fa_cons (⟨⟨2, _, pcv_X11_263, rfl⟩, hh_X11_yearsOf_0⟩) (fa_cons (⟨⟨2, _, pcv_X11_266, rfl⟩, hh_X11_isByDead_0⟩) (fa_cons (⟨⟨3, _, pcv_X11_270, rfl⟩, hh_X11_changesOf_0⟩) (fa_cons (⟨⟨5, _, pcv_X11_273, rfl⟩, hh_X11_wrongBy_0⟩) (fa_nil))))⟩ dtX11_wrongIn (by decide +kernel)
abbrev cc_X11_costIn_0 : scC := (qX11_costIn, 6, [(0, 7), ((-1000), 200), (0, 200)], [.inr (.inr (.inl [0])), .inr (.inr (.inl [8])), .inl (some 0, 0), .inl (some 1, 0), .inl (some 2, 0)], [], [(1, (0, 57024), [], [], [])], [(5, 0, 160), (6, 0, 5)])
set_option maxRecDepth 20000 in
abbrev xx_X11_costIn_0 : scX := (Tm, invM, lnX11, [(276, 0, 11, cc_X11_wrongIn_0)], cc_X11_costIn_0)
set_option maxRecDepth 20000 in
theorem hh_X11_costIn_0 : scH Tm invM cc_X11_costIn_0 := scCheck_ok (X := xx_X11_costIn_0) (nodes := []) (fuel := 4000) ⟨lqX11, fa_cons (⟨⟨4, _, pcv_X11_276, rfl⟩, hh_X11_wrongIn_0⟩) (fa_nil)⟩ dtX11_costIn (by decide +kernel)
abbrev cc_X11_costOf_0 : scC := (qX11_costOf, 7, [(0, 7)], [.inr (.inr (.inl [0])), .inr (.inr (.inl [8])), .inl (some 0, 0)], [], [(1, (0, 57024), [], [], [])], [(5, 0, 160), (6, 0, 5)])
set_option maxRecDepth 20000 in
abbrev xx_X11_costOf_0 : scX := (Tm, invM, lnX11, [(256, 1, 0, cc_X11_has_0), (280, 0, 11, cc_X11_costIn_0)], cc_X11_costOf_0)
set_option maxRecDepth 20000 in
theorem hh_X11_costOf_0 : scH Tm invM cc_X11_costOf_0 := scCheck_ok (X := xx_X11_costOf_0) (nodes := []) (fuel := 4000) ⟨lqX11, fa_cons (⟨pcs_X11_256, hh_X11_has_0⟩) (fa_cons (⟨⟨4, _, pcv_X11_280, rfl⟩, hh_X11_costIn_0⟩) (fa_nil))⟩ dtX11_costOf (by decide +kernel)
abbrev cc_X11_saved_0 : scC := (qX11_saved, 8, [(0, 7)], [.inr (.inr (.inl [0])), .inr (.inr (.inl [8])), .inl (some 0, 0)], [], [(1, (0, 2147483647), [], [], [])], [(5, 0, 160), (6, 0, 5)])
set_option maxRecDepth 20000 in
abbrev xx_X11_saved_0 : scX := (Tm, invM, lnX11, [(280, 0, 11, cc_X11_costIn_0), (293, 0, 11, cc_X11_costOf_0), (296, 0, 11, cc_X11_mayWrite_0)], cc_X11_saved_0)
set_option maxRecDepth 20000 in
theorem hh_X11_saved_0 : scH Tm invM cc_X11_saved_0 := scCheck_ok (X := xx_X11_saved_0) (nodes := []) (fuel := 4000) ⟨lqX11, fa_cons (⟨⟨4, _, pcv_X11_280, rfl⟩, hh_X11_costIn_0⟩) (fa_cons (⟨⟨2, _, pcv_X11_293, rfl⟩, hh_X11_costOf_0⟩) (fa_cons (⟨⟨2, _, pcv_X11_296, rfl⟩, hh_X11_mayWrite_0⟩) (fa_nil)))⟩ dtX11_saved (by decide +kernel)
abbrev cc_X11_hasPiece_0 : scC := (qX11_hasPiece, 0, [(0, 7)], [.inr (.inr (.inl [8])), .inl (some 0, 0)], [], [(1, (0, 1), [], [], [])], [])
set_option maxRecDepth 20000 in
abbrev xx_X11_hasPiece_0 : scX := (Tm, invM, lnX11, [], cc_X11_hasPiece_0)
set_option maxRecDepth 20000 in
theorem hh_X11_hasPiece_0 : scH Tm invM cc_X11_hasPiece_0 := scCheck_ok (X := xx_X11_hasPiece_0) (nodes := []) (fuel := 4000) ⟨lqX11, fa_nil⟩ dtX11_hasPiece (by decide +kernel)
abbrev cc_X11_renewHours_0 : scC := (qX11_renewHours, 1, [(0, 7)], [.inr (.inr (.inl [0])), .inl (some 0, 0)], [], [(1, (1, 9), [], [], [])], [])
set_option maxRecDepth 20000 in
abbrev xx_X11_renewHours_0 : scX := (Tm, invM, lnX11, [], cc_X11_renewHours_0)
set_option maxRecDepth 20000 in
theorem hh_X11_renewHours_0 : scH Tm invM cc_X11_renewHours_0 := scCheck_ok (X := xx_X11_renewHours_0) (nodes := []) (fuel := 4000) ⟨lqX11, fa_nil⟩ dtX11_renewHours (by decide +kernel)
abbrev cc_X11_hoursFor_0 : scC := (qX11_hoursFor, 2, [(0, 7)], [.inr (.inr (.inl [0])), .inr (.inr (.inl [8])), .inl (some 0, 0)], [], [(1, (0, 9), [], [], [])], [])
set_option maxRecDepth 20000 in
abbrev xx_X11_hoursFor_0 : scX := (Tm, invM, lnX11, [(283, 1, 0, cc_X11_hasPiece_0), (287, 0, 11, cc_X11_renewHours_0)], cc_X11_hoursFor_0)
set_option maxRecDepth 20000 in
theorem hh_X11_hoursFor_0 : scH Tm invM cc_X11_hoursFor_0 := scCheck_ok (X := xx_X11_hoursFor_0) (nodes := []) (fuel := 4000) ⟨lqX11, fa_cons (⟨pcs_X11_283, hh_X11_hasPiece_0⟩) (fa_cons (⟨⟨1, _, pcv_X11_287, rfl⟩, hh_X11_renewHours_0⟩) (fa_nil))⟩ dtX11_hoursFor (by decide +kernel)
abbrev cc_X11_dies_0 : scC := (qX11_dies, 8, [(0, 7)], [.inr (.inr (.inl [0])), .inr (.inr (.inl [8])), .inl (some 0, 0)], [], [(0, (0, 0), [], [], [])], [(5, 0, 160), (6, 0, 5), (8, 0, 10), (8, 11, 3)])
set_option maxRecDepth 20000 in
abbrev xx_X11_dies_0 : scX := (Tm, invM, lnX11, [(283, 1, 0, cc_X11_hasPiece_0), (293, 0, 11, cc_X11_costOf_0)], cc_X11_dies_0)
set_option maxRecDepth 20000 in
theorem hh_X11_dies_0 : scH Tm invM cc_X11_dies_0 := scCheck_ok (X := xx_X11_dies_0) (nodes := []) (fuel := 4000) ⟨lqX11, fa_cons (⟨pcs_X11_283, hh_X11_hasPiece_0⟩) (fa_cons (⟨⟨2, _, pcv_X11_293, rfl⟩, hh_X11_costOf_0⟩) (fa_nil))⟩ dtX11_dies (by decide +kernel)
abbrev cc_X11_copies_0 : scC := (qX11_copies, 0, [], [.inr (.inr (.inl [7])), .inr (.inr (.inl [8]))], [], [(0, (0, 0), [], [], [])], [(8, 0, 14)])
set_option maxRecDepth 20000 in
abbrev xx_X11_copies_0 : scX := (Tm, invM, lnX11, [], cc_X11_copies_0)
set_option maxRecDepth 20000 in
theorem hh_X11_copies_0 : scH Tm invM cc_X11_copies_0 := scCheck_ok (X := xx_X11_copies_0) (nodes := []) (fuel := 4000) ⟨lqX11, fa_nil⟩ dtX11_copies (by decide +kernel)
abbrev cc_X11_weekEnds_0 : scC := (qX11_weekEnds, 0, [], [.inr (.inr (.inl [0])), .inr (.inr (.inl [8]))], [], [(1, (0, 1), [], [], [])], [(8, 9, 2)])
set_option maxRecDepth 20000 in
abbrev xx_X11_weekEnds_0 : scX := (Tm, invM, lnX11, [], cc_X11_weekEnds_0)
set_option maxRecDepth 20000 in
theorem hh_X11_weekEnds_0 : scH Tm invM cc_X11_weekEnds_0 := scCheck_ok (X := xx_X11_weekEnds_0) (nodes := []) (fuel := 4000) ⟨lqX11, fa_nil⟩ dtX11_weekEnds (by decide +kernel)
abbrev cc_X11_isByDead_1 : scC := (qX11_isByDead, 1, [(0, 7)], [.inr (.inr (.inl [0])), .inr (.inr (.inl [7])), .inl (some 0, 0)], [], [(1, (0, 1), [], [], [])], [])
set_option maxRecDepth 20000 in
abbrev xx_X11_isByDead_1 : scX := (Tm, invM, lnX11, [(256, 1, 0, cc_X11_has_0)], cc_X11_isByDead_1)
set_option maxRecDepth 20000 in
theorem hh_X11_isByDead_1 : scH Tm invM cc_X11_isByDead_1 := scCheck_ok (X := xx_X11_isByDead_1) (nodes := []) (fuel := 4000) ⟨lqX11, fa_cons (⟨pcs_X11_256, hh_X11_has_0⟩) (fa_nil)⟩ dtX11_isByDead (by decide +kernel)
abbrev cc_X11_wrongIn_1 : scC := (qX11_wrongIn, 5, [(0, 7), ((-1000), 200), (0, 200)], [.inr (.inr (.inl [0])), .inr (.inr (.inl [7])), .inl (some 0, 0), .inl (some 1, 0), .inl (some 2, 0)], [], [(1, (0, 64), [], [], [])], [(5, 0, 160), (6, 0, 5)])
set_option maxRecDepth 20000 in
abbrev xx_X11_wrongIn_1 : scX := (Tm, invM, lnX11, [(263, 0, 11, cc_X11_yearsOf_0), (266, 0, 11, cc_X11_isByDead_1), (270, 0, 11, cc_X11_changesOf_0), (273, 0, 11, cc_X11_wrongBy_0)], cc_X11_wrongIn_1)
set_option maxRecDepth 20000 in
theorem hh_X11_wrongIn_1 : scH Tm invM cc_X11_wrongIn_1 := scCheck_ok (X := xx_X11_wrongIn_1) (nodes := []) (fuel := 4000) ⟨lqX11, fa_cons (⟨⟨2, _, pcv_X11_263, rfl⟩, hh_X11_yearsOf_0⟩) (fa_cons (⟨⟨2, _, pcv_X11_266, rfl⟩, hh_X11_isByDead_1⟩) (fa_cons (⟨⟨3, _, pcv_X11_270, rfl⟩, hh_X11_changesOf_0⟩) (fa_cons (⟨⟨5, _, pcv_X11_273, rfl⟩, hh_X11_wrongBy_0⟩) (fa_nil))))⟩ dtX11_wrongIn (by decide +kernel)
abbrev cc_X11_costIn_1 : scC := (qX11_costIn, 6, [(0, 7), ((-1000), 200), (0, 200)], [.inr (.inr (.inl [0])), .inr (.inr (.inl [7])), .inl (some 0, 0), .inl (some 1, 0), .inl (some 2, 0)], [], [(1, (0, 57024), [], [], [])], [(5, 0, 160), (6, 0, 5)])
set_option maxRecDepth 20000 in
abbrev xx_X11_costIn_1 : scX := (Tm, invM, lnX11, [(276, 0, 11, cc_X11_wrongIn_1)], cc_X11_costIn_1)
set_option maxRecDepth 20000 in
theorem hh_X11_costIn_1 : scH Tm invM cc_X11_costIn_1 := scCheck_ok (X := xx_X11_costIn_1) (nodes := []) (fuel := 4000) ⟨lqX11, fa_cons (⟨⟨4, _, pcv_X11_276, rfl⟩, hh_X11_wrongIn_1⟩) (fa_nil)⟩ dtX11_costIn (by decide +kernel)
abbrev cc_X11_costOf_1 : scC := (qX11_costOf, 7, [(0, 7)], [.inr (.inr (.inl [0])), .inr (.inr (.inl [7])), .inl (some 0, 0)], [], [(1, (0, 57024), [], [], [])], [(5, 0, 160), (6, 0, 5)])
set_option maxRecDepth 20000 in
abbrev xx_X11_costOf_1 : scX := (Tm, invM, lnX11, [(256, 1, 0, cc_X11_has_0), (280, 0, 11, cc_X11_costIn_1)], cc_X11_costOf_1)
set_option maxRecDepth 20000 in
theorem hh_X11_costOf_1 : scH Tm invM cc_X11_costOf_1 := scCheck_ok (X := xx_X11_costOf_1) (nodes := []) (fuel := 4000) ⟨lqX11, fa_cons (⟨pcs_X11_256, hh_X11_has_0⟩) (fa_cons (⟨⟨4, _, pcv_X11_280, rfl⟩, hh_X11_costIn_1⟩) (fa_nil))⟩ dtX11_costOf (by decide +kernel)
abbrev cc_X11_hasPiece_1 : scC := (qX11_hasPiece, 0, [(0, 7)], [.inr (.inr (.inl [7])), .inl (some 0, 0)], [], [(1, (0, 1), [], [], [])], [])
set_option maxRecDepth 20000 in
abbrev xx_X11_hasPiece_1 : scX := (Tm, invM, lnX11, [], cc_X11_hasPiece_1)
set_option maxRecDepth 20000 in
theorem hh_X11_hasPiece_1 : scH Tm invM cc_X11_hasPiece_1 := scCheck_ok (X := xx_X11_hasPiece_1) (nodes := []) (fuel := 4000) ⟨lqX11, fa_nil⟩ dtX11_hasPiece (by decide +kernel)
abbrev cc_X11_dies_1 : scC := (qX11_dies, 8, [(0, 7)], [.inr (.inr (.inl [0])), .inr (.inr (.inl [7])), .inl (some 0, 0)], [], [(0, (0, 0), [], [], [])], [(5, 0, 160), (6, 0, 5), (7, 0, 10), (7, 11, 3)])
set_option maxRecDepth 20000 in
abbrev xx_X11_dies_1 : scX := (Tm, invM, lnX11, [(283, 1, 0, cc_X11_hasPiece_1), (293, 0, 11, cc_X11_costOf_1)], cc_X11_dies_1)
set_option maxRecDepth 20000 in
theorem hh_X11_dies_1 : scH Tm invM cc_X11_dies_1 := scCheck_ok (X := xx_X11_dies_1) (nodes := []) (fuel := 4000) ⟨lqX11, fa_cons (⟨pcs_X11_283, hh_X11_hasPiece_1⟩) (fa_cons (⟨⟨2, _, pcv_X11_293, rfl⟩, hh_X11_costOf_1⟩) (fa_nil))⟩ dtX11_dies (by decide +kernel)
abbrev cc_X11_weekEnds_1 : scC := (qX11_weekEnds, 0, [], [.inr (.inr (.inl [0])), .inr (.inr (.inl [7]))], [], [(1, (0, 1), [], [], [])], [(7, 9, 2)])
set_option maxRecDepth 20000 in
abbrev xx_X11_weekEnds_1 : scX := (Tm, invM, lnX11, [], cc_X11_weekEnds_1)
set_option maxRecDepth 20000 in
theorem hh_X11_weekEnds_1 : scH Tm invM cc_X11_weekEnds_1 := scCheck_ok (X := xx_X11_weekEnds_1) (nodes := []) (fuel := 4000) ⟨lqX11, fa_nil⟩ dtX11_weekEnds (by decide +kernel)
abbrev cc_X11_copies_1 : scC := (qX11_copies, 0, [], [.inr (.inr (.inl [7])), .inr (.inr (.inl [503, 504, 505, 506, 507, 508, 509, 510, 511, 512, 513, 514, 515, 516, 517, 518]))], [], [(0, (0, 0), [], [], [])], [(503, 0, 14), (504, 0, 14), (505, 0, 14), (506, 0, 14), (507, 0, 14), (508, 0, 14), (509, 0, 14), (510, 0, 14), (511, 0, 14), (512, 0, 14), (513, 0, 14), (514, 0, 14), (515, 0, 14), (516, 0, 14), (517, 0, 14), (518, 0, 14)])
set_option maxRecDepth 20000 in
abbrev xx_X11_copies_1 : scX := (Tm, invM, lnX11, [], cc_X11_copies_1)
set_option maxRecDepth 20000 in
theorem hh_X11_copies_1 : scH Tm invM cc_X11_copies_1 := scCheck_ok (X := xx_X11_copies_1) (nodes := []) (fuel := 4000) ⟨lqX11, fa_nil⟩ dtX11_copies (by decide +kernel)
end
-- P 12o
section
-- THE REFERENCE: weeks to come
theorem scInv.put {M : fmM} {k j : Nat} {x : Int32} (hI : scInv Tm invM M) (hb : (scAt (invM k) j).1 ≤ x.toInt ∧ x.toInt ≤ (scAt (invM k) j).2) (hp : jmPr k j = false) : scInv Tm invM (fmI M k j x) := by
  refine ⟨fun k' j' hj => ?_, fun hm => jm_stable (hI.2 hm) (fun k' j' hk => ?_)⟩
  · rw [fmI_at]
    by_cases e : k' = k ∧ j' = j
    · rw [if_pos e, e.1, e.2]
      exact hb
    · rw [if_neg e]
      exact hI.1 k' j' hj
  · show (fmI M k j x).1 k' j' = _
    rw [fmI_at, if_neg]
    rintro ⟨rfl, rfl⟩
    rw [hp] at hk
    cases hk
theorem scInv.p89 {M : fmM} {x : Int32} (hI : scInv Tm invM M) : scInv Tm invM (fmI M 8 9 x) := hI.put (k := 8) (j := 9) (x := x) (scq_t x) rfl
theorem scInv.p47 {M : fmM} {x : Int32} (hI : scInv Tm invM M) : scInv Tm invM (fmI M 0 47 x) := hI.put (k := 0) (j := 47) (x := x) (scq_t x) rfl
theorem scInv.p48 {M : fmM} {x : Int32} (hI : scInv Tm invM M) : scInv Tm invM (fmI M 0 48 x) := hI.put (k := 0) (j := 48) (x := x) (scq_t x) rfl
theorem scFr_nil {M M' : fmM} (h : scFr [] M M') : M' = M := Prod.ext (funext fun k => funext fun j => (h k j rfl).1) (funext fun k => funext fun j => (h k j rfl).2)
theorem sc_sg {i : Int32} {k : Nat} {lo hi : Int} (hi1 : i.toInt = k) (hb : lo ≤ (k : Int) ∧ (k : Int) ≤ hi) : scEk [(lo, hi)] [(k : Int)] := ⟨rfl, fun n e x he hx => by
  cases n with
  | zero =>
    cases he
    cases hx
    exact hb
  | succ n => cases he⟩
theorem sc_a8 {i : Int32} {k : Nat} (hi : i.toInt = k) : scSk [(k : Int)] [.inr (.inr (.inl [0])), .inr (.inr (.inl [8])), .inl (some 0, 0)] [.ref 0, .ref 8, .int i] := ⟨⟨0, by simp, rfl⟩, ⟨8, by simp, rfl⟩, ⟨i, rfl, ⟨(k : Int), rfl, hi.trans (Int.add_zero _).symm⟩⟩, trivial⟩
theorem sc_o1 {T : fmT} {inv : Nat → List scI} {y : fmY} {d : Nat} {en : List scI} {sg : List scV} {fs : List scF} {e : scI} {W : List (Nat × Nat × Nat)} {σ : List Int} {M M' : fmM} {r : fmR} (h : scEnd T inv (y, d, en, sg, fs, [(1, e, [], [], [])], W) σ M r M') : (∃ n : Int32, r = .inl (some (.int n)) ∧ e.1 ≤ n.toInt ∧ n.toInt ≤ e.2) ∧ scInv T inv M' ∧ scFr W M M' := by
  obtain ⟨⟨o, ho, hr, -⟩, h1, h2⟩ := h
  have eo : o = (1, e, [], [], []) := by simpa using ho
  subst eo
  exact ⟨hr, h1, h2⟩
theorem sc_o0 {T : fmT} {inv : Nat → List scI} {y : fmY} {d : Nat} {en : List scI} {sg : List scV} {fs : List scF} {e : scI} {W : List (Nat × Nat × Nat)} {σ : List Int} {M M' : fmM} {r : fmR} (h : scEnd T inv (y, d, en, sg, fs, [(0, e, [], [], [])], W) σ M r M') : r = .inl none ∧ scInv T inv M' ∧ scFr W M M' := by
  obtain ⟨⟨o, ho, hr, -⟩, h1, h2⟩ := h
  have eo : o = (0, e, [], [], []) := by simpa using ho
  subst eo
  exact ⟨hr, h1, h2⟩
theorem s_hours {M : fmM} {Q : fmR → fmM → Prop} {i : Int32} {k : Nat} (hi : i.toInt = k) (hk : k < 8) (hI : scInv Tm invM M) (hq : ∀ n : Int32, Q (.inl (some (.int n))) M) : pvGood Tm 2 qX11_hoursFor [.ref 0, .ref 8, .int i] M Q := (hh_X11_hoursFor_0 M [(k : Int)] _ (sc_sg hi ⟨by omega, by omega⟩) (sc_a8 hi) (fun f hf => by cases hf) hI).imp (fun r M' h => by
  obtain ⟨⟨n, rfl, -, -⟩, h1, h2⟩ := sc_o1 h
  rw [scFr_nil h2]
  exact hq n)
theorem s_dies {M : fmM} {Q : fmR → fmM → Prop} {i : Int32} {k : Nat} (hi : i.toInt = k) (hk : k < 8) (hI : scInv Tm invM M) (hq : ∀ M' : fmM, scInv Tm invM M' → scFr [(5, 0, 160), (6, 0, 5), (8, 0, 10), (8, 11, 3)] M M' → Q (.inl none) M') : pvGood Tm 8 qX11_dies [.ref 0, .ref 8, .int i] M Q := (hh_X11_dies_0 M [(k : Int)] _ (sc_sg hi ⟨by omega, by omega⟩) (sc_a8 hi) (fun f hf => by cases hf) hI).imp (fun r M' h => by
  obtain ⟨rfl, h1, h2⟩ := sc_o0 h
  exact hq M' h1 h2)
theorem s_week {M : fmM} {Q : fmR → fmM → Prop} (hI : scInv Tm invM M) (hq : ∀ (n : Int32) (M' : fmM), scInv Tm invM M' → scFr [(8, 9, 2)] M M' → Q (.inl (some (.int n))) M') : pvGood Tm 0 qX11_weekEnds [.ref 0, .ref 8] M Q := (hh_X11_weekEnds_0 M [] [.ref 0, .ref 8] ⟨rfl, fun n e x he hx => by cases he⟩ ⟨⟨0, by simp, rfl⟩, ⟨8, by simp, rfl⟩, trivial⟩ (fun f hf => by cases hf) hI).imp (fun r M' h => by
  obtain ⟨⟨n, rfl, -, -⟩, h1, h2⟩ := sc_o1 h
  exact hq n M' h1 h2)
theorem s_copies {M : fmM} {Q : fmR → fmM → Prop} (hI : scInv Tm invM M) (hq : ∀ M' : fmM, scInv Tm invM M' → scFr [(8, 0, 14)] M M' → Q (.inl none) M') : pvGood Tm 0 qX11_copies [.ref 7, .ref 8] M Q := (hh_X11_copies_0 M [] [.ref 7, .ref 8] ⟨rfl, fun n e x he hx => by cases he⟩ ⟨⟨7, by simp, rfl⟩, ⟨8, by simp, rfl⟩, trivial⟩ (fun f hf => by cases hf) hI).imp (fun r M' h => by
  obtain ⟨rfl, h1, h2⟩ := sc_o0 h
  exact hq M' h1 h2)
/-- lives whose piece isn't of this week, on the trial row -/
def cnt8 (M : fmM) : Nat := (List.range 8).countP (fun k => decide (¬ M.1 8 (1 + k) = M.1 8 10))
theorem cnt8_lt {M M' : fmM} {k : Nat} (hk : k < 8) (h : ¬ M.1 8 (1 + k) = M.1 8 10) (h1 : M'.1 8 (1 + k) = M.1 8 10) (h2 : ∀ j, j ≠ 9 → j ≠ 1 + k → M'.1 8 j = M.1 8 j) : cnt8 M' < cnt8 M := by
  have e10 : M'.1 8 10 = M.1 8 10 := by
    by_cases e : 10 = 1 + k
    · omega
    · exact h2 10 (by decide) e
  have e : ∀ i, i < 8 → i ≠ k → M'.1 8 (1 + i) = M.1 8 (1 + i) := fun i hi hik => h2 _ (by omega) (by omega)
  unfold cnt8
  rw [e10]
  simp only [List.range, List.range.loop, List.countP_cons, List.countP_nil]
  rcases (show k = 0 ∨ k = 1 ∨ k = 2 ∨ k = 3 ∨ k = 4 ∨ k = 5 ∨ k = 6 ∨ k = 7 by omega) with rfl | rfl | rfl | rfl | rfl | rfl | rfl | rfl
  · rw [e 1 (by decide) (by decide), e 2 (by decide) (by decide), e 3 (by decide) (by decide), e 4 (by decide) (by decide), e 5 (by decide) (by decide), e 6 (by decide) (by decide), e 7 (by decide) (by decide)]
    simp [h, h1]
  · rw [e 0 (by decide) (by decide), e 2 (by decide) (by decide), e 3 (by decide) (by decide), e 4 (by decide) (by decide), e 5 (by decide) (by decide), e 6 (by decide) (by decide), e 7 (by decide) (by decide)]
    simp [h, h1]
  · rw [e 1 (by decide) (by decide), e 0 (by decide) (by decide), e 3 (by decide) (by decide), e 4 (by decide) (by decide), e 5 (by decide) (by decide), e 6 (by decide) (by decide), e 7 (by decide) (by decide)]
    simp [h, h1]
  · rw [e 1 (by decide) (by decide), e 2 (by decide) (by decide), e 0 (by decide) (by decide), e 4 (by decide) (by decide), e 5 (by decide) (by decide), e 6 (by decide) (by decide), e 7 (by decide) (by decide)]
    simp [h, h1]
  · rw [e 1 (by decide) (by decide), e 2 (by decide) (by decide), e 3 (by decide) (by decide), e 0 (by decide) (by decide), e 5 (by decide) (by decide), e 6 (by decide) (by decide), e 7 (by decide) (by decide)]
    simp [h, h1]
  · rw [e 1 (by decide) (by decide), e 2 (by decide) (by decide), e 3 (by decide) (by decide), e 4 (by decide) (by decide), e 0 (by decide) (by decide), e 6 (by decide) (by decide), e 7 (by decide) (by decide)]
    simp [h, h1]
  · rw [e 1 (by decide) (by decide), e 2 (by decide) (by decide), e 3 (by decide) (by decide), e 4 (by decide) (by decide), e 5 (by decide) (by decide), e 0 (by decide) (by decide), e 7 (by decide) (by decide)]
    simp [h, h1]
  · rw [e 1 (by decide) (by decide), e 2 (by decide) (by decide), e 3 (by decide) (by decide), e 4 (by decide) (by decide), e 5 (by decide) (by decide), e 6 (by decide) (by decide), e 0 (by decide) (by decide)]
    simp [h, h1]
def fst8 (M : fmM) (r : Int32) : Prop := r = -1 ∨ ∃ k : Nat, k < 8 ∧ r.toInt = k ∧ ¬ M.1 8 (1 + k) = M.1 8 10
set_option maxRecDepth 20000 in
theorem c_mayWrite0 {M : fmM} {Q : fmR → fmM → Prop} {i : Int32} {k : Nat} (hi : i.toInt = k) (hk : k < 8) (h : M.1 8 (1 + k) = M.1 8 10) (hq : Q (.inl (some (.int 0))) M) : pvGood Tm 1 qX11_mayWrite [.ref 0, .ref 8, .int i] M Q := by
  refine pvGood_of (Nat.le_of_ble_eq_true rfl) ?_
  show pvEv Tm 1 qX11_mayWrite 0 [some (.ref 0), some (.ref 8), some (.int i)] [] M Q
  refine pv_aloadn (pc := 0) (n := 1) 1 rfl rfl (fm_dec dtX11_mayWrite 0 rfl) ?_
  refine pv_iconst (pc := 1) (v := 0) (by decide) (fm_dec dtX11_mayWrite 1 rfl) ?_
  refine pv_iald (k := 8) (n := 14) (pc := 2) (by decide) rfl rfl (fm_inl (by decide)) (fm_dec dtX11_mayWrite 2 rfl) ?_
  refine pv_iloadn (pc := 3) (n := 2) 2 rfl rfl (fm_dec dtX11_mayWrite 3 rfl) ?_
  refine pv_iS2 (d' := 0) (pc := 4) pcs_X11_256 (Nat.le_of_ble_eq_true rfl) (by decide) (fm_dec dtX11_mayWrite 4 rfl) ?_
  refine c_has (fun h15 => ?_) (fun h15 => ?_)
  · refine pv_then1 ?_
    refine pv_if_ne (pc := 7) 26 (by decide) (fm_dec dtX11_mayWrite 5 rfl) (fun _ => ?_) (fun hc7 => by exfalso; revert hc7; decide)
    refine pv_iconst (pc := 26) (v := 0) (by decide) (fm_dec dtX11_mayWrite 17 rfl) ?_
    exact pv_zreturn (pc := 27) rfl (by first | exact Or.inr rfl | exact Or.inl rfl) (fm_dec dtX11_mayWrite 18 rfl) hq
  · refine pv_then1 ?_
    refine pv_if_ne (pc := 7) 26 (by decide) (fm_dec dtX11_mayWrite 5 rfl) (fun hc7 => by exfalso; revert hc7; decide) (fun _ => ?_)
    refine pv_aloadn (pc := 10) (n := 1) 1 rfl rfl (fm_dec dtX11_mayWrite 6 rfl) ?_
    refine pv_iconst (pc := 11) (v := 1) (by decide) (fm_dec dtX11_mayWrite 7 rfl) ?_
    refine pv_iloadn (pc := 12) (n := 2) 2 rfl rfl (fm_dec dtX11_mayWrite 8 rfl) ?_
    refine pv_iadd (pc := 13) (fm_dec dtX11_mayWrite 9 rfl) ?_
    refine pv_iald (k := 8) (n := 14) (pc := 14) (by decide) rfl rfl (ix_in (ix_1 hi (by omega)) (by omega)) (fm_dec dtX11_mayWrite 10 rfl) ?_
    refine pv_aloadn (pc := 15) (n := 1) 1 rfl rfl (fm_dec dtX11_mayWrite 11 rfl) ?_
    refine pv_bipush (pc := 16) (v := 10) (by decide) (fm_dec dtX11_mayWrite 12 rfl) ?_
    refine pv_iald (k := 8) (n := 14) (pc := 18) (by decide) rfl rfl (fm_inl (by decide)) (fm_dec dtX11_mayWrite 13 rfl) ?_
    refine pv_icmp_eq (pc := 19) 26 (by decide) (fm_dec dtX11_mayWrite 14 rfl) (fun _ => ?_) (fun hc19 => by exfalso; exact hc19 (by rw [i32_cl (ix_1 hi (by omega))]; exact h))
    refine pv_iconst (pc := 26) (v := 0) (by decide) (fm_dec dtX11_mayWrite 17 rfl) ?_
    exact pv_zreturn (pc := 27) rfl (by first | exact Or.inr rfl | exact Or.inl rfl) (fm_dec dtX11_mayWrite 18 rfl) hq
set_option maxRecDepth 20000 in
theorem c_saved0 {M : fmM} {Q : fmR → fmM → Prop} {i : Int32} {k : Nat} (hi : i.toInt = k) (hk : k < 8) (h : M.1 8 (1 + k) = M.1 8 10) (hq : Q (.inl (some (.int 0))) M) : pvGood Tm 7 qX11_saved [.ref 0, .ref 8, .int i] M Q := by
  refine pvGood_of (Nat.le_of_ble_eq_true rfl) ?_
  show pvEv Tm 7 qX11_saved 0 [some (.ref 0), some (.ref 8), some (.int i)] [] M Q
  refine pv_aloadn (pc := 0) (n := 0) 0 rfl rfl (fm_dec dtX11_saved 0 rfl) ?_
  refine pv_aloadn (pc := 1) (n := 1) 1 rfl rfl (fm_dec dtX11_saved 1 rfl) ?_
  refine pv_iloadn (pc := 2) (n := 2) 2 rfl rfl (fm_dec dtX11_saved 2 rfl) ?_
  refine pv_invV2 (k := 0) (d' := 1) (pc := 3) pcv_X11_296 (by decide) rfl (Nat.le_of_ble_eq_true rfl) (by decide) (fm_dec dtX11_saved 3 rfl) ?_
  refine c_mayWrite0 hi hk h ?_
  refine pv_then1 ?_
  refine pv_if_eq (pc := 6) 46 (by decide) (fm_dec dtX11_saved 4 rfl) (fun _ => ?_) (fun hc6 => by exfalso; revert hc6; decide)
  refine pv_iconst (pc := 46) (v := 0) (by decide) (fm_dec dtX11_saved 30 rfl) ?_
  exact pv_ireturn (pc := 47) rfl (fm_dec dtX11_saved 31 rfl) hq
theorem s_saved {M : fmM} {Q : fmR → fmM → Prop} {i : Int32} {k : Nat} (hi : i.toInt = k) (hk : k < 8) (hI : scInv Tm invM M) (hq : ∀ (r : Int32) (M' : fmM), scInv Tm invM M' → scFr [(5, 0, 160), (6, 0, 5)] M M' → (¬ r = 0 → ¬ M.1 8 (1 + k) = M.1 8 10) → Q (.inl (some (.int r))) M') : pvGood Tm 8 qX11_saved [.ref 0, .ref 8, .int i] M Q := by
  by_cases h : M.1 8 (1 + k) = M.1 8 10
  · exact (c_saved0 hi hk h (hq 0 M hI scFr.rfl (fun h => absurd rfl h))).up (by decide)
  · refine (hh_X11_saved_0 M [(k : Int)] _ (sc_sg hi ⟨by omega, by omega⟩) (sc_a8 hi) (fun f hf => by cases hf) hI).imp (fun r M' h9 => ?_)
    obtain ⟨⟨n, rfl, -, -⟩, h1, h2⟩ := sc_o1 h9
    exact hq n M' h1 h2 (fun _ => h)
set_option maxRecDepth 20000 in
theorem fo_loop {Q : fmR → fmM → Prop} {M0 : fmM} {hours : Int32} (hq : ∀ (r : Int32) (M' : fmM), scInv Tm invM M' → scFr [(5, 0, 160), (6, 0, 5)] M0 M' → fst8 M0 r → Q (.inl (some (.int r))) M') : ∀ (m : Nat) (M : fmM) (k : Nat) (ii best : Int32), ii.toInt = k → k + m = 8 → scInv Tm invM M → scFr [(5, 0, 160), (6, 0, 5)] M0 M → fst8 M0 best → pvEv Tm 9 qX11_firstOf 5 [some (.ref 0), some (.ref 8), some (.int hours), some (.int best), some (.int ii)] [] M Q := by
  intro m
  induction m using Nat.strongRecOn with
  | _ m ih =>
    intro M k ii best hii hm hI hF hb
    refine pv_iload (pc := 5) (i := 4) rfl (fm_dec dtX11_firstOf 4 rfl) ?_
    refine pv_aloadn (pc := 7) (n := 0) 0 rfl rfl (fm_dec dtX11_firstOf 5 rfl) ?_
    refine pv_getR (k := 0) (j := 12) (ci := 11) (pc := 8) 4 rfl (by decide) pfl_X11_23 (by decide) rfl (by decide) (fm_dec dtX11_firstOf 6 rfl) ?_
    refine pv_iconst (pc := 11) (v := 0) (by decide) (fm_dec dtX11_firstOf 7 rfl) ?_
    refine pv_iald (k := 4) (n := 6) (pc := 12) (by decide) rfl rfl (fm_inl (by decide)) (fm_dec dtX11_firstOf 8 rfl) ?_
    refine pv_icmp_ge (pc := 13) 90 (by decide) (fm_dec dtX11_firstOf 9 rfl) (fun hc13 => ?_) (fun hc13 => ?_)
    · refine pv_iloadn (pc := 90) (n := 3) 3 rfl rfl (fm_dec dtX11_firstOf 53 rfl) ?_
      exact pv_ireturn (pc := 91) rfl (fm_dec dtX11_firstOf 54 rfl) (hq _ M hI hF hb)
    · have hk8 : k < 8 := (by rw [sc_le] at hc13; have h9 : (M.1 4 0).toInt ≤ 8 := (hI.1 4 0 (by decide)).2; have h8 : (M.1 4 (Int32.toNatClampNeg 0)).toInt = (M.1 4 0).toInt := rfl; omega)
      have e8 : ∀ j, M.1 8 j = M0.1 8 j := fun j => (hF 8 j rfl).1
      refine pv_aloadn (pc := 16) (n := 0) 0 rfl rfl (fm_dec dtX11_firstOf 10 rfl) ?_
      refine pv_aloadn (pc := 17) (n := 1) 1 rfl rfl (fm_dec dtX11_firstOf 11 rfl) ?_
      refine pv_iload (pc := 18) (i := 4) rfl (fm_dec dtX11_firstOf 12 rfl) ?_
      refine pv_invV2 (k := 0) (d' := 8) (pc := 20) pcv_X11_355 (by decide) rfl (Nat.le_of_ble_eq_true rfl) (by decide) (fm_dec dtX11_firstOf 13 rfl) ?_
      refine s_saved hii hk8 hI (fun r20 M20 hI20 f20 g20 => ?_)
      refine pv_then1 ?_
      refine pv_if_eq (pc := 23) 84 (by decide) (fm_dec dtX11_firstOf 14 rfl) (fun hc23 => ?_) (fun hc23 => ?_)
      · refine pv_iincc (pc := 84) 4 1 (by decide) rfl (by decide) rfl (fm_dec dtX11_firstOf 51 rfl) ?_
        dsimp only [List.set_cons_zero, List.set_cons_succ]
        refine pv_goto (pc := 87) 5 (by decide) (fm_dec dtX11_firstOf 52 rfl) ?_
        exact ih (8 - (k + 1)) (by omega) M20 (k + 1) _ _ (i32_p1 hii (by omega)) (by omega) hI20 ((hF).trans f20 rfl) hb
      · refine pv_aloadn (pc := 26) (n := 0) 0 rfl rfl (fm_dec dtX11_firstOf 15 rfl) ?_
        refine pv_aloadn (pc := 27) (n := 1) 1 rfl rfl (fm_dec dtX11_firstOf 16 rfl) ?_
        refine pv_iload (pc := 28) (i := 4) rfl (fm_dec dtX11_firstOf 17 rfl) ?_
        refine pv_invV2 (k := 0) (d' := 2) (pc := 30) pcv_X11_290 (by decide) rfl (Nat.le_of_ble_eq_true rfl) (by decide) (fm_dec dtX11_firstOf 18 rfl) ?_
        refine s_hours hii hk8 hI20 (fun n9 => ?_)
        refine pv_then1 ?_
        refine pv_iloadn (pc := 33) (n := 2) 2 rfl rfl (fm_dec dtX11_firstOf 19 rfl) ?_
        refine pv_icmp_le (pc := 34) 40 (by decide) (fm_dec dtX11_firstOf 20 rfl) (fun hc34 => ?_) (fun hc34 => ?_)
        · refine pv_iloadn (pc := 40) (n := 3) 3 rfl rfl (fm_dec dtX11_firstOf 22 rfl) ?_
          refine pv_iconst (pc := 41) (v := (-1)) (by decide) (fm_dec dtX11_firstOf 23 rfl) ?_
          refine pv_icmp_eq (pc := 42) 81 (by decide) (fm_dec dtX11_firstOf 24 rfl) (fun hc42 => ?_) (fun hc42 => ?_)
          · refine pv_iload (pc := 81) (i := 4) rfl (fm_dec dtX11_firstOf 49 rfl) ?_
            refine pv_istoren (pc := 83) (n := 3) 3 rfl (by decide) rfl (fm_dec dtX11_firstOf 50 rfl) ?_
            dsimp only [List.set_cons_zero, List.set_cons_succ]
            refine pv_iincc (pc := 84) 4 1 (by decide) rfl (by decide) rfl (fm_dec dtX11_firstOf 51 rfl) ?_
            dsimp only [List.set_cons_zero, List.set_cons_succ]
            refine pv_goto (pc := 87) 5 (by decide) (fm_dec dtX11_firstOf 52 rfl) ?_
            exact ih (8 - (k + 1)) (by omega) M20 (k + 1) _ _ (i32_p1 hii (by omega)) (by omega) hI20 ((hF).trans f20 rfl) (Or.inr ⟨k, hk8, hii, fun h9 => g20 hc23 (by rw [e8 _, e8 _]; exact h9)⟩)
          · obtain ⟨kb, hkb8, hkb, -⟩ := hb.resolve_left hc42
            refine pv_aloadn (pc := 45) (n := 0) 0 rfl rfl (fm_dec dtX11_firstOf 25 rfl) ?_
            refine pv_aloadn (pc := 46) (n := 1) 1 rfl rfl (fm_dec dtX11_firstOf 26 rfl) ?_
            refine pv_iload (pc := 47) (i := 4) rfl (fm_dec dtX11_firstOf 27 rfl) ?_
            refine pv_invV2 (k := 0) (d' := 8) (pc := 49) pcv_X11_355 (by decide) rfl (Nat.le_of_ble_eq_true rfl) (by decide) (fm_dec dtX11_firstOf 28 rfl) ?_
            refine s_saved hii hk8 hI20 (fun r49 M49 hI49 f49 g49 => ?_)
            refine pv_then1 ?_
            refine pv_i2l (pc := 52) (fm_dec dtX11_firstOf 29 rfl) ?_
            refine pv_aloadn (pc := 53) (n := 0) 0 rfl rfl (fm_dec dtX11_firstOf 30 rfl) ?_
            refine pv_aloadn (pc := 54) (n := 1) 1 rfl rfl (fm_dec dtX11_firstOf 31 rfl) ?_
            refine pv_iloadn (pc := 55) (n := 3) 3 rfl rfl (fm_dec dtX11_firstOf 32 rfl) ?_
            refine pv_invV2 (k := 0) (d' := 2) (pc := 56) pcv_X11_290 (by decide) rfl (Nat.le_of_ble_eq_true rfl) (by decide) (fm_dec dtX11_firstOf 33 rfl) ?_
            refine s_hours hkb hkb8 hI49 (fun n9 => ?_)
            refine pv_then1 ?_
            refine pv_i2l (pc := 59) (fm_dec dtX11_firstOf 34 rfl) ?_
            refine pv_lmul (pc := 60) (fm_dec dtX11_firstOf 35 rfl) ?_
            refine pv_aloadn (pc := 61) (n := 0) 0 rfl rfl (fm_dec dtX11_firstOf 36 rfl) ?_
            refine pv_aloadn (pc := 62) (n := 1) 1 rfl rfl (fm_dec dtX11_firstOf 37 rfl) ?_
            refine pv_iloadn (pc := 63) (n := 3) 3 rfl rfl (fm_dec dtX11_firstOf 38 rfl) ?_
            refine pv_invV2 (k := 0) (d' := 8) (pc := 64) pcv_X11_355 (by decide) rfl (Nat.le_of_ble_eq_true rfl) (by decide) (fm_dec dtX11_firstOf 39 rfl) ?_
            refine s_saved hkb hkb8 hI49 (fun r64 M64 hI64 f64 g64 => ?_)
            refine pv_then1 ?_
            refine pv_i2l (pc := 67) (fm_dec dtX11_firstOf 40 rfl) ?_
            refine pv_aloadn (pc := 68) (n := 0) 0 rfl rfl (fm_dec dtX11_firstOf 41 rfl) ?_
            refine pv_aloadn (pc := 69) (n := 1) 1 rfl rfl (fm_dec dtX11_firstOf 42 rfl) ?_
            refine pv_iload (pc := 70) (i := 4) rfl (fm_dec dtX11_firstOf 43 rfl) ?_
            refine pv_invV2 (k := 0) (d' := 2) (pc := 72) pcv_X11_290 (by decide) rfl (Nat.le_of_ble_eq_true rfl) (by decide) (fm_dec dtX11_firstOf 44 rfl) ?_
            refine s_hours hii hk8 hI64 (fun n9 => ?_)
            refine pv_then1 ?_
            refine pv_i2l (pc := 75) (fm_dec dtX11_firstOf 45 rfl) ?_
            refine pv_lmul (pc := 76) (fm_dec dtX11_firstOf 46 rfl) ?_
            refine pv_lcmp (pc := 77) (fm_dec dtX11_firstOf 47 rfl) ?_
            refine pv_if_le (pc := 78) 84 (by decide) (fm_dec dtX11_firstOf 48 rfl) (fun hc78 => ?_) (fun hc78 => ?_)
            · refine pv_iincc (pc := 84) 4 1 (by decide) rfl (by decide) rfl (fm_dec dtX11_firstOf 51 rfl) ?_
              dsimp only [List.set_cons_zero, List.set_cons_succ]
              refine pv_goto (pc := 87) 5 (by decide) (fm_dec dtX11_firstOf 52 rfl) ?_
              exact ih (8 - (k + 1)) (by omega) M64 (k + 1) _ _ (i32_p1 hii (by omega)) (by omega) hI64 ((((hF).trans f20 rfl).trans f49 rfl).trans f64 rfl) hb
            · refine pv_iload (pc := 81) (i := 4) rfl (fm_dec dtX11_firstOf 49 rfl) ?_
              refine pv_istoren (pc := 83) (n := 3) 3 rfl (by decide) rfl (fm_dec dtX11_firstOf 50 rfl) ?_
              dsimp only [List.set_cons_zero, List.set_cons_succ]
              refine pv_iincc (pc := 84) 4 1 (by decide) rfl (by decide) rfl (fm_dec dtX11_firstOf 51 rfl) ?_
              dsimp only [List.set_cons_zero, List.set_cons_succ]
              refine pv_goto (pc := 87) 5 (by decide) (fm_dec dtX11_firstOf 52 rfl) ?_
              exact ih (8 - (k + 1)) (by omega) M64 (k + 1) _ _ (i32_p1 hii (by omega)) (by omega) hI64 ((((hF).trans f20 rfl).trans f49 rfl).trans f64 rfl) (Or.inr ⟨k, hk8, hii, fun h9 => g20 hc23 (by rw [e8 _, e8 _]; exact h9)⟩)
        · refine pv_goto (pc := 37) 84 (by decide) (fm_dec dtX11_firstOf 21 rfl) ?_
          refine pv_iincc (pc := 84) 4 1 (by decide) rfl (by decide) rfl (fm_dec dtX11_firstOf 51 rfl) ?_
          dsimp only [List.set_cons_zero, List.set_cons_succ]
          refine pv_goto (pc := 87) 5 (by decide) (fm_dec dtX11_firstOf 52 rfl) ?_
          exact ih (8 - (k + 1)) (by omega) M20 (k + 1) _ _ (i32_p1 hii (by omega)) (by omega) hI20 ((hF).trans f20 rfl) hb
set_option maxRecDepth 20000 in
theorem s_first {M : fmM} {Q : fmR → fmM → Prop} {hours : Int32} (hI : scInv Tm invM M) (hq : ∀ (r : Int32) (M' : fmM), scInv Tm invM M' → scFr [(5, 0, 160), (6, 0, 5)] M M' → fst8 M r → Q (.inl (some (.int r))) M') : pvGood Tm 9 qX11_firstOf [.ref 0, .ref 8, .int hours] M Q := by
  refine pvGood_of (Nat.le_of_ble_eq_true rfl) ?_
  show pvEv Tm 9 qX11_firstOf 0 [some (.ref 0), some (.ref 8), some (.int hours), none, none] [] M Q
  refine pv_iconst (pc := 0) (v := (-1)) (by decide) (fm_dec dtX11_firstOf 0 rfl) ?_
  refine pv_istoren (pc := 1) (n := 3) 3 rfl (by decide) rfl (fm_dec dtX11_firstOf 1 rfl) ?_
  dsimp only [List.set_cons_zero, List.set_cons_succ]
  refine pv_iconst (pc := 2) (v := 0) (by decide) (fm_dec dtX11_firstOf 2 rfl) ?_
  refine pv_istore (pc := 3) (i := 4) (by decide) rfl (fm_dec dtX11_firstOf 3 rfl) ?_
  dsimp only [List.set_cons_zero, List.set_cons_succ]
  exact fo_loop hq 8 M 0 0 (-1) (by decide) (by decide) hI scFr.rfl (Or.inl rfl)
theorem wr_ok {M : fmM} {v : Int32} {k : Nat} (hk : k < 8) (hI : scInv Tm invM M) : scInv Tm invM (fmI (fmI M 8 9 v) 8 (1 + k) (M.1 8 10)) ∧ scFr [(8, 0, 14)] M (fmI (fmI M 8 9 v) 8 (1 + k) (M.1 8 10)) ∧ (fmI (fmI M 8 9 v) 8 (1 + k) (M.1 8 10)).1 8 (1 + k) = M.1 8 10 ∧ ∀ j, j ≠ 9 → j ≠ 1 + k → (fmI (fmI M 8 9 v) 8 (1 + k) (M.1 8 10)).1 8 j = M.1 8 j := by
  have hb : ∀ k, k < 8 → scAt (invM 8) (1 + k) = (-1000, 200) ∧ jmPr 8 (1 + k) = false := by decide
  have h10 : 0 ≤ (M.1 8 10).toInt ∧ (M.1 8 10).toInt ≤ 200 := hI.1 8 10 (by decide)
  refine ⟨hI.p89.put ?_ (hb k hk).2, (scFr.rfl.toI (scIn_of (8, 0, 14) List.mem_cons_self ⟨rfl, Nat.zero_le _, by decide⟩)).toI (scIn_of (8, 0, 14) List.mem_cons_self ⟨rfl, Nat.zero_le _, by show 1 + k < 0 + 14; omega⟩), fmI_s _ _ _ _, fun j a b => ?_⟩
  · rw [(hb k hk).1]
    exact ⟨by show -1000 ≤ _; omega, h10.2⟩
  · rw [fmI_j _ _ b, fmI_j _ _ a]
set_option maxRecDepth 20000 in
theorem s_writes {M : fmM} {Q : fmR → fmM → Prop} {i : Int32} {k : Nat} (hi : i.toInt = k) (hk : k < 8) (hI : scInv Tm invM M) (hq : ∀ M' : fmM, scInv Tm invM M' → scFr [(8, 0, 14)] M M' → M'.1 8 (1 + k) = M.1 8 10 → (∀ j, j ≠ 9 → j ≠ 1 + k → M'.1 8 j = M.1 8 j) → Q (.inl none) M') : pvGood Tm 3 qX11_writes [.ref 0, .ref 8, .int i] M Q := by
  refine pvGood_of (Nat.le_of_ble_eq_true rfl) ?_
  show pvEv Tm 3 qX11_writes 0 [some (.ref 0), some (.ref 8), some (.int i)] [] M Q
  refine pv_aloadn (pc := 0) (n := 1) 1 rfl rfl (fm_dec dtX11_writes 0 rfl) ?_
  refine pv_bipush (pc := 1) (v := 9) (by decide) (fm_dec dtX11_writes 1 rfl) ?_
  refine pv_dup2 (pc := 3) rfl rfl (fm_dec dtX11_writes 2 rfl) ?_
  refine pv_iald (k := 8) (n := 14) (pc := 4) (by decide) rfl rfl (fm_inl (by decide)) (fm_dec dtX11_writes 3 rfl) ?_
  refine pv_aloadn (pc := 5) (n := 0) 0 rfl rfl (fm_dec dtX11_writes 4 rfl) ?_
  refine pv_aloadn (pc := 6) (n := 1) 1 rfl rfl (fm_dec dtX11_writes 5 rfl) ?_
  refine pv_iloadn (pc := 7) (n := 2) 2 rfl rfl (fm_dec dtX11_writes 6 rfl) ?_
  refine pv_invV2 (k := 0) (d' := 2) (pc := 8) pcv_X11_290 (by decide) rfl (Nat.le_of_ble_eq_true rfl) (by decide) (fm_dec dtX11_writes 7 rfl) ?_
  refine s_hours hi hk hI (fun n9 => ?_)
  refine pv_then1 ?_
  refine pv_isub (pc := 11) (fm_dec dtX11_writes 8 rfl) ?_
  refine pv_iast (k := 8) (n := 14) (pc := 12) (by decide) rfl rfl (fm_inl (by decide)) (fm_dec dtX11_writes 9 rfl) ?_
  refine pv_aloadn (pc := 13) (n := 1) 1 rfl rfl (fm_dec dtX11_writes 10 rfl) ?_
  refine pv_iconst (pc := 14) (v := 1) (by decide) (fm_dec dtX11_writes 11 rfl) ?_
  refine pv_iloadn (pc := 15) (n := 2) 2 rfl rfl (fm_dec dtX11_writes 12 rfl) ?_
  refine pv_iadd (pc := 16) (fm_dec dtX11_writes 13 rfl) ?_
  refine pv_aloadn (pc := 17) (n := 1) 1 rfl rfl (fm_dec dtX11_writes 14 rfl) ?_
  refine pv_bipush (pc := 18) (v := 10) (by decide) (fm_dec dtX11_writes 15 rfl) ?_
  refine pv_iald (k := 8) (n := 14) (pc := 20) (by decide) rfl rfl (fm_inl (by decide)) (fm_dec dtX11_writes 16 rfl) ?_
  refine pv_iast (k := 8) (n := 14) (pc := 21) (by decide) rfl rfl (ix_in (ix_1 hi (by omega)) (by omega)) (fm_dec dtX11_writes 17 rfl) ?_
  exact pv_return (pc := 22) rfl (fm_dec dtX11_writes 18 rfl) (by rw [i32_cl (ix_1 hi (by omega))]; have h9 := wr_ok (v := M.1 8 9 - n9) hk hI; exact hq _ h9.1 h9.2.1 h9.2.2.1 h9.2.2.2)
set_option maxRecDepth 20000 in
theorem yb_3 {Q : fmR → fmM → Prop} {M0 : fmM} {seed weeks ww : Int32} (hq : ∀ (M' : fmM) (nx' : Int32), scInv Tm invM M' → scFr [(0, 47, 2), (5, 0, 160), (6, 0, 5), (8, 0, 14)] M0 M' → pvEv Tm 12 qX11_yearsBy 176 [some (.ref 0), some (.int seed), some (.int weeks), some (.int ww), some (.int nx')] [] M' Q) : ∀ (m : Nat) (M : fmM) (nx : Int32), cnt8 M ≤ m → scInv Tm invM M → scFr [(0, 47, 2), (5, 0, 160), (6, 0, 5), (8, 0, 14)] M0 M → fst8 M nx → pvEv Tm 12 qX11_yearsBy 130 [some (.ref 0), some (.int seed), some (.int weeks), some (.int ww), some (.int nx)] [] M Q := by
  intro m
  induction m using Nat.strongRecOn with
  | _ m ih =>
    intro M nx hm hI hF hb
    refine pv_iload (pc := 130) (i := 4) rfl (fm_dec dtX11_yearsBy 69 rfl) ?_
    refine pv_iconst (pc := 132) (v := (-1)) (by decide) (fm_dec dtX11_yearsBy 70 rfl) ?_
    refine pv_icmp_eq (pc := 133) 176 (by decide) (fm_dec dtX11_yearsBy 71 rfl) (fun hc133 => ?_) (fun hc133 => ?_)
    · exact hq M nx hI hF
    · obtain ⟨kb, hkb8, hkb, hkn⟩ := hb.resolve_left hc133
      refine pv_aloadn (pc := 136) (n := 0) 0 rfl rfl (fm_dec dtX11_yearsBy 72 rfl) ?_
      refine pv_aloadn (pc := 137) (n := 0) 0 rfl rfl (fm_dec dtX11_yearsBy 73 rfl) ?_
      refine pv_getR (k := 0) (j := 28) (ci := 11) (pc := 138) 8 rfl (by decide) pfl_X11_64 (by decide) rfl (by decide) (fm_dec dtX11_yearsBy 74 rfl) ?_
      refine pv_iload (pc := 141) (i := 4) rfl (fm_dec dtX11_yearsBy 75 rfl) ?_
      refine pv_invV2 (k := 0) (d' := 3) (pc := 143) pcv_X11_299 (by decide) rfl (Nat.le_of_ble_eq_true rfl) (by decide) (fm_dec dtX11_yearsBy 76 rfl) ?_
      refine s_writes hkb hkb8 hI (fun M143 hI143 f143 g1 g2 => ?_)
      refine pv_then0 ?_
      refine pv_aloadn (pc := 146) (n := 0) 0 rfl rfl (fm_dec dtX11_yearsBy 77 rfl) ?_
      refine pv_dup (pc := 147) rfl (fm_dec dtX11_yearsBy 78 rfl) ?_
      refine pv_getI (k := 0) (j := 48) (ci := 11) (pc := 148) pfl_X11_429 (by decide) rfl (by decide) (fm_dec dtX11_yearsBy 79 rfl) ?_
      refine pv_iconst (pc := 151) (v := 1) (by decide) (fm_dec dtX11_yearsBy 80 rfl) ?_
      refine pv_iadd (pc := 152) (fm_dec dtX11_yearsBy 81 rfl) ?_
      refine pv_putI (k := 0) (j := 48) (ci := 11) (pc := 153) pfl_X11_429 (by decide) rfl (by decide) (fm_dec dtX11_yearsBy 82 rfl) ?_
      refine pv_aloadn (pc := 156) (n := 0) 0 rfl rfl (fm_dec dtX11_yearsBy 83 rfl) ?_
      refine pv_aloadn (pc := 157) (n := 0) 0 rfl rfl (fm_dec dtX11_yearsBy 84 rfl) ?_
      refine pv_getR (k := 0) (j := 28) (ci := 11) (pc := 158) 8 rfl (by decide) pfl_X11_64 (by decide) rfl (by decide) (fm_dec dtX11_yearsBy 85 rfl) ?_
      refine pv_aloadn (pc := 161) (n := 0) 0 rfl rfl (fm_dec dtX11_yearsBy 86 rfl) ?_
      refine pv_getR (k := 0) (j := 28) (ci := 11) (pc := 162) 8 rfl (by decide) pfl_X11_64 (by decide) rfl (by decide) (fm_dec dtX11_yearsBy 87 rfl) ?_
      refine pv_bipush (pc := 165) (v := 9) (by decide) (fm_dec dtX11_yearsBy 88 rfl) ?_
      refine pv_iald (k := 8) (n := 14) (pc := 167) (by decide) rfl rfl (fm_inl (by decide)) (fm_dec dtX11_yearsBy 89 rfl) ?_
      refine pv_invV2 (k := 0) (d' := 9) (pc := 168) pcv_X11_358 (by decide) rfl (Nat.le_of_ble_eq_true rfl) (by decide) (fm_dec dtX11_yearsBy 90 rfl) ?_
      refine s_first (M := fmI M143 0 48 (M143.1 0 48 + 1)) hI143.p48 (fun r168 M168 hI168 f168 b168 => ?_)
      refine pv_then1 ?_
      refine pv_istore (pc := 171) (i := 4) (by decide) rfl (fm_dec dtX11_yearsBy 91 rfl) ?_
      dsimp only [List.set_cons_zero, List.set_cons_succ]
      refine pv_goto (pc := 173) 130 (by decide) (fm_dec dtX11_yearsBy 92 rfl) ?_
      have e8 : ∀ j, M168.1 8 j = M143.1 8 j := fun j => ((f168 8 j rfl).1).trans (by rw [fmI_k _ _ (by decide)])
      have hlt : cnt8 M168 < cnt8 M := cnt8_lt hkb8 hkn (by rw [e8]; exact g1) (fun j a b => by rw [e8]; exact g2 j a b)
      exact ih (cnt8 M168) (by omega) M168 _ (Nat.le_refl _) hI168 (((hF.trans f143 rfl).toI (scIn_of (0, 47, 2) List.mem_cons_self ⟨rfl, by decide, by decide⟩)).trans f168 rfl) (b168.imp id (fun ⟨q, q1, q2, q3⟩ => ⟨q, q1, q2, fun h9 => q3 (by have a1 := e8 (1 + q); have a2 := e8 10; rw [fmI_k _ _ (by decide)]; rw [← a1, ← a2]; exact h9)⟩))
set_option maxRecDepth 20000 in
theorem yb_2 {Q : fmR → fmM → Prop} {M0 : fmM} {seed weeks ww : Int32} (hq : ∀ (M' : fmM) (ii' : Int32), scInv Tm invM M' → scFr [(0, 47, 2), (5, 0, 160), (6, 0, 5), (8, 0, 14)] M0 M' → pvEv Tm 12 qX11_yearsBy 113 [some (.ref 0), some (.int seed), some (.int weeks), some (.int ww), some (.int ii')] [] M' Q) : ∀ (m : Nat) (M : fmM) (k : Nat) (ii : Int32), ii.toInt = k → k + m = 8 → scInv Tm invM M → scFr [(0, 47, 2), (5, 0, 160), (6, 0, 5), (8, 0, 14)] M0 M → pvEv Tm 12 qX11_yearsBy 31 [some (.ref 0), some (.int seed), some (.int weeks), some (.int ww), some (.int ii)] [] M Q := by
  intro m
  induction m using Nat.strongRecOn with
  | _ m ih =>
    intro M k ii hii hm hI hF
    refine pv_iload (pc := 31) (i := 4) rfl (fm_dec dtX11_yearsBy 18 rfl) ?_
    refine pv_aloadn (pc := 33) (n := 0) 0 rfl rfl (fm_dec dtX11_yearsBy 19 rfl) ?_
    refine pv_getR (k := 0) (j := 12) (ci := 11) (pc := 34) 4 rfl (by decide) pfl_X11_23 (by decide) rfl (by decide) (fm_dec dtX11_yearsBy 20 rfl) ?_
    refine pv_iconst (pc := 37) (v := 0) (by decide) (fm_dec dtX11_yearsBy 21 rfl) ?_
    refine pv_iald (k := 4) (n := 6) (pc := 38) (by decide) rfl rfl (fm_inl (by decide)) (fm_dec dtX11_yearsBy 22 rfl) ?_
    refine pv_icmp_ge (pc := 39) 113 (by decide) (fm_dec dtX11_yearsBy 23 rfl) (fun hc39 => ?_) (fun hc39 => ?_)
    · exact hq M ii hI hF
    · have hk8 : k < 8 := (by rw [sc_le] at hc39; have h9 : (M.1 4 0).toInt ≤ 8 := (hI.1 4 0 (by decide)).2; have h8 : (M.1 4 (Int32.toNatClampNeg 0)).toInt = (M.1 4 0).toInt := rfl; omega)
      refine pv_aloadn (pc := 42) (n := 0) 0 rfl rfl (fm_dec dtX11_yearsBy 24 rfl) ?_
      refine pv_getR (k := 0) (j := 28) (ci := 11) (pc := 43) 8 rfl (by decide) pfl_X11_64 (by decide) rfl (by decide) (fm_dec dtX11_yearsBy 25 rfl) ?_
      refine pv_iconst (pc := 46) (v := 0) (by decide) (fm_dec dtX11_yearsBy 26 rfl) ?_
      refine pv_iald (k := 8) (n := 14) (pc := 47) (by decide) rfl rfl (fm_inl (by decide)) (fm_dec dtX11_yearsBy 27 rfl) ?_
      refine pv_iload (pc := 48) (i := 4) rfl (fm_dec dtX11_yearsBy 28 rfl) ?_
      refine pv_iS2 (d' := 0) (pc := 50) pcs_X11_256 (Nat.le_of_ble_eq_true rfl) (by decide) (fm_dec dtX11_yearsBy 29 rfl) ?_
      refine c_has (fun h15 => ?_) (fun h15 => ?_)
      · refine pv_then1 ?_
        refine pv_if_eq (pc := 53) 59 (by decide) (fm_dec dtX11_yearsBy 30 rfl) (fun hc53 => by exfalso; revert hc53; decide) (fun _ => ?_)
        refine pv_goto (pc := 56) 107 (by decide) (fm_dec dtX11_yearsBy 31 rfl) ?_
        refine pv_iincc (pc := 107) 4 1 (by decide) rfl (by decide) rfl (fm_dec dtX11_yearsBy 58 rfl) ?_
        dsimp only [List.set_cons_zero, List.set_cons_succ]
        refine pv_goto (pc := 110) 31 (by decide) (fm_dec dtX11_yearsBy 59 rfl) ?_
        exact ih (8 - (k + 1)) (by omega) M (k + 1) _ (i32_p1 hii (by omega)) (by omega) hI (hF)
      · refine pv_then1 ?_
        refine pv_if_eq (pc := 53) 59 (by decide) (fm_dec dtX11_yearsBy 30 rfl) (fun _ => ?_) (fun hc53 => by exfalso; revert hc53; decide)
        refine pv_aloadn (pc := 59) (n := 0) 0 rfl rfl (fm_dec dtX11_yearsBy 32 rfl) ?_
        refine pv_aloadn (pc := 60) (n := 0) 0 rfl rfl (fm_dec dtX11_yearsBy 33 rfl) ?_
        refine pv_getI (k := 0) (j := 47) (ci := 11) (pc := 61) pfl_X11_426 (by decide) rfl (by decide) (fm_dec dtX11_yearsBy 34 rfl) ?_
        refine pv_ldcw (pc := 64) pkc_X11_432 (fm_dec dtX11_yearsBy 35 rfl) ?_
        refine pv_imul (pc := 67) (fm_dec dtX11_yearsBy 36 rfl) ?_
        refine pv_sipush (pc := 68) (v := 12345) (by decide) (fm_dec dtX11_yearsBy 37 rfl) ?_
        refine pv_iadd (pc := 71) (fm_dec dtX11_yearsBy 38 rfl) ?_
        refine pv_putI (k := 0) (j := 47) (ci := 11) (pc := 72) pfl_X11_426 (by decide) rfl (by decide) (fm_dec dtX11_yearsBy 39 rfl) ?_
        refine pv_aloadn (pc := 75) (n := 0) 0 rfl rfl (fm_dec dtX11_yearsBy 40 rfl) ?_
        refine pv_getI (k := 0) (j := 47) (ci := 11) (pc := 76) pfl_X11_426 (by decide) rfl (by decide) (fm_dec dtX11_yearsBy 41 rfl) ?_
        refine pv_bipush (pc := 79) (v := 16) (by decide) (fm_dec dtX11_yearsBy 42 rfl) ?_
        refine pv_ishr (pc := 81) (fm_dec dtX11_yearsBy 43 rfl) ?_
        refine pv_bipush (pc := 82) (v := 63) (by decide) (fm_dec dtX11_yearsBy 44 rfl) ?_
        refine pv_iand (pc := 84) (fm_dec dtX11_yearsBy 45 rfl) ?_
        refine pv_aloadn (pc := 85) (n := 0) 0 rfl rfl (fm_dec dtX11_yearsBy 46 rfl) ?_
        refine pv_getR (k := 0) (j := 14) (ci := 11) (pc := 86) 17 rfl (by decide) pfl_X11_31 (by decide) rfl (by decide) (fm_dec dtX11_yearsBy 47 rfl) ?_
        refine pv_iload (pc := 89) (i := 4) rfl (fm_dec dtX11_yearsBy 48 rfl) ?_
        refine pv_aald (k := 17) (n := 8) (r := (35 + k)) (pc := 91) (by decide) (Or.inr (Or.inr rfl)) rfl (rw_life.inb hii hk8) (rw_life.at hii hk8) (rw_life.2.2.2 _ hk8).2.1 (fm_dec dtX11_yearsBy 49 rfl) ?_
        refine pv_iconst (pc := 92) (v := 1) (by decide) (fm_dec dtX11_yearsBy 50 rfl) ?_
        refine pv_iald (k := (35 + k)) (n := 6) (pc := 93) (rw_life.2.2.2 _ hk8).2.2.1 (rw_life.2.2.2 _ hk8).2.2.2.1 (rw_life.2.2.2 _ hk8).2.2.2.2 (fm_inl (by decide)) (fm_dec dtX11_yearsBy 51 rfl) ?_
        refine pv_icmp_ge (pc := 94) 107 (by decide) (fm_dec dtX11_yearsBy 52 rfl) (fun hc94 => ?_) (fun hc94 => ?_)
        · refine pv_iincc (pc := 107) 4 1 (by decide) rfl (by decide) rfl (fm_dec dtX11_yearsBy 58 rfl) ?_
          dsimp only [List.set_cons_zero, List.set_cons_succ]
          refine pv_goto (pc := 110) 31 (by decide) (fm_dec dtX11_yearsBy 59 rfl) ?_
          exact ih (8 - (k + 1)) (by omega) _ (k + 1) _ (i32_p1 hii (by omega)) (by omega) hI.p47 ((hF.toI (scIn_of (0, 47, 2) List.mem_cons_self ⟨rfl, by decide, by decide⟩)))
        · refine pv_aloadn (pc := 97) (n := 0) 0 rfl rfl (fm_dec dtX11_yearsBy 53 rfl) ?_
          refine pv_aloadn (pc := 98) (n := 0) 0 rfl rfl (fm_dec dtX11_yearsBy 54 rfl) ?_
          refine pv_getR (k := 0) (j := 28) (ci := 11) (pc := 99) 8 rfl (by decide) pfl_X11_64 (by decide) rfl (by decide) (fm_dec dtX11_yearsBy 55 rfl) ?_
          refine pv_iload (pc := 102) (i := 4) rfl (fm_dec dtX11_yearsBy 56 rfl) ?_
          refine pv_invV2 (k := 0) (d' := 8) (pc := 104) pcv_X11_303 (by decide) rfl (Nat.le_of_ble_eq_true rfl) (by decide) (fm_dec dtX11_yearsBy 57 rfl) ?_
          refine s_dies hii hk8 hI.p47 (fun M104 hI104 f104 => ?_)
          refine pv_then0 ?_
          refine pv_iincc (pc := 107) 4 1 (by decide) rfl (by decide) rfl (fm_dec dtX11_yearsBy 58 rfl) ?_
          dsimp only [List.set_cons_zero, List.set_cons_succ]
          refine pv_goto (pc := 110) 31 (by decide) (fm_dec dtX11_yearsBy 59 rfl) ?_
          exact ih (8 - (k + 1)) (by omega) M104 (k + 1) _ (i32_p1 hii (by omega)) (by omega) hI104 ((hF.toI (scIn_of (0, 47, 2) List.mem_cons_self ⟨rfl, by decide, by decide⟩)).trans f104 rfl)
set_option maxRecDepth 20000 in
theorem yb_1 {Q : fmR → fmM → Prop} {M0 : fmM} {seed weeks : Int32} (h60 : weeks.toInt ≤ 60) (hq : ∀ M' : fmM, scInv Tm invM M' → scFr [(0, 47, 2), (5, 0, 160), (6, 0, 5), (8, 0, 14)] M0 M' → Q (.inl none) M') : ∀ (m : Nat) (M : fmM) (k : Nat) (ww : Int32) (v4 : Option Value), ww.toInt = k → k + m = 60 → scInv Tm invM M → scFr [(0, 47, 2), (5, 0, 160), (6, 0, 5), (8, 0, 14)] M0 M → pvEv Tm 12 qX11_yearsBy 23 [some (.ref 0), some (.int seed), some (.int weeks), some (.int ww), v4] [] M Q := by
  intro m
  induction m using Nat.strongRecOn with
  | _ m ih =>
    intro M k ww v4 hww hm hI hF
    refine pv_iloadn (pc := 23) (n := 3) 3 rfl rfl (fm_dec dtX11_yearsBy 13 rfl) ?_
    refine pv_iloadn (pc := 24) (n := 2) 2 rfl rfl (fm_dec dtX11_yearsBy 14 rfl) ?_
    refine pv_icmp_ge (pc := 25) 191 (by decide) (fm_dec dtX11_yearsBy 15 rfl) (fun hc25 => ?_) (fun hc25 => ?_)
    · exact pv_return (pc := 191) rfl (fm_dec dtX11_yearsBy 100 rfl) (hq M hI hF)
    · have hk60 : k < 60 := (by rw [sc_le] at hc25; omega)
      refine pv_iconst (pc := 28) (v := 0) (by decide) (fm_dec dtX11_yearsBy 16 rfl) ?_
      refine pv_istore (pc := 29) (i := 4) (by decide) rfl (fm_dec dtX11_yearsBy 17 rfl) ?_
      dsimp only [List.set_cons_zero, List.set_cons_succ]
      refine yb_2 (fun M2 i2 hI2 hF2 => ?_) 8 M 0 _ (by decide) (by decide) hI hF
      refine pv_aloadn (pc := 113) (n := 0) 0 rfl rfl (fm_dec dtX11_yearsBy 60 rfl) ?_
      refine pv_aloadn (pc := 114) (n := 0) 0 rfl rfl (fm_dec dtX11_yearsBy 61 rfl) ?_
      refine pv_getR (k := 0) (j := 28) (ci := 11) (pc := 115) 8 rfl (by decide) pfl_X11_64 (by decide) rfl (by decide) (fm_dec dtX11_yearsBy 62 rfl) ?_
      refine pv_aloadn (pc := 118) (n := 0) 0 rfl rfl (fm_dec dtX11_yearsBy 63 rfl) ?_
      refine pv_getR (k := 0) (j := 28) (ci := 11) (pc := 119) 8 rfl (by decide) pfl_X11_64 (by decide) rfl (by decide) (fm_dec dtX11_yearsBy 64 rfl) ?_
      refine pv_bipush (pc := 122) (v := 9) (by decide) (fm_dec dtX11_yearsBy 65 rfl) ?_
      refine pv_iald (k := 8) (n := 14) (pc := 124) (by decide) rfl rfl (fm_inl (by decide)) (fm_dec dtX11_yearsBy 66 rfl) ?_
      refine pv_invV2 (k := 0) (d' := 9) (pc := 125) pcv_X11_358 (by decide) rfl (Nat.le_of_ble_eq_true rfl) (by decide) (fm_dec dtX11_yearsBy 67 rfl) ?_
      refine s_first hI2 (fun r125 M125 hI125 f125 b125 => ?_)
      refine pv_then1 ?_
      refine pv_istore (pc := 128) (i := 4) (by decide) rfl (fm_dec dtX11_yearsBy 68 rfl) ?_
      dsimp only [List.set_cons_zero, List.set_cons_succ]
      refine yb_3 (fun M3 n3 hI3 hF3 => ?_) (cnt8 M125) M125 _ (Nat.le_refl _) hI125 (hF2.trans f125 rfl) (b125.imp id (fun ⟨q, q1, q2, q3⟩ => ⟨q, q1, q2, fun h9 => q3 (by have a1 := (f125 8 (1 + q) rfl).1; have a2 := (f125 8 10 rfl).1; rw [← a1, ← a2]; exact h9)⟩))
      refine pv_aloadn (pc := 176) (n := 0) 0 rfl rfl (fm_dec dtX11_yearsBy 93 rfl) ?_
      refine pv_aloadn (pc := 177) (n := 0) 0 rfl rfl (fm_dec dtX11_yearsBy 94 rfl) ?_
      refine pv_getR (k := 0) (j := 28) (ci := 11) (pc := 178) 8 rfl (by decide) pfl_X11_64 (by decide) rfl (by decide) (fm_dec dtX11_yearsBy 95 rfl) ?_
      refine pv_invV1 (k := 0) (d' := 0) (pc := 181) pcv_X11_306 (by decide) rfl (Nat.le_of_ble_eq_true rfl) (by decide) (fm_dec dtX11_yearsBy 96 rfl) ?_
      refine s_week hI3 (fun n9 M9 hI9 f9 => ?_)
      refine pv_then1 ?_
      refine pv_pop (pc := 184) rfl (fm_dec dtX11_yearsBy 97 rfl) ?_
      refine pv_iincc (pc := 185) 3 1 (by decide) rfl (by decide) rfl (fm_dec dtX11_yearsBy 98 rfl) ?_
      dsimp only [List.set_cons_zero, List.set_cons_succ]
      refine pv_goto (pc := 188) 23 (by decide) (fm_dec dtX11_yearsBy 99 rfl) ?_
      exact ih (60 - (k + 1)) (by omega) M9 (k + 1) _ _ (i32_p1 hww (by omega)) (by omega) hI9 (hF3.trans f9 rfl)
set_option maxRecDepth 20000 in
theorem s_years {M : fmM} {Q : fmR → fmM → Prop} {seed weeks : Int32} (h60 : weeks.toInt ≤ 60) (hI : scInv Tm invM M) (hq : ∀ M' : fmM, scInv Tm invM M' → scFr [(0, 47, 2), (5, 0, 160), (6, 0, 5), (8, 0, 14)] M M' → Q (.inl none) M') : pvGood Tm 12 qX11_yearsBy [.ref 0, .int seed, .int weeks] M Q := by
  refine pvGood_of (Nat.le_of_ble_eq_true rfl) ?_
  show pvEv Tm 12 qX11_yearsBy 0 [some (.ref 0), some (.int seed), some (.int weeks), none, none] [] M Q
  refine pv_aloadn (pc := 0) (n := 0) 0 rfl rfl (fm_dec dtX11_yearsBy 0 rfl) ?_
  refine pv_getR (k := 0) (j := 27) (ci := 11) (pc := 1) 7 rfl (by decide) pfl_X11_61 (by decide) rfl (by decide) (fm_dec dtX11_yearsBy 1 rfl) ?_
  refine pv_aloadn (pc := 4) (n := 0) 0 rfl rfl (fm_dec dtX11_yearsBy 2 rfl) ?_
  refine pv_getR (k := 0) (j := 28) (ci := 11) (pc := 5) 8 rfl (by decide) pfl_X11_64 (by decide) rfl (by decide) (fm_dec dtX11_yearsBy 3 rfl) ?_
  refine pv_iS2 (d' := 0) (pc := 8) pcs_X11_323 (Nat.le_of_ble_eq_true rfl) (by decide) (fm_dec dtX11_yearsBy 4 rfl) ?_
  refine s_copies hI (fun M8 hI8 f8 => ?_)
  refine pv_then0 ?_
  refine pv_aloadn (pc := 11) (n := 0) 0 rfl rfl (fm_dec dtX11_yearsBy 5 rfl) ?_
  refine pv_iloadn (pc := 12) (n := 1) 1 rfl rfl (fm_dec dtX11_yearsBy 6 rfl) ?_
  refine pv_putI (k := 0) (j := 47) (ci := 11) (pc := 13) pfl_X11_426 (by decide) rfl (by decide) (fm_dec dtX11_yearsBy 7 rfl) ?_
  refine pv_aloadn (pc := 16) (n := 0) 0 rfl rfl (fm_dec dtX11_yearsBy 8 rfl) ?_
  refine pv_iconst (pc := 17) (v := 0) (by decide) (fm_dec dtX11_yearsBy 9 rfl) ?_
  refine pv_putI (k := 0) (j := 48) (ci := 11) (pc := 18) pfl_X11_429 (by decide) rfl (by decide) (fm_dec dtX11_yearsBy 10 rfl) ?_
  refine pv_iconst (pc := 21) (v := 0) (by decide) (fm_dec dtX11_yearsBy 11 rfl) ?_
  refine pv_istoren (pc := 22) (n := 3) 3 rfl (by decide) rfl (fm_dec dtX11_yearsBy 12 rfl) ?_
  dsimp only [List.set_cons_zero, List.set_cons_succ]
  exact yb_1 h60 hq 60 _ 0 _ _ (by decide) (by decide) hI8.p47.p48 ((((scFr.rfl (W := [(0, 47, 2), (5, 0, 160), (6, 0, 5), (8, 0, 14)])).trans f8 rfl).toI (scIn_of (0, 47, 2) List.mem_cons_self ⟨rfl, by decide, by decide⟩)).toI (scIn_of (0, 47, 2) List.mem_cons_self ⟨rfl, by decide, by decide⟩))
theorem hh_hand_yearsBy : scH Tm invM cc_hand_yearsBy := by
  intro M σ as hE hS hF hI
  obtain ⟨r, st1, hr, e1, q1⟩ := scSk_r hS
  obtain ⟨i, st2, e2, hi, q2⟩ := scSk_i q1
  obtain ⟨w, st3, e3, hw, q3⟩ := scSk_i q2
  have e5 := scSk_0 q3
  have er : r = 0 := by simpa using hr
  have h60 : w.toInt ≤ 60 := (sc_ev hE rfl hw).2
  subst er
  subst e5
  subst e3
  subst e2
  subst e1
  exact s_years h60 hI (fun M' h1 h2 => ⟨⟨_, List.mem_cons_self, rfl, fun q hq => (by cases hq), fun q hq => (by cases hq)⟩, h1, h2⟩)
end
-- P 12pa
section
abbrev cc_X11_feed_0 : scC := (qX11_feed, 0, [((-2147483648), 2147483647), ((-2147483648), 2147483647), ((-2147483648), 2147483647), ((-2147483648), 2147483647), ((-2147483648), 2147483647)], [.inr (.inr (.inl [0])), .inl (some 0, 0), .inl (some 1, 0), .inl (some 2, 0), .inl (some 3, 0), .inl (some 4, 0)], [], [(1, ((-1), 600), [], [], [])], [(0, 0, 2), (1, 0, 600)])
set_option maxRecDepth 20000 in
abbrev xx_X11_feed_0 : scX := (Tm, invM, lnX11, [], cc_X11_feed_0)
set_option maxRecDepth 20000 in
theorem hh_X11_feed_0 : scH Tm invM cc_X11_feed_0 := scCheck_ok (X := xx_X11_feed_0) (nodes := []) (fuel := 4000) ⟨lqX11, fa_nil⟩ dtX11_feed (by decide +kernel)
abbrev cc_X11_fault_0 : scC := (qX11_fault, 0, [], [.inr (.inr (.inl [0]))], [], [(1, ((-1), 600), [], [], [])], [(0, 0, 1)])
set_option maxRecDepth 20000 in
abbrev xx_X11_fault_0 : scX := (Tm, invM, lnX11, [], cc_X11_fault_0)
set_option maxRecDepth 20000 in
theorem hh_X11_fault_0 : scH Tm invM cc_X11_fault_0 := scCheck_ok (X := xx_X11_fault_0) (nodes := []) (fuel := 4000) ⟨lqX11, fa_nil⟩ dtX11_fault (by decide +kernel)
abbrev cc_X11_copies_2 : scC := (qX11_copies, 0, [], [.inr (.inr (.inl [503, 504, 505, 506, 507, 508, 509, 510, 511, 512, 513, 514, 515, 516, 517, 518])), .inr (.inr (.inl [7]))], [], [(0, (0, 0), [], [], [])], [(7, 0, 14)])
set_option maxRecDepth 20000 in
abbrev xx_X11_copies_2 : scX := (Tm, invM, lnX11, [], cc_X11_copies_2)
set_option maxRecDepth 20000 in
theorem hh_X11_copies_2 : scH Tm invM cc_X11_copies_2 := scCheck_ok (X := xx_X11_copies_2) (nodes := []) (fuel := 4000) ⟨lqX11, fa_nil⟩ dtX11_copies (by decide +kernel)
abbrev cc_X11_undo_0 : scC := (qX11_undo, 1, [], [.inr (.inr (.inl [0]))], [], [(1, ((-1), 15), [], [], [])], [(0, 0, 1), (0, 32, 2), (7, 0, 14)])
set_option maxRecDepth 20000 in
abbrev xx_X11_undo_0 : scX := (Tm, invM, lnX11, [(323, 1, 0, cc_X11_copies_2)], cc_X11_undo_0)
set_option maxRecDepth 20000 in
theorem hh_X11_undo_0 : scH Tm invM cc_X11_undo_0 := scCheck_ok (X := xx_X11_undo_0) (nodes := []) (fuel := 4000) ⟨lqX11, fa_cons (⟨pcs_X11_323, hh_X11_copies_2⟩) (fa_nil)⟩ dtX11_undo (by decide +kernel)
abbrev cc_X11_in_0 : scC := (qX11_in, 0, [((-2147483648), 2147483647), (0, 0), (8, 8)], [.inl (some 0, 0), .inl (some 1, 0), .inl (some 2, 0)], [], [(1, (0, 0), [], [], []), (1, (1, 1), [], [(0, (0, 8))], [])], [])
set_option maxRecDepth 20000 in
abbrev xx_X11_in_0 : scX := (Tm, invM, lnX11, [], cc_X11_in_0)
set_option maxRecDepth 20000 in
theorem hh_X11_in_0 : scH Tm invM cc_X11_in_0 := scCheck_ok (X := xx_X11_in_0) (nodes := []) (fuel := 4000) ⟨lqX11, fa_nil⟩ dtX11_in (by decide +kernel)
abbrev cc_X11_bad_0 : scC := (qX11_bad, 0, [], [.inr (.inr (.inl [0])), .inl (none, 0), .inl (none, 1), .inl (none, 1)], [((0, 0), (none, 0))], [(1, (0, 0), [], [], [((0, 0), (0, 0))])], [])
set_option maxRecDepth 20000 in
abbrev xx_X11_bad_0 : scX := (Tm, invM, lnX11, [], cc_X11_bad_0)
set_option maxRecDepth 20000 in
theorem hh_X11_bad_0 : scH Tm invM cc_X11_bad_0 := scCheck_ok (X := xx_X11_bad_0) (nodes := []) (fuel := 4000) ⟨lqX11, fa_nil⟩ dtX11_bad (by decide +kernel)
abbrev cc_X11_aliveIn_0 : scC := (qX11_aliveIn, 1, [], [.inr (.inr (.inl [0])), .inr (.inr (.inl [7]))], [], [(1, ((-2147483648), 2147483647), [], [], [])], [])
set_option maxRecDepth 20000 in
abbrev xx_X11_aliveIn_0 : scX := (Tm, invM, lnX11, [(256, 1, 0, cc_X11_has_0)], cc_X11_aliveIn_0)
set_option maxRecDepth 20000 in
theorem hh_X11_aliveIn_0 : scH Tm invM cc_X11_aliveIn_0 := scCheck_ok (X := xx_X11_aliveIn_0) (nodes := [(4, ([((-2147483648), 2147483647), (0, 8), ((-2147483648), 2147483647), (0, 8)], [some (.inr (.inr (.inl [0]))), some (.inr (.inr (.inl [7]))), some (.inl (some 0, 0)), some (.inl (some 1, 0))], [], [((7, 0), (some 2, 0)), ((4, 0), (some 3, 0))]), ([0, (-2)], 16))]) (fuel := 4000) ⟨lqX11, fa_cons (⟨pcs_X11_256, hh_X11_has_0⟩) (fa_nil)⟩ dtX11_aliveIn (by decide +kernel)
abbrev cc_X11_bad_1 : scC := (qX11_bad, 0, [], [.inr (.inr (.inl [0])), .inl (none, 1), .inl (none, 1), .inl (none, 1)], [((0, 0), (none, 0))], [(1, (1, 1), [], [], [((0, 0), (1, 1))])], [(0, 0, 1), (2, 1, 1)])
set_option maxRecDepth 20000 in
abbrev xx_X11_bad_1 : scX := (Tm, invM, lnX11, [], cc_X11_bad_1)
set_option maxRecDepth 20000 in
theorem hh_X11_bad_1 : scH Tm invM cc_X11_bad_1 := scCheck_ok (X := xx_X11_bad_1) (nodes := []) (fuel := 4000) ⟨lqX11, fa_nil⟩ dtX11_bad (by decide +kernel)
abbrev cc_X11_told_0 : scC := (qX11_told, 2, [((-2147483648), 2147483647)], [.inr (.inr (.inl [0])), .inl (some 0, 0)], [], [(1, ((-2147483648), 2147483647), [], [], [])], [(0, 0, 1), (2, 1, 1)])
set_option maxRecDepth 20000 in
abbrev xx_X11_told_0 : scX := (Tm, invM, lnX11, [(135, 1, 0, cc_X11_in_0), (177, 0, 11, cc_X11_bad_0), (177, 0, 11, cc_X11_bad_1), (283, 1, 0, cc_X11_hasPiece_1), (327, 0, 11, cc_X11_aliveIn_0)], cc_X11_told_0)
set_option maxRecDepth 20000 in
theorem hh_X11_told_0 : scH Tm invM cc_X11_told_0 := scCheck_ok (X := xx_X11_told_0) (nodes := [(116, ([(4, 4), ((-2147483648), 2147483647), (0, 8), (0, 0), (0, 8)], [some (.inr (.inr (.inl [0]))), some (.inl (some 0, 0)), some (.inl (some 1, 0)), some (.inl (some 2, 0))], [], [((0, 0), (some 3, 0)), ((4, 0), (some 4, 0))]), ([0, 0, (-2)], 16))]) (fuel := 4000) ⟨lqX11, fa_cons (⟨pcs_X11_135, hh_X11_in_0⟩) (fa_cons (⟨⟨3, _, pcv_X11_177, rfl⟩, hh_X11_bad_0⟩) (fa_cons (⟨⟨3, _, pcv_X11_177, rfl⟩, hh_X11_bad_1⟩) (fa_cons (⟨pcs_X11_283, hh_X11_hasPiece_1⟩) (fa_cons (⟨⟨1, _, pcv_X11_327, rfl⟩, hh_X11_aliveIn_0⟩) (fa_nil)))))⟩ dtX11_told (by decide +kernel)
abbrev cc_X11_in_1 : scC := (qX11_in, 0, [((-2147483648), 2147483647), (0, 0), ((-1), 7)], [.inl (some 0, 0), .inl (some 1, 0), .inl (some 2, 0)], [], [(1, (0, 0), [], [], []), (1, (1, 1), [], [(0, (0, 7)), (2, (0, 7))], [])], [])
set_option maxRecDepth 20000 in
abbrev xx_X11_in_1 : scX := (Tm, invM, lnX11, [], cc_X11_in_1)
set_option maxRecDepth 20000 in
theorem hh_X11_in_1 : scH Tm invM cc_X11_in_1 := scCheck_ok (X := xx_X11_in_1) (nodes := []) (fuel := 4000) ⟨lqX11, fa_nil⟩ dtX11_in (by decide +kernel)
abbrev cc_X11_isLife_0 : scC := (qX11_isLife, 1, [((-2147483648), 2147483647)], [.inr (.inr (.inl [0])), .inl (some 0, 0)], [], [(1, (0, 0), [], [], []), (1, (1, 1), [], [(0, (0, 7))], [])], [])
set_option maxRecDepth 20000 in
abbrev xx_X11_isLife_0 : scX := (Tm, invM, lnX11, [(135, 1, 0, cc_X11_in_1)], cc_X11_isLife_0)
set_option maxRecDepth 20000 in
theorem hh_X11_isLife_0 : scH Tm invM cc_X11_isLife_0 := scCheck_ok (X := xx_X11_isLife_0) (nodes := []) (fuel := 4000) ⟨lqX11, fa_cons (⟨pcs_X11_135, hh_X11_in_1⟩) (fa_nil)⟩ dtX11_isLife (by decide +kernel)
abbrev cc_X11_bad_2 : scC := (qX11_bad, 0, [], [.inr (.inr (.inl [0])), .inl (none, 0), .inl (none, 1), .inl (none, 0)], [((0, 0), (none, 0))], [(1, (0, 0), [], [], [((0, 0), (0, 0))])], [])
set_option maxRecDepth 20000 in
abbrev xx_X11_bad_2 : scX := (Tm, invM, lnX11, [], cc_X11_bad_2)
set_option maxRecDepth 20000 in
theorem hh_X11_bad_2 : scH Tm invM cc_X11_bad_2 := scCheck_ok (X := xx_X11_bad_2) (nodes := []) (fuel := 4000) ⟨lqX11, fa_nil⟩ dtX11_bad (by decide +kernel)
abbrev cc_X11_in_2 : scC := (qX11_in, 0, [((-2147483648), 2147483647), (0, 0), (7, 7)], [.inl (some 0, 0), .inl (some 1, 0), .inl (some 2, 0)], [], [(1, (0, 0), [], [], []), (1, (1, 1), [], [(0, (0, 7))], [])], [])
set_option maxRecDepth 20000 in
abbrev xx_X11_in_2 : scX := (Tm, invM, lnX11, [], cc_X11_in_2)
set_option maxRecDepth 20000 in
theorem hh_X11_in_2 : scH Tm invM cc_X11_in_2 := scCheck_ok (X := xx_X11_in_2) (nodes := []) (fuel := 4000) ⟨lqX11, fa_nil⟩ dtX11_in (by decide +kernel)
abbrev cc_X11_bad_3 : scC := (qX11_bad, 0, [], [.inr (.inr (.inl [0])), .inl (none, 0), .inl (none, 2), .inl (none, 1)], [((0, 0), (none, 0))], [(1, (0, 0), [], [], [((0, 0), (0, 0))])], [])
set_option maxRecDepth 20000 in
abbrev xx_X11_bad_3 : scX := (Tm, invM, lnX11, [], cc_X11_bad_3)
set_option maxRecDepth 20000 in
theorem hh_X11_bad_3 : scH Tm invM cc_X11_bad_3 := scCheck_ok (X := xx_X11_bad_3) (nodes := []) (fuel := 4000) ⟨lqX11, fa_nil⟩ dtX11_bad (by decide +kernel)
abbrev cc_X11_bad_4 : scC := (qX11_bad, 0, [], [.inr (.inr (.inl [0])), .inl (none, 1), .inl (none, 2), .inl (none, 1)], [((0, 0), (none, 0))], [(1, (1, 1), [], [], [((0, 0), (2, 2))])], [(0, 0, 1), (2, 1, 1)])
set_option maxRecDepth 20000 in
abbrev xx_X11_bad_4 : scX := (Tm, invM, lnX11, [], cc_X11_bad_4)
set_option maxRecDepth 20000 in
theorem hh_X11_bad_4 : scH Tm invM cc_X11_bad_4 := scCheck_ok (X := xx_X11_bad_4) (nodes := []) (fuel := 4000) ⟨lqX11, fa_nil⟩ dtX11_bad (by decide +kernel)
abbrev cc_X11_bad_5 : scC := (qX11_bad, 0, [], [.inr (.inr (.inl [0])), .inl (none, 1), .inl (none, 1), .inl (none, 0)], [((0, 0), (none, 0))], [(1, (1, 1), [], [], [((0, 0), (1, 1))])], [(0, 0, 1), (2, 0, 1)])
set_option maxRecDepth 20000 in
abbrev xx_X11_bad_5 : scX := (Tm, invM, lnX11, [], cc_X11_bad_5)
set_option maxRecDepth 20000 in
theorem hh_X11_bad_5 : scH Tm invM cc_X11_bad_5 := scCheck_ok (X := xx_X11_bad_5) (nodes := []) (fuel := 4000) ⟨lqX11, fa_nil⟩ dtX11_bad (by decide +kernel)
abbrev cc_X11_life_0 : scC := (qX11_life, 2, [((-2147483648), 2147483647), ((-2147483648), 2147483647)], [.inr (.inr (.inl [0])), .inl (some 0, 0), .inl (some 1, 0)], [], [(1, ((-200), 1200), [], [], [])], [(0, 0, 1), (2, 0, 2)])
set_option maxRecDepth 20000 in
abbrev xx_X11_life_0 : scX := (Tm, invM, lnX11, [(135, 1, 0, cc_X11_in_2), (177, 0, 11, cc_X11_bad_2), (177, 0, 11, cc_X11_bad_5), (177, 0, 11, cc_X11_bad_3), (177, 0, 11, cc_X11_bad_4), (263, 0, 11, cc_X11_yearsOf_0), (283, 1, 0, cc_X11_hasPiece_1), (287, 0, 11, cc_X11_renewHours_0), (331, 0, 11, cc_X11_isLife_0)], cc_X11_life_0)
set_option maxRecDepth 20000 in
theorem hh_X11_life_0 : scH Tm invM cc_X11_life_0 := scCheck_ok (X := xx_X11_life_0) (nodes := []) (fuel := 4000) ⟨lqX11, fa_cons (⟨pcs_X11_135, hh_X11_in_2⟩) (fa_cons (⟨⟨3, _, pcv_X11_177, rfl⟩, hh_X11_bad_2⟩) (fa_cons (⟨⟨3, _, pcv_X11_177, rfl⟩, hh_X11_bad_5⟩) (fa_cons (⟨⟨3, _, pcv_X11_177, rfl⟩, hh_X11_bad_3⟩) (fa_cons (⟨⟨3, _, pcv_X11_177, rfl⟩, hh_X11_bad_4⟩) (fa_cons (⟨⟨2, _, pcv_X11_263, rfl⟩, hh_X11_yearsOf_0⟩) (fa_cons (⟨pcs_X11_283, hh_X11_hasPiece_1⟩) (fa_cons (⟨⟨1, _, pcv_X11_287, rfl⟩, hh_X11_renewHours_0⟩) (fa_cons (⟨⟨1, _, pcv_X11_331, rfl⟩, hh_X11_isLife_0⟩) (fa_nil)))))))))⟩ dtX11_life (by decide +kernel)
abbrev cc_X11_factsAt_0 : scC := (qX11_factsAt, 0, [((-2147483648), 2147483647), ((-2147483648), 2147483647)], [.inr (.inr (.inl [0])), .inl (some 0, 0), .inl (some 1, 0)], [], [(1, ((-2147483648), 2147483647), [], [], [])], [])
set_option maxRecDepth 20000 in
abbrev xx_X11_factsAt_0 : scX := (Tm, invM, lnX11, [], cc_X11_factsAt_0)
set_option maxRecDepth 20000 in
theorem hh_X11_factsAt_0 : scH Tm invM cc_X11_factsAt_0 := scCheck_ok (X := xx_X11_factsAt_0) (nodes := [(5, ([((-2147483648), 2147483647), ((-2147483648), 2147483647), ((-2147483648), 2147483647), (0, 24), (0, 5), (0, 60), (0, 7), (0, 24)], [some (.inr (.inr (.inl [0]))), some (.inl (some 0, 0)), some (.inl (some 1, 0)), some (.inl (some 2, 0)), some (.inl (some 3, 0))], [], [((67, 1), (some 4, 0)), ((67, 2), (some 5, 0)), ((67, 0), (some 6, 0)), ((4, 1), (some 7, 0))]), ([0, 0, 0, (-2)], 48))]) (fuel := 4000) ⟨lqX11, fa_nil⟩ dtX11_factsAt (by decide +kernel)
abbrev cc_X11_facts_0 : scC := (qX11_facts, 2, [((-2147483648), 2147483647)], [.inr (.inr (.inl [0])), .inl (some 0, 0)], [], [(1, ((-2147483648), 2147483647), [], [], [])], [(0, 0, 1), (2, 0, 1)])
set_option maxRecDepth 20000 in
abbrev xx_X11_facts_0 : scX := (Tm, invM, lnX11, [(177, 0, 11, cc_X11_bad_2), (177, 0, 11, cc_X11_bad_5), (331, 0, 11, cc_X11_isLife_0), (334, 0, 11, cc_X11_factsAt_0)], cc_X11_facts_0)
set_option maxRecDepth 20000 in
theorem hh_X11_facts_0 : scH Tm invM cc_X11_facts_0 := scCheck_ok (X := xx_X11_facts_0) (nodes := []) (fuel := 4000) ⟨lqX11, fa_cons (⟨⟨3, _, pcv_X11_177, rfl⟩, hh_X11_bad_2⟩) (fa_cons (⟨⟨3, _, pcv_X11_177, rfl⟩, hh_X11_bad_5⟩) (fa_cons (⟨⟨1, _, pcv_X11_331, rfl⟩, hh_X11_isLife_0⟩) (fa_cons (⟨⟨2, _, pcv_X11_334, rfl⟩, hh_X11_factsAt_0⟩) (fa_nil))))⟩ dtX11_facts (by decide +kernel)
abbrev cc_X11_wrongOf_0 : scC := (qX11_wrongOf, 6, [(0, 7)], [.inr (.inr (.inl [0])), .inl (some 0, 0)], [], [(1, ((-1), 64), [], [], [])], [(5, 0, 160), (6, 0, 5)])
set_option maxRecDepth 20000 in
abbrev xx_X11_wrongOf_0 : scX := (Tm, invM, lnX11, [(276, 0, 11, cc_X11_wrongIn_1), (283, 1, 0, cc_X11_hasPiece_1)], cc_X11_wrongOf_0)
set_option maxRecDepth 20000 in
theorem hh_X11_wrongOf_0 : scH Tm invM cc_X11_wrongOf_0 := scCheck_ok (X := xx_X11_wrongOf_0) (nodes := []) (fuel := 4000) ⟨lqX11, fa_cons (⟨⟨4, _, pcv_X11_276, rfl⟩, hh_X11_wrongIn_1⟩) (fa_cons (⟨pcs_X11_283, hh_X11_hasPiece_1⟩) (fa_nil))⟩ dtX11_wrongOf (by decide +kernel)
abbrev cc_X11_wrong_0 : scC := (qX11_wrong, 7, [((-2147483648), 2147483647)], [.inr (.inr (.inl [0])), .inl (some 0, 0)], [], [(1, ((-1), 64), [], [], [])], [(0, 0, 1), (2, 0, 1), (5, 0, 160), (6, 0, 5)])
set_option maxRecDepth 20000 in
abbrev xx_X11_wrong_0 : scX := (Tm, invM, lnX11, [(177, 0, 11, cc_X11_bad_2), (177, 0, 11, cc_X11_bad_5), (331, 0, 11, cc_X11_isLife_0), (337, 0, 11, cc_X11_wrongOf_0)], cc_X11_wrong_0)
set_option maxRecDepth 20000 in
theorem hh_X11_wrong_0 : scH Tm invM cc_X11_wrong_0 := scCheck_ok (X := xx_X11_wrong_0) (nodes := []) (fuel := 4000) ⟨lqX11, fa_cons (⟨⟨3, _, pcv_X11_177, rfl⟩, hh_X11_bad_2⟩) (fa_cons (⟨⟨3, _, pcv_X11_177, rfl⟩, hh_X11_bad_5⟩) (fa_cons (⟨⟨1, _, pcv_X11_331, rfl⟩, hh_X11_isLife_0⟩) (fa_cons (⟨⟨1, _, pcv_X11_337, rfl⟩, hh_X11_wrongOf_0⟩) (fa_nil))))⟩ dtX11_wrong (by decide +kernel)
abbrev cc_X11_in_3 : scC := (qX11_in, 0, [((-2147483648), 2147483647), (0, 0), (200, 200)], [.inl (some 0, 0), .inl (some 1, 0), .inl (some 2, 0)], [], [(1, (0, 0), [], [], []), (1, (1, 1), [], [(0, (0, 200))], [])], [])
set_option maxRecDepth 20000 in
abbrev xx_X11_in_3 : scX := (Tm, invM, lnX11, [], cc_X11_in_3)
set_option maxRecDepth 20000 in
theorem hh_X11_in_3 : scH Tm invM cc_X11_in_3 := scCheck_ok (X := xx_X11_in_3) (nodes := []) (fuel := 4000) ⟨lqX11, fa_nil⟩ dtX11_in (by decide +kernel)
abbrev cc_X11_in_4 : scC := (qX11_in, 0, [((-2147483648), 2147483647), (1, 1), (99, 99)], [.inl (some 0, 0), .inl (some 1, 0), .inl (some 2, 0)], [], [(1, (0, 0), [], [], []), (1, (1, 1), [], [(0, (1, 99))], [])], [])
set_option maxRecDepth 20000 in
abbrev xx_X11_in_4 : scX := (Tm, invM, lnX11, [], cc_X11_in_4)
set_option maxRecDepth 20000 in
theorem hh_X11_in_4 : scH Tm invM cc_X11_in_4 := scCheck_ok (X := xx_X11_in_4) (nodes := []) (fuel := 4000) ⟨lqX11, fa_nil⟩ dtX11_in (by decide +kernel)
abbrev cc_X11_in_5 : scC := (qX11_in, 0, [((-2147483648), 2147483647), (0, 0), (1, 1)], [.inl (some 0, 0), .inl (some 1, 0), .inl (some 2, 0)], [], [(1, (0, 0), [], [], []), (1, (1, 1), [], [(0, (0, 1))], [])], [])
set_option maxRecDepth 20000 in
abbrev xx_X11_in_5 : scX := (Tm, invM, lnX11, [], cc_X11_in_5)
set_option maxRecDepth 20000 in
theorem hh_X11_in_5 : scH Tm invM cc_X11_in_5 := scCheck_ok (X := xx_X11_in_5) (nodes := []) (fuel := 4000) ⟨lqX11, fa_nil⟩ dtX11_in (by decide +kernel)
abbrev cc_X11_in_6 : scC := (qX11_in, 0, [((-2147483648), 2147483647), (0, 0), (24, 24)], [.inl (some 0, 0), .inl (some 1, 0), .inl (some 2, 0)], [], [(1, (0, 0), [], [], []), (1, (1, 1), [], [(0, (0, 24))], [])], [])
set_option maxRecDepth 20000 in
abbrev xx_X11_in_6 : scX := (Tm, invM, lnX11, [], cc_X11_in_6)
set_option maxRecDepth 20000 in
theorem hh_X11_in_6 : scH Tm invM cc_X11_in_6 := scCheck_ok (X := xx_X11_in_6) (nodes := []) (fuel := 4000) ⟨lqX11, fa_nil⟩ dtX11_in (by decide +kernel)
abbrev cc_X11_would_0 : scC := (qX11_would, 5, [((-2147483648), 2147483647), ((-2147483648), 2147483647), ((-2147483648), 2147483647), ((-2147483648), 2147483647), ((-2147483648), 2147483647)], [.inr (.inr (.inl [0])), .inl (some 0, 0), .inl (some 1, 0), .inl (some 2, 0), .inl (some 3, 0), .inl (some 4, 0)], [], [(1, (0, 64), [], [], [])], [(0, 0, 1), (2, 1, 1), (5, 0, 160), (6, 0, 5)])
set_option maxRecDepth 20000 in
abbrev xx_X11_would_0 : scX := (Tm, invM, lnX11, [(135, 1, 0, cc_X11_in_3), (135, 1, 0, cc_X11_in_4), (135, 1, 0, cc_X11_in_5), (135, 1, 0, cc_X11_in_6), (177, 0, 11, cc_X11_bad_0), (177, 0, 11, cc_X11_bad_1), (273, 0, 11, cc_X11_wrongBy_0)], cc_X11_would_0)
set_option maxRecDepth 20000 in
theorem hh_X11_would_0 : scH Tm invM cc_X11_would_0 := scCheck_ok (X := xx_X11_would_0) (nodes := []) (fuel := 4000) ⟨lqX11, fa_cons (⟨pcs_X11_135, hh_X11_in_3⟩) (fa_cons (⟨pcs_X11_135, hh_X11_in_4⟩) (fa_cons (⟨pcs_X11_135, hh_X11_in_5⟩) (fa_cons (⟨pcs_X11_135, hh_X11_in_6⟩) (fa_cons (⟨⟨3, _, pcv_X11_177, rfl⟩, hh_X11_bad_0⟩) (fa_cons (⟨⟨3, _, pcv_X11_177, rfl⟩, hh_X11_bad_1⟩) (fa_cons (⟨⟨5, _, pcv_X11_273, rfl⟩, hh_X11_wrongBy_0⟩) (fa_nil)))))))⟩ dtX11_would (by decide +kernel)
abbrev cc_X11_noPart_0 : scC := (qX11_noPart, 1, [((-2147483648), 2147483647)], [.inr (.inr (.inl [0])), .inl (some 0, 0), .inl (none, 1)], [((0, 0), (none, 0))], [(1, (0, 0), [], [(0, (0, 1))], [((0, 0), (0, 0))]), (1, (1, 1), [], [], [((0, 0), (1, 1))])], [(0, 0, 1), (2, 1, 1)])
set_option maxRecDepth 20000 in
abbrev xx_X11_noPart_0 : scX := (Tm, invM, lnX11, [(135, 1, 0, cc_X11_in_5), (177, 0, 11, cc_X11_bad_0), (177, 0, 11, cc_X11_bad_1)], cc_X11_noPart_0)
set_option maxRecDepth 20000 in
theorem hh_X11_noPart_0 : scH Tm invM cc_X11_noPart_0 := scCheck_ok (X := xx_X11_noPart_0) (nodes := []) (fuel := 4000) ⟨lqX11, fa_cons (⟨pcs_X11_135, hh_X11_in_5⟩) (fa_cons (⟨⟨3, _, pcv_X11_177, rfl⟩, hh_X11_bad_0⟩) (fa_cons (⟨⟨3, _, pcv_X11_177, rfl⟩, hh_X11_bad_1⟩) (fa_nil)))⟩ dtX11_noPart (by decide +kernel)
abbrev cc_X11_loss_0 : scC := (qX11_loss, 2, [((-2147483648), 2147483647)], [.inr (.inr (.inl [0])), .inl (some 0, 0)], [], [(2, ((-9223372036854775808), 9223372036854775807), [], [], [])], [(0, 0, 1), (2, 1, 1)])
set_option maxRecDepth 20000 in
abbrev xx_X11_loss_0 : scX := (Tm, invM, lnX11, [(340, 0, 11, cc_X11_noPart_0), (345, 1, 0, cc_hand_partOf)], cc_X11_loss_0)
set_option maxRecDepth 20000 in
theorem hh_X11_loss_0 : scH Tm invM cc_X11_loss_0 := scCheck_ok (X := xx_X11_loss_0) (nodes := []) (fuel := 4000) ⟨lqX11, fa_cons (⟨⟨2, _, pcv_X11_340, rfl⟩, hh_X11_noPart_0⟩) (fa_cons (⟨pcs_X11_345, hh_hand_partOf⟩) (fa_nil))⟩ dtX11_loss (by decide +kernel)
abbrev cc_X11_noPart_1 : scC := (qX11_noPart, 1, [((-2147483648), 2147483647)], [.inr (.inr (.inl [0])), .inl (some 0, 0), .inl (none, 2)], [((0, 0), (none, 0))], [(1, (0, 0), [], [(0, (0, 1))], [((0, 0), (0, 0))]), (1, (1, 1), [], [], [((0, 0), (2, 2))])], [(0, 0, 1), (2, 1, 1)])
set_option maxRecDepth 20000 in
abbrev xx_X11_noPart_1 : scX := (Tm, invM, lnX11, [(135, 1, 0, cc_X11_in_5), (177, 0, 11, cc_X11_bad_3), (177, 0, 11, cc_X11_bad_4)], cc_X11_noPart_1)
set_option maxRecDepth 20000 in
theorem hh_X11_noPart_1 : scH Tm invM cc_X11_noPart_1 := scCheck_ok (X := xx_X11_noPart_1) (nodes := []) (fuel := 4000) ⟨lqX11, fa_cons (⟨pcs_X11_135, hh_X11_in_5⟩) (fa_cons (⟨⟨3, _, pcv_X11_177, rfl⟩, hh_X11_bad_3⟩) (fa_cons (⟨⟨3, _, pcv_X11_177, rfl⟩, hh_X11_bad_4⟩) (fa_nil)))⟩ dtX11_noPart (by decide +kernel)
abbrev cc_X11_cost_0 : scC := (qX11_cost, 8, [((-2147483648), 2147483647), ((-2147483648), 2147483647)], [.inr (.inr (.inl [0])), .inl (some 0, 0), .inl (some 1, 0)], [], [(2, ((-9223372036854775808), 9223372036854775807), [], [], [])], [(0, 0, 1), (2, 0, 2), (5, 0, 160), (6, 0, 5)])
set_option maxRecDepth 20000 in
abbrev xx_X11_cost_0 : scX := (Tm, invM, lnX11, [(177, 0, 11, cc_X11_bad_2), (177, 0, 11, cc_X11_bad_5), (293, 0, 11, cc_X11_costOf_1), (331, 0, 11, cc_X11_isLife_0), (340, 0, 11, cc_X11_noPart_1), (345, 1, 0, cc_hand_partOf)], cc_X11_cost_0)
set_option maxRecDepth 20000 in
theorem hh_X11_cost_0 : scH Tm invM cc_X11_cost_0 := scCheck_ok (X := xx_X11_cost_0) (nodes := []) (fuel := 4000) ⟨lqX11, fa_cons (⟨⟨3, _, pcv_X11_177, rfl⟩, hh_X11_bad_2⟩) (fa_cons (⟨⟨3, _, pcv_X11_177, rfl⟩, hh_X11_bad_5⟩) (fa_cons (⟨⟨2, _, pcv_X11_293, rfl⟩, hh_X11_costOf_1⟩) (fa_cons (⟨⟨1, _, pcv_X11_331, rfl⟩, hh_X11_isLife_0⟩) (fa_cons (⟨⟨2, _, pcv_X11_340, rfl⟩, hh_X11_noPart_1⟩) (fa_cons (⟨pcs_X11_345, hh_hand_partOf⟩) (fa_nil))))))⟩ dtX11_cost (by decide +kernel)
abbrev cc_X11_riskOf_0 : scC := (qX11_riskOf, 8, [], [.inr (.inr (.inl [0])), .inr (.inr (.inl [7]))], [], [(2, ((-9223372036854775808), 9223372036854775807), [], [], [])], [(5, 0, 160), (6, 0, 5)])
set_option maxRecDepth 20000 in
abbrev xx_X11_riskOf_0 : scX := (Tm, invM, lnX11, [(293, 0, 11, cc_X11_costOf_1)], cc_X11_riskOf_0)
set_option maxRecDepth 20000 in
theorem hh_X11_riskOf_0 : scH Tm invM cc_X11_riskOf_0 := scCheck_ok (X := xx_X11_riskOf_0) (nodes := [(5, ([(0, 8), (0, 64), (0, 8)], [some (.inr (.inr (.inl [0]))), some (.inr (.inr (.inl [7]))), some (.inr (.inl ((-9223372036854775808), 9223372036854775807))), none, some (.inl (some 0, 0))], [], [((35, 1), (some 1, 0)), ((4, 0), (some 2, 0))]), ([(-2)], 16))]) (fuel := 4000) ⟨lqX11, fa_cons (⟨⟨2, _, pcv_X11_293, rfl⟩, hh_X11_costOf_1⟩) (fa_nil)⟩ dtX11_riskOf (by decide +kernel)
abbrev cc_X11_risk_0 : scC := (qX11_risk, 9, [((-2147483648), 2147483647)], [.inr (.inr (.inl [0])), .inl (some 0, 0)], [], [(2, ((-9223372036854775808), 9223372036854775807), [], [], [])], [(0, 0, 1), (2, 1, 1), (5, 0, 160), (6, 0, 5)])
set_option maxRecDepth 20000 in
abbrev xx_X11_risk_0 : scX := (Tm, invM, lnX11, [(340, 0, 11, cc_X11_noPart_0), (345, 1, 0, cc_hand_partOf), (349, 0, 11, cc_X11_riskOf_0)], cc_X11_risk_0)
set_option maxRecDepth 20000 in
theorem hh_X11_risk_0 : scH Tm invM cc_X11_risk_0 := scCheck_ok (X := xx_X11_risk_0) (nodes := []) (fuel := 4000) ⟨lqX11, fa_cons (⟨⟨2, _, pcv_X11_340, rfl⟩, hh_X11_noPart_0⟩) (fa_cons (⟨pcs_X11_345, hh_hand_partOf⟩) (fa_cons (⟨⟨1, _, pcv_X11_349, rfl⟩, hh_X11_riskOf_0⟩) (fa_nil)))⟩ dtX11_risk (by decide +kernel)
abbrev cc_X11_mayWrite_1 : scC := (qX11_mayWrite, 1, [(0, 7)], [.inr (.inr (.inl [0])), .inr (.inr (.inl [7])), .inl (some 0, 0)], [], [(1, (0, 1), [], [], [])], [])
set_option maxRecDepth 20000 in
abbrev xx_X11_mayWrite_1 : scX := (Tm, invM, lnX11, [(256, 1, 0, cc_X11_has_0)], cc_X11_mayWrite_1)
set_option maxRecDepth 20000 in
theorem hh_X11_mayWrite_1 : scH Tm invM cc_X11_mayWrite_1 := scCheck_ok (X := xx_X11_mayWrite_1) (nodes := []) (fuel := 4000) ⟨lqX11, fa_cons (⟨pcs_X11_256, hh_X11_has_0⟩) (fa_nil)⟩ dtX11_mayWrite (by decide +kernel)
abbrev cc_X11_saved_1 : scC := (qX11_saved, 8, [(0, 0)], [.inr (.inr (.inl [0])), .inr (.inr (.inl [7])), .inl (some 0, 0)], [], [(1, (0, 2147483647), [], [], [])], [(5, 0, 160), (6, 0, 5)])
set_option maxRecDepth 20000 in
abbrev xx_X11_saved_1 : scX := (Tm, invM, lnX11, [(280, 0, 11, cc_X11_costIn_1), (293, 0, 11, cc_X11_costOf_1), (296, 0, 11, cc_X11_mayWrite_1)], cc_X11_saved_1)
set_option maxRecDepth 20000 in
theorem hh_X11_saved_1 : scH Tm invM cc_X11_saved_1 := scCheck_ok (X := xx_X11_saved_1) (nodes := []) (fuel := 4000) ⟨lqX11, fa_cons (⟨⟨4, _, pcv_X11_280, rfl⟩, hh_X11_costIn_1⟩) (fa_cons (⟨⟨2, _, pcv_X11_293, rfl⟩, hh_X11_costOf_1⟩) (fa_cons (⟨⟨2, _, pcv_X11_296, rfl⟩, hh_X11_mayWrite_1⟩) (fa_nil)))⟩ dtX11_saved (by decide +kernel)
abbrev cc_X11_hoursFor_1 : scC := (qX11_hoursFor, 2, [(0, 0)], [.inr (.inr (.inl [0])), .inr (.inr (.inl [7])), .inl (some 0, 0)], [], [(1, (0, 9), [], [], [])], [])
set_option maxRecDepth 20000 in
abbrev xx_X11_hoursFor_1 : scX := (Tm, invM, lnX11, [(283, 1, 0, cc_X11_hasPiece_1), (287, 0, 11, cc_X11_renewHours_0)], cc_X11_hoursFor_1)
set_option maxRecDepth 20000 in
theorem hh_X11_hoursFor_1 : scH Tm invM cc_X11_hoursFor_1 := scCheck_ok (X := xx_X11_hoursFor_1) (nodes := []) (fuel := 4000) ⟨lqX11, fa_cons (⟨pcs_X11_283, hh_X11_hasPiece_1⟩) (fa_cons (⟨⟨1, _, pcv_X11_287, rfl⟩, hh_X11_renewHours_0⟩) (fa_nil))⟩ dtX11_hoursFor (by decide +kernel)
abbrev cc_X11_saved_2 : scC := (qX11_saved, 8, [(0, 1)], [.inr (.inr (.inl [0])), .inr (.inr (.inl [7])), .inl (some 0, 0)], [], [(1, (0, 2147483647), [], [], [])], [(5, 0, 160), (6, 0, 5)])
set_option maxRecDepth 20000 in
abbrev xx_X11_saved_2 : scX := (Tm, invM, lnX11, [(280, 0, 11, cc_X11_costIn_1), (293, 0, 11, cc_X11_costOf_1), (296, 0, 11, cc_X11_mayWrite_1)], cc_X11_saved_2)
set_option maxRecDepth 20000 in
theorem hh_X11_saved_2 : scH Tm invM cc_X11_saved_2 := scCheck_ok (X := xx_X11_saved_2) (nodes := []) (fuel := 4000) ⟨lqX11, fa_cons (⟨⟨4, _, pcv_X11_280, rfl⟩, hh_X11_costIn_1⟩) (fa_cons (⟨⟨2, _, pcv_X11_293, rfl⟩, hh_X11_costOf_1⟩) (fa_cons (⟨⟨2, _, pcv_X11_296, rfl⟩, hh_X11_mayWrite_1⟩) (fa_nil)))⟩ dtX11_saved (by decide +kernel)
abbrev cc_X11_hoursFor_2 : scC := (qX11_hoursFor, 2, [(0, 1)], [.inr (.inr (.inl [0])), .inr (.inr (.inl [7])), .inl (some 0, 0)], [], [(1, (0, 9), [], [], [])], [])
set_option maxRecDepth 20000 in
abbrev xx_X11_hoursFor_2 : scX := (Tm, invM, lnX11, [(283, 1, 0, cc_X11_hasPiece_1), (287, 0, 11, cc_X11_renewHours_0)], cc_X11_hoursFor_2)
set_option maxRecDepth 20000 in
theorem hh_X11_hoursFor_2 : scH Tm invM cc_X11_hoursFor_2 := scCheck_ok (X := xx_X11_hoursFor_2) (nodes := []) (fuel := 4000) ⟨lqX11, fa_cons (⟨pcs_X11_283, hh_X11_hasPiece_1⟩) (fa_cons (⟨⟨1, _, pcv_X11_287, rfl⟩, hh_X11_renewHours_0⟩) (fa_nil))⟩ dtX11_hoursFor (by decide +kernel)
abbrev cc_X11_saved_3 : scC := (qX11_saved, 8, [(0, 2)], [.inr (.inr (.inl [0])), .inr (.inr (.inl [7])), .inl (some 0, 0)], [], [(1, (0, 2147483647), [], [], [])], [(5, 0, 160), (6, 0, 5)])
set_option maxRecDepth 20000 in
abbrev xx_X11_saved_3 : scX := (Tm, invM, lnX11, [(280, 0, 11, cc_X11_costIn_1), (293, 0, 11, cc_X11_costOf_1), (296, 0, 11, cc_X11_mayWrite_1)], cc_X11_saved_3)
set_option maxRecDepth 20000 in
theorem hh_X11_saved_3 : scH Tm invM cc_X11_saved_3 := scCheck_ok (X := xx_X11_saved_3) (nodes := []) (fuel := 4000) ⟨lqX11, fa_cons (⟨⟨4, _, pcv_X11_280, rfl⟩, hh_X11_costIn_1⟩) (fa_cons (⟨⟨2, _, pcv_X11_293, rfl⟩, hh_X11_costOf_1⟩) (fa_cons (⟨⟨2, _, pcv_X11_296, rfl⟩, hh_X11_mayWrite_1⟩) (fa_nil)))⟩ dtX11_saved (by decide +kernel)
abbrev cc_X11_hoursFor_3 : scC := (qX11_hoursFor, 2, [(0, 2)], [.inr (.inr (.inl [0])), .inr (.inr (.inl [7])), .inl (some 0, 0)], [], [(1, (0, 9), [], [], [])], [])
set_option maxRecDepth 20000 in
abbrev xx_X11_hoursFor_3 : scX := (Tm, invM, lnX11, [(283, 1, 0, cc_X11_hasPiece_1), (287, 0, 11, cc_X11_renewHours_0)], cc_X11_hoursFor_3)
set_option maxRecDepth 20000 in
theorem hh_X11_hoursFor_3 : scH Tm invM cc_X11_hoursFor_3 := scCheck_ok (X := xx_X11_hoursFor_3) (nodes := []) (fuel := 4000) ⟨lqX11, fa_cons (⟨pcs_X11_283, hh_X11_hasPiece_1⟩) (fa_cons (⟨⟨1, _, pcv_X11_287, rfl⟩, hh_X11_renewHours_0⟩) (fa_nil))⟩ dtX11_hoursFor (by decide +kernel)
abbrev cc_X11_saved_4 : scC := (qX11_saved, 8, [(0, 7)], [.inr (.inr (.inl [0])), .inr (.inr (.inl [7])), .inl (some 0, 0)], [], [(1, (0, 2147483647), [], [], [])], [(5, 0, 160), (6, 0, 5)])
set_option maxRecDepth 20000 in
abbrev xx_X11_saved_4 : scX := (Tm, invM, lnX11, [(280, 0, 11, cc_X11_costIn_1), (293, 0, 11, cc_X11_costOf_1), (296, 0, 11, cc_X11_mayWrite_1)], cc_X11_saved_4)
set_option maxRecDepth 20000 in
theorem hh_X11_saved_4 : scH Tm invM cc_X11_saved_4 := scCheck_ok (X := xx_X11_saved_4) (nodes := []) (fuel := 4000) ⟨lqX11, fa_cons (⟨⟨4, _, pcv_X11_280, rfl⟩, hh_X11_costIn_1⟩) (fa_cons (⟨⟨2, _, pcv_X11_293, rfl⟩, hh_X11_costOf_1⟩) (fa_cons (⟨⟨2, _, pcv_X11_296, rfl⟩, hh_X11_mayWrite_1⟩) (fa_nil)))⟩ dtX11_saved (by decide +kernel)
abbrev cc_X11_hoursFor_4 : scC := (qX11_hoursFor, 2, [(0, 7)], [.inr (.inr (.inl [0])), .inr (.inr (.inl [7])), .inl (some 0, 0)], [], [(1, (0, 9), [], [], [])], [])
set_option maxRecDepth 20000 in
abbrev xx_X11_hoursFor_4 : scX := (Tm, invM, lnX11, [(283, 1, 0, cc_X11_hasPiece_1), (287, 0, 11, cc_X11_renewHours_0)], cc_X11_hoursFor_4)
set_option maxRecDepth 20000 in
theorem hh_X11_hoursFor_4 : scH Tm invM cc_X11_hoursFor_4 := scCheck_ok (X := xx_X11_hoursFor_4) (nodes := []) (fuel := 4000) ⟨lqX11, fa_cons (⟨pcs_X11_283, hh_X11_hasPiece_1⟩) (fa_cons (⟨⟨1, _, pcv_X11_287, rfl⟩, hh_X11_renewHours_0⟩) (fa_nil))⟩ dtX11_hoursFor (by decide +kernel)
abbrev cc_X11_firstOf_0 : scC := (qX11_firstOf, 9, [(12, 12)], [.inr (.inr (.inl [0])), .inr (.inr (.inl [7])), .inl (some 0, 0)], [], [(1, ((-1), 7), [], [], [])], [(5, 0, 160), (6, 0, 5)])
set_option maxRecDepth 20000 in
abbrev xx_X11_firstOf_0 : scX := (Tm, invM, lnX11, [(290, 0, 11, cc_X11_hoursFor_1), (290, 0, 11, cc_X11_hoursFor_2), (290, 0, 11, cc_X11_hoursFor_3), (290, 0, 11, cc_X11_hoursFor_4), (355, 0, 11, cc_X11_saved_1), (355, 0, 11, cc_X11_saved_2), (355, 0, 11, cc_X11_saved_3), (355, 0, 11, cc_X11_saved_4)], cc_X11_firstOf_0)
set_option maxRecDepth 20000 in
theorem hh_X11_firstOf_0 : scH Tm invM cc_X11_firstOf_0 := scCheck_ok (X := xx_X11_firstOf_0) (nodes := [(5, ([(12, 12), ((-1), 7), (0, 8), (0, 8)], [some (.inr (.inr (.inl [0]))), some (.inr (.inr (.inl [7]))), some (.inl (some 0, 0)), some (.inl (some 1, 0)), some (.inl (some 2, 0))], [], [((4, 0), (some 3, 0))]), ([0, 0, (-2)], 16))]) (fuel := 4000) ⟨lqX11, fa_cons (⟨⟨2, _, pcv_X11_290, rfl⟩, hh_X11_hoursFor_1⟩) (fa_cons (⟨⟨2, _, pcv_X11_290, rfl⟩, hh_X11_hoursFor_2⟩) (fa_cons (⟨⟨2, _, pcv_X11_290, rfl⟩, hh_X11_hoursFor_3⟩) (fa_cons (⟨⟨2, _, pcv_X11_290, rfl⟩, hh_X11_hoursFor_4⟩) (fa_cons (⟨⟨2, _, pcv_X11_355, rfl⟩, hh_X11_saved_1⟩) (fa_cons (⟨⟨2, _, pcv_X11_355, rfl⟩, hh_X11_saved_2⟩) (fa_cons (⟨⟨2, _, pcv_X11_355, rfl⟩, hh_X11_saved_3⟩) (fa_cons (⟨⟨2, _, pcv_X11_355, rfl⟩, hh_X11_saved_4⟩) (fa_nil))))))))⟩ dtX11_firstOf (by decide +kernel)
abbrev cc_X11_first_0 : scC := (qX11_first, 10, [], [.inr (.inr (.inl [0]))], [], [(1, ((-1), 7), [], [], [])], [(0, 0, 1), (5, 0, 160), (6, 0, 5)])
set_option maxRecDepth 20000 in
abbrev xx_X11_first_0 : scX := (Tm, invM, lnX11, [(358, 0, 11, cc_X11_firstOf_0)], cc_X11_first_0)
set_option maxRecDepth 20000 in
theorem hh_X11_first_0 : scH Tm invM cc_X11_first_0 := scCheck_ok (X := xx_X11_first_0) (nodes := []) (fuel := 4000) ⟨lqX11, fa_cons (⟨⟨2, _, pcv_X11_358, rfl⟩, hh_X11_firstOf_0⟩) (fa_nil)⟩ dtX11_first (by decide +kernel)
abbrev cc_X11_lacking_0 : scC := (qX11_lacking, 1, [], [.inr (.inr (.inl [0]))], [], [(1, ((-2147483648), 2147483647), [], [], [])], [(0, 0, 1)])
set_option maxRecDepth 20000 in
abbrev xx_X11_lacking_0 : scX := (Tm, invM, lnX11, [(256, 1, 0, cc_X11_has_0), (283, 1, 0, cc_X11_hasPiece_1)], cc_X11_lacking_0)
set_option maxRecDepth 20000 in
theorem hh_X11_lacking_0 : scH Tm invM cc_X11_lacking_0 := scCheck_ok (X := xx_X11_lacking_0) (nodes := [(9, ([((-2147483648), 2147483647), (0, 8), (0, 0), ((-2147483648), 2147483647), (0, 8)], [some (.inr (.inr (.inl [0]))), some (.inl (some 0, 0)), some (.inl (some 1, 0))], [], [((0, 0), (some 2, 0)), ((7, 0), (some 3, 0)), ((4, 0), (some 4, 0))]), ([0, (-2)], 16))]) (fuel := 4000) ⟨lqX11, fa_cons (⟨pcs_X11_256, hh_X11_has_0⟩) (fa_cons (⟨pcs_X11_283, hh_X11_hasPiece_1⟩) (fa_nil))⟩ dtX11_lacking (by decide +kernel)
abbrev cc_X11_signed_0 : scC := (qX11_signed, 2, [], [.inr (.inr (.inl [0]))], [], [(1, ((-2147483648), 2147483647), [], [], [])], [(0, 0, 1)])
set_option maxRecDepth 20000 in
abbrev xx_X11_signed_0 : scX := (Tm, invM, lnX11, [(266, 0, 11, cc_X11_isByDead_1), (283, 1, 0, cc_X11_hasPiece_1)], cc_X11_signed_0)
set_option maxRecDepth 20000 in
theorem hh_X11_signed_0 : scH Tm invM cc_X11_signed_0 := scCheck_ok (X := xx_X11_signed_0) (nodes := [(9, ([((-2147483648), 2147483647), (0, 8), (0, 0), (0, 8)], [some (.inr (.inr (.inl [0]))), some (.inl (some 0, 0)), some (.inl (some 1, 0))], [], [((0, 0), (some 2, 0)), ((4, 0), (some 3, 0))]), ([0, (-2)], 16))]) (fuel := 4000) ⟨lqX11, fa_cons (⟨⟨2, _, pcv_X11_266, rfl⟩, hh_X11_isByDead_1⟩) (fa_cons (⟨pcs_X11_283, hh_X11_hasPiece_1⟩) (fa_nil))⟩ dtX11_signed (by decide +kernel)
abbrev cc_X11_in_7 : scC := (qX11_in, 0, [((-2147483648), 2147483647), (0, 0), (65, 65)], [.inl (some 0, 0), .inl (some 1, 0), .inl (some 2, 0)], [], [(1, (0, 0), [], [], []), (1, (1, 1), [], [(0, (0, 65))], [])], [])
set_option maxRecDepth 20000 in
abbrev xx_X11_in_7 : scX := (Tm, invM, lnX11, [], cc_X11_in_7)
set_option maxRecDepth 20000 in
theorem hh_X11_in_7 : scH Tm invM cc_X11_in_7 := scCheck_ok (X := xx_X11_in_7) (nodes := []) (fuel := 4000) ⟨lqX11, fa_nil⟩ dtX11_in (by decide +kernel)
abbrev cc_X11_stale_0 : scC := (qX11_stale, 7, [((-2147483648), 2147483647)], [.inr (.inr (.inl [0])), .inl (some 0, 0)], [], [(1, ((-2147483648), 2147483647), [], [], [])], [(0, 0, 1), (2, 1, 1), (5, 0, 160), (6, 0, 5)])
set_option maxRecDepth 20000 in
abbrev xx_X11_stale_0 : scX := (Tm, invM, lnX11, [(135, 1, 0, cc_X11_in_7), (177, 0, 11, cc_X11_bad_0), (177, 0, 11, cc_X11_bad_1), (283, 1, 0, cc_X11_hasPiece_1), (337, 0, 11, cc_X11_wrongOf_0)], cc_X11_stale_0)
set_option maxRecDepth 20000 in
theorem hh_X11_stale_0 : scH Tm invM cc_X11_stale_0 := scCheck_ok (X := xx_X11_stale_0) (nodes := [(35, ([(0, 65), ((-2147483648), 2147483647), (0, 8), (0, 0), (0, 8)], [some (.inr (.inr (.inl [0]))), some (.inl (some 0, 0)), some (.inl (some 1, 0)), some (.inl (some 2, 0))], [], [((0, 0), (some 3, 0)), ((4, 0), (some 4, 0))]), ([0, 0, (-2)], 16))]) (fuel := 4000) ⟨lqX11, fa_cons (⟨pcs_X11_135, hh_X11_in_7⟩) (fa_cons (⟨⟨3, _, pcv_X11_177, rfl⟩, hh_X11_bad_0⟩) (fa_cons (⟨⟨3, _, pcv_X11_177, rfl⟩, hh_X11_bad_1⟩) (fa_cons (⟨pcs_X11_283, hh_X11_hasPiece_1⟩) (fa_cons (⟨⟨1, _, pcv_X11_337, rfl⟩, hh_X11_wrongOf_0⟩) (fa_nil)))))⟩ dtX11_stale (by decide +kernel)
abbrev cc_X11_in_8 : scC := (qX11_in, 0, [((-2147483648), 2147483647), (1, 1), (3, 3)], [.inl (some 0, 0), .inl (some 1, 0), .inl (some 2, 0)], [], [(1, (0, 0), [], [], []), (1, (1, 1), [], [(0, (1, 3))], [])], [])
set_option maxRecDepth 20000 in
abbrev xx_X11_in_8 : scX := (Tm, invM, lnX11, [], cc_X11_in_8)
set_option maxRecDepth 20000 in
theorem hh_X11_in_8 : scH Tm invM cc_X11_in_8 := scCheck_ok (X := xx_X11_in_8) (nodes := []) (fuel := 4000) ⟨lqX11, fa_nil⟩ dtX11_in (by decide +kernel)
abbrev cc_X11_roomOf_0 : scC := (qX11_roomOf, 0, [(0, 12), (1, 12), (1, 12)], [.inl (some 0, 0), .inl (some 1, 0), .inl (some 2, 0)], [], [(1, (14, 2196), [], [], [])], [])
set_option maxRecDepth 20000 in
abbrev xx_X11_roomOf_0 : scX := (Tm, invM, lnX11, [], cc_X11_roomOf_0)
set_option maxRecDepth 20000 in
theorem hh_X11_roomOf_0 : scH Tm invM cc_X11_roomOf_0 := scCheck_ok (X := xx_X11_roomOf_0) (nodes := []) (fuel := 4000) ⟨lqX11, fa_nil⟩ dtX11_roomOf (by decide +kernel)
abbrev cc_X11_power_1 : scC := (qX11_power, 0, [((-2147483648), 2147483647)], [.inr (.inl ((-9223372036854775808), 9223372036854775807)), .inl (some 0, 0)], [], [(2, ((-9223372036854775808), 9223372036854775807), [], [], [])], [])
set_option maxRecDepth 20000 in
abbrev xx_X11_power_1 : scX := (Tm, invM, lnX11, [], cc_X11_power_1)
set_option maxRecDepth 20000 in
theorem hh_X11_power_1 : scH Tm invM cc_X11_power_1 := scCheck_ok (X := xx_X11_power_1) (nodes := [(5, ([((-2147483648), 2147483647), (0, 2147483647)], [some (.inr (.inl ((-9223372036854775808), 9223372036854775807))), none, some (.inl (some 0, 0)), some (.inr (.inl ((-9223372036854775808), 9223372036854775807))), none, some (.inl (some 1, 0))], [], []), ([0, (-2)], 4294967294))]) (fuel := 4000) ⟨lqX11, fa_nil⟩ dtX11_power (by decide +kernel)
abbrev cc_X11_yearsOf_1 : scC := (qX11_yearsOf, 0, [(0, 0), (0, 255)], [.inr (.inr (.inl [0])), .inl (some 0, 0), .inl (some 1, 0)], [], [(1, (0, 365), [], [], [])], [])
set_option maxRecDepth 20000 in
abbrev xx_X11_yearsOf_1 : scX := (Tm, invM, lnX11, [], cc_X11_yearsOf_1)
set_option maxRecDepth 20000 in
theorem hh_X11_yearsOf_1 : scH Tm invM cc_X11_yearsOf_1 := scCheck_ok (X := xx_X11_yearsOf_1) (nodes := []) (fuel := 4000) ⟨lqX11, fa_nil⟩ dtX11_yearsOf (by decide +kernel)
abbrev cc_X11_wrongIn_2 : scC := (qX11_wrongIn, 5, [(0, 0), (0, 255), (0, 255)], [.inr (.inr (.inl [0])), .inr (.inr (.inl [7])), .inl (some 0, 0), .inl (some 1, 0), .inl (some 2, 0)], [], [(1, (0, 64), [], [], [])], [(5, 0, 160), (6, 0, 5)])
set_option maxRecDepth 20000 in
abbrev xx_X11_wrongIn_2 : scX := (Tm, invM, lnX11, [(263, 0, 11, cc_X11_yearsOf_1), (266, 0, 11, cc_X11_isByDead_1), (270, 0, 11, cc_X11_changesOf_0), (273, 0, 11, cc_X11_wrongBy_0)], cc_X11_wrongIn_2)
set_option maxRecDepth 20000 in
theorem hh_X11_wrongIn_2 : scH Tm invM cc_X11_wrongIn_2 := scCheck_ok (X := xx_X11_wrongIn_2) (nodes := []) (fuel := 4000) ⟨lqX11, fa_cons (⟨⟨2, _, pcv_X11_263, rfl⟩, hh_X11_yearsOf_1⟩) (fa_cons (⟨⟨2, _, pcv_X11_266, rfl⟩, hh_X11_isByDead_1⟩) (fa_cons (⟨⟨3, _, pcv_X11_270, rfl⟩, hh_X11_changesOf_0⟩) (fa_cons (⟨⟨5, _, pcv_X11_273, rfl⟩, hh_X11_wrongBy_0⟩) (fa_nil))))⟩ dtX11_wrongIn (by decide +kernel)
abbrev cc_X11_costIn_2 : scC := (qX11_costIn, 6, [(0, 0), (0, 255), (0, 255)], [.inr (.inr (.inl [0])), .inr (.inr (.inl [7])), .inl (some 0, 0), .inl (some 1, 0), .inl (some 2, 0)], [], [(1, (0, 57024), [], [], [])], [(5, 0, 160), (6, 0, 5)])
set_option maxRecDepth 20000 in
abbrev xx_X11_costIn_2 : scX := (Tm, invM, lnX11, [(276, 0, 11, cc_X11_wrongIn_2)], cc_X11_costIn_2)
set_option maxRecDepth 20000 in
theorem hh_X11_costIn_2 : scH Tm invM cc_X11_costIn_2 := scCheck_ok (X := xx_X11_costIn_2) (nodes := []) (fuel := 4000) ⟨lqX11, fa_cons (⟨⟨4, _, pcv_X11_276, rfl⟩, hh_X11_wrongIn_2⟩) (fa_nil)⟩ dtX11_costIn (by decide +kernel)
abbrev cc_X11_wrongIn_3 : scC := (qX11_wrongIn, 5, [(0, 0), ((-1000), 200), (0, 255)], [.inr (.inr (.inl [0])), .inr (.inr (.inl [7])), .inl (some 0, 0), .inl (some 1, 0), .inl (some 2, 0)], [], [(1, (0, 64), [], [], [])], [(5, 0, 160), (6, 0, 5)])
set_option maxRecDepth 20000 in
abbrev xx_X11_wrongIn_3 : scX := (Tm, invM, lnX11, [(263, 0, 11, cc_X11_yearsOf_1), (266, 0, 11, cc_X11_isByDead_1), (270, 0, 11, cc_X11_changesOf_0), (273, 0, 11, cc_X11_wrongBy_0)], cc_X11_wrongIn_3)
set_option maxRecDepth 20000 in
theorem hh_X11_wrongIn_3 : scH Tm invM cc_X11_wrongIn_3 := scCheck_ok (X := xx_X11_wrongIn_3) (nodes := []) (fuel := 4000) ⟨lqX11, fa_cons (⟨⟨2, _, pcv_X11_263, rfl⟩, hh_X11_yearsOf_1⟩) (fa_cons (⟨⟨2, _, pcv_X11_266, rfl⟩, hh_X11_isByDead_1⟩) (fa_cons (⟨⟨3, _, pcv_X11_270, rfl⟩, hh_X11_changesOf_0⟩) (fa_cons (⟨⟨5, _, pcv_X11_273, rfl⟩, hh_X11_wrongBy_0⟩) (fa_nil))))⟩ dtX11_wrongIn (by decide +kernel)
abbrev cc_X11_costIn_3 : scC := (qX11_costIn, 6, [(0, 0), ((-1000), 200), (0, 255)], [.inr (.inr (.inl [0])), .inr (.inr (.inl [7])), .inl (some 0, 0), .inl (some 1, 0), .inl (some 2, 0)], [], [(1, (0, 57024), [], [], [])], [(5, 0, 160), (6, 0, 5)])
set_option maxRecDepth 20000 in
abbrev xx_X11_costIn_3 : scX := (Tm, invM, lnX11, [(276, 0, 11, cc_X11_wrongIn_3)], cc_X11_costIn_3)
set_option maxRecDepth 20000 in
theorem hh_X11_costIn_3 : scH Tm invM cc_X11_costIn_3 := scCheck_ok (X := xx_X11_costIn_3) (nodes := []) (fuel := 4000) ⟨lqX11, fa_cons (⟨⟨4, _, pcv_X11_276, rfl⟩, hh_X11_wrongIn_3⟩) (fa_nil)⟩ dtX11_costIn (by decide +kernel)
abbrev cc_X11_wrongIn_4 : scC := (qX11_wrongIn, 5, [(0, 0), ((-1000), 600), (0, 255)], [.inr (.inr (.inl [0])), .inr (.inr (.inl [7])), .inl (some 0, 0), .inl (some 1, 0), .inl (some 2, 0)], [], [(1, (0, 64), [], [], [])], [(5, 0, 160), (6, 0, 5)])
set_option maxRecDepth 20000 in
abbrev xx_X11_wrongIn_4 : scX := (Tm, invM, lnX11, [(263, 0, 11, cc_X11_yearsOf_1), (266, 0, 11, cc_X11_isByDead_1), (270, 0, 11, cc_X11_changesOf_0), (273, 0, 11, cc_X11_wrongBy_0)], cc_X11_wrongIn_4)
set_option maxRecDepth 20000 in
theorem hh_X11_wrongIn_4 : scH Tm invM cc_X11_wrongIn_4 := scCheck_ok (X := xx_X11_wrongIn_4) (nodes := []) (fuel := 4000) ⟨lqX11, fa_cons (⟨⟨2, _, pcv_X11_263, rfl⟩, hh_X11_yearsOf_1⟩) (fa_cons (⟨⟨2, _, pcv_X11_266, rfl⟩, hh_X11_isByDead_1⟩) (fa_cons (⟨⟨3, _, pcv_X11_270, rfl⟩, hh_X11_changesOf_0⟩) (fa_cons (⟨⟨5, _, pcv_X11_273, rfl⟩, hh_X11_wrongBy_0⟩) (fa_nil))))⟩ dtX11_wrongIn (by decide +kernel)
abbrev cc_X11_costIn_4 : scC := (qX11_costIn, 6, [(0, 0), ((-1000), 600), (0, 255)], [.inr (.inr (.inl [0])), .inr (.inr (.inl [7])), .inl (some 0, 0), .inl (some 1, 0), .inl (some 2, 0)], [], [(1, (0, 57024), [], [], [])], [(5, 0, 160), (6, 0, 5)])
set_option maxRecDepth 20000 in
abbrev xx_X11_costIn_4 : scX := (Tm, invM, lnX11, [(276, 0, 11, cc_X11_wrongIn_4)], cc_X11_costIn_4)
set_option maxRecDepth 20000 in
theorem hh_X11_costIn_4 : scH Tm invM cc_X11_costIn_4 := scCheck_ok (X := xx_X11_costIn_4) (nodes := []) (fuel := 4000) ⟨lqX11, fa_cons (⟨⟨4, _, pcv_X11_276, rfl⟩, hh_X11_wrongIn_4⟩) (fa_nil)⟩ dtX11_costIn (by decide +kernel)
abbrev cc_X11_isOption_0 : scC := (qX11_isOption, 7, [(0, 0), (1, 3), (0, 0)], [.inr (.inr (.inl [0])), .inl (some 0, 0), .inl (some 1, 0), .inl (some 2, 0)], [], [(1, (0, 1), [], [], [])], [(0, 43, 1), (5, 0, 160), (6, 0, 5), (13, 0, 3)])
set_option maxRecDepth 20000 in
abbrev xx_X11_isOption_0 : scX := (Tm, invM, lnX11, [(256, 1, 0, cc_X11_has_0), (280, 0, 11, cc_X11_costIn_2), (280, 0, 11, cc_X11_costIn_1), (280, 0, 11, cc_X11_costIn_3), (280, 0, 11, cc_X11_costIn_4), (287, 0, 11, cc_X11_renewHours_0), (365, 1, 0, cc_hand_power), (365, 1, 0, cc_X11_power_1)], cc_X11_isOption_0)
set_option maxRecDepth 20000 in
theorem hh_X11_isOption_0 : scH Tm invM cc_X11_isOption_0 := scCheck_ok (X := xx_X11_isOption_0) (nodes := [(28, ([(0, 0), (1, 3), (0, 0), ((-1000), 200), (0, 64), (0, 3), (0, 64), ((-1000), 200), (0, 9)], [some (.inr (.inr (.inl [0]))), some (.inl (some 0, 0)), some (.inl (some 1, 0)), some (.inl (some 2, 0)), some (.inl (some 3, 0)), some (.inl (some 4, 0)), some (.inl (some 5, 0)), none], [], [((35, 1), (some 6, 0)), ((7, 1), (some 7, 0)), ((13, 0), (some 8, 0))]), ([0, 0, 0, 0, 0, (-2)], 14)), (74, ([(0, 0), (1, 3), (0, 0), ((-1000), 600), (0, 64), (0, 3), ((-2147483648), 2147483647), (0, 64), ((-1000), 200), (0, 9), (0, 9), (0, 200)], [some (.inr (.inr (.inl [0]))), some (.inl (some 0, 0)), some (.inl (some 1, 0)), some (.inl (some 2, 0)), some (.inl (some 3, 0)), some (.inl (some 4, 0)), some (.inl (some 5, 0)), none], [], [((7, 0), (some 6, 0)), ((35, 1), (some 7, 0)), ((7, 1), (some 8, 0)), ((13, 0), (some 9, 0)), ((35, 3), (some 10, 0)), ((7, 10), (some 11, 0))]), ([0, 0, 0, 0, 0, (-2)], 6))]) (fuel := 4000) ⟨lqX11, fa_cons (⟨pcs_X11_256, hh_X11_has_0⟩) (fa_cons (⟨⟨4, _, pcv_X11_280, rfl⟩, hh_X11_costIn_2⟩) (fa_cons (⟨⟨4, _, pcv_X11_280, rfl⟩, hh_X11_costIn_1⟩) (fa_cons (⟨⟨4, _, pcv_X11_280, rfl⟩, hh_X11_costIn_3⟩) (fa_cons (⟨⟨4, _, pcv_X11_280, rfl⟩, hh_X11_costIn_4⟩) (fa_cons (⟨⟨1, _, pcv_X11_287, rfl⟩, hh_X11_renewHours_0⟩) (fa_cons (⟨pcs_X11_365, hh_hand_power⟩) (fa_cons (⟨pcs_X11_365, hh_X11_power_1⟩) (fa_nil))))))))⟩ dtX11_isOption (by decide +kernel)
abbrev cc_X11_isOption_1 : scC := (qX11_isOption, 7, [(0, 0), (1, 3), (0, 2147483647)], [.inr (.inr (.inl [0])), .inl (some 0, 0), .inl (some 1, 0), .inl (some 2, 0)], [], [(1, (0, 1), [], [], [])], [(0, 43, 1), (5, 0, 160), (6, 0, 5), (13, 0, 3)])
set_option maxRecDepth 20000 in
abbrev xx_X11_isOption_1 : scX := (Tm, invM, lnX11, [(256, 1, 0, cc_X11_has_0), (280, 0, 11, cc_X11_costIn_2), (280, 0, 11, cc_X11_costIn_1), (280, 0, 11, cc_X11_costIn_3), (280, 0, 11, cc_X11_costIn_4), (287, 0, 11, cc_X11_renewHours_0), (365, 1, 0, cc_hand_power), (365, 1, 0, cc_X11_power_1)], cc_X11_isOption_1)
set_option maxRecDepth 20000 in
theorem hh_X11_isOption_1 : scH Tm invM cc_X11_isOption_1 := scCheck_ok (X := xx_X11_isOption_1) (nodes := [(28, ([(0, 0), (1, 3), (0, 2147483647), ((-1000), 200), (0, 64), (0, 3), (0, 64), ((-1000), 200), (0, 9)], [some (.inr (.inr (.inl [0]))), some (.inl (some 0, 0)), some (.inl (some 1, 0)), some (.inl (some 2, 0)), some (.inl (some 3, 0)), some (.inl (some 4, 0)), some (.inl (some 5, 0)), none], [], [((35, 1), (some 6, 0)), ((7, 1), (some 7, 0)), ((13, 0), (some 8, 0))]), ([0, 0, 0, 0, 0, (-2)], 14)), (74, ([(0, 0), (1, 3), (0, 2147483647), ((-1000), 600), (0, 64), (0, 3), ((-2147483648), 2147483647), (0, 64), ((-1000), 200), (0, 9), (0, 9), (0, 200)], [some (.inr (.inr (.inl [0]))), some (.inl (some 0, 0)), some (.inl (some 1, 0)), some (.inl (some 2, 0)), some (.inl (some 3, 0)), some (.inl (some 4, 0)), some (.inl (some 5, 0)), none], [], [((7, 0), (some 6, 0)), ((35, 1), (some 7, 0)), ((7, 1), (some 8, 0)), ((13, 0), (some 9, 0)), ((35, 3), (some 10, 0)), ((7, 10), (some 11, 0))]), ([0, 0, 0, 0, 0, (-2)], 6))]) (fuel := 4000) ⟨lqX11, fa_cons (⟨pcs_X11_256, hh_X11_has_0⟩) (fa_cons (⟨⟨4, _, pcv_X11_280, rfl⟩, hh_X11_costIn_2⟩) (fa_cons (⟨⟨4, _, pcv_X11_280, rfl⟩, hh_X11_costIn_1⟩) (fa_cons (⟨⟨4, _, pcv_X11_280, rfl⟩, hh_X11_costIn_3⟩) (fa_cons (⟨⟨4, _, pcv_X11_280, rfl⟩, hh_X11_costIn_4⟩) (fa_cons (⟨⟨1, _, pcv_X11_287, rfl⟩, hh_X11_renewHours_0⟩) (fa_cons (⟨pcs_X11_365, hh_hand_power⟩) (fa_cons (⟨pcs_X11_365, hh_X11_power_1⟩) (fa_nil))))))))⟩ dtX11_isOption (by decide +kernel)
abbrev cc_X11_yearsOf_2 : scC := (qX11_yearsOf, 0, [(0, 7), (0, 255)], [.inr (.inr (.inl [0])), .inl (some 0, 0), .inl (some 1, 0)], [], [(1, (0, 365), [], [], [])], [])
set_option maxRecDepth 20000 in
abbrev xx_X11_yearsOf_2 : scX := (Tm, invM, lnX11, [], cc_X11_yearsOf_2)
set_option maxRecDepth 20000 in
theorem hh_X11_yearsOf_2 : scH Tm invM cc_X11_yearsOf_2 := scCheck_ok (X := xx_X11_yearsOf_2) (nodes := []) (fuel := 4000) ⟨lqX11, fa_nil⟩ dtX11_yearsOf (by decide +kernel)
end
